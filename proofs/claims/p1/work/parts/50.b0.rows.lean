set_option maxRecDepth 100000 in
set_option maxHeartbeats 4000000 in
theorem c_X12_fault (l : Launch) (g : GG) (h0 : Nat) (a1 : Nat) (a2 : Nat) (a3 : Nat) (a4 : Nat) (a6 : Nat) (a14 : Nat) (a15 : Nat) (a19 : Nat) (a20 : Nat) (a23 : Nat) (a24 : Nat) (a25 : Nat) (a26 : Nat) (a27 : Nat) (a28 : Nat) (p1 : Int32) : Ct l g yX12_fault cX12_fault 2 (some .int) { frames := 0, cells := 0, slots := 0, locals := 0 } [.ref h0, .int p1] [(h0, .inr (12, [.int 0, .ref a1, .ref a2, .ref a3, .ref a4, .int 0, .ref a6, .int 0, .int 0, .int 0, .int 0, .int 0, .int 0, .int (-1), .ref a14, .ref a15, .int 0, .int 0, .int 0, .ref a19, .ref a20, .int 0, .int 0, .ref a23, .ref a24, .ref a25, .ref a26, .ref a27, .ref a28]))] (S := Unit) (fun _ => some (.int (sp_fault p1))) (fun _ => True) (fun u => []) := by
  refine Ct.of (by decide) (Nat.le_of_ble_eq_true rfl) ?_
  intro p e s m below meth c A ls FX hP hD hS hl
  obtain ⟨FC, hr, hlk, hKn, hA, hnm⟩ := id FX
  have FC : CallFix p m c cX12_fault 2 s _ BIG RX12 := FC
  obtain ⟨hx, hb, hml, hown, hB⟩ := id FC
  have hl : lv_has ls 2 [(0, .ref h0), (1, .int p1)] := hl
  refine lv_iload_n hx hb dX12_fault_0 rfl (lv_at hl 1 rfl) ?_
  refine lv_if_ne (tgt := 11) hx hb dX12_fault_1 (by decide) (fun c1 => ?_) (fun c1 => ?_)
  · have c1 := k_ne (a := p1.toInt) (b := 0) rfl (by decide) c1
    refine lv_iload_n hx hb dX12_fault_11 rfl (lv_at hl 1 rfl) ?_
    refine lv_iconst (v := 1) hx hb dX12_fault_12 (by decide) ?_
    refine lv_icmp_ne (tgt := 23) hx hb dX12_fault_13 (by decide) (fun c2 => ?_) (fun c2 => ?_)
    · have c2 := k_ne (a := p1.toInt) (b := 1) rfl (by decide) c2
      refine lv_iconst (v := -1) hx hb dX12_fault_23 (by decide) ?_
      exact rt_i FX () (congrArg (fun z => some (Value.int z)) (show (-1 : Int32) = _ from by first | decide | (unfold sp_fault; (repeat' split) <;> first | rfl | (exfalso; omega)))) trivial (hP.sub [] rfl) (hD.sub [] (by decide) rfl) hS (Nat.le_of_ble_eq_true rfl) (Nat.le_of_ble_eq_true rfl) dX12_fault_24
    · have c2 := k_eq (a := p1.toInt) (b := 1) rfl (by decide) c2
      obtain rfl : p1 = 1 := Int32.toInt_inj.mp (show p1.toInt = 1 by omega)
      refine lv_aload_n hx hb dX12_fault_16 rfl (lv_at hl 0 rfl) ?_
      refine g_get (C := RX12) (T := TX12) (N := 29) (ci := 12) (v := .int (-1)) FC hKn hP i_X12 0 rfl rfl 13 (by decide) b_437 rfl dX12_fault_17 ?_
      refine lv_goto (tgt := 24) hx hb dX12_fault_20 (by decide) ?_
      exact rt_i FX () (congrArg (fun z => some (Value.int z)) (show (-1 : Int32) = _ from by first | decide | (unfold sp_fault; (repeat' split) <;> first | rfl | (exfalso; omega)))) trivial (hP.sub [] rfl) (hD.sub [] (by decide) rfl) hS (Nat.le_of_ble_eq_true rfl) (Nat.le_of_ble_eq_true rfl) dX12_fault_24
  · have c1 := k_eq (a := p1.toInt) (b := 0) rfl (by decide) c1
    obtain rfl : p1 = 0 := Int32.toInt_inj.mp (show p1.toInt = 0 by omega)
    refine lv_aload_n hx hb dX12_fault_4 rfl (lv_at hl 0 rfl) ?_
    refine g_get (C := RX12) (T := TX12) (N := 29) (ci := 12) (v := .int 0) FC hKn hP i_X12 0 rfl rfl 12 (by decide) b_438 rfl dX12_fault_5 ?_
    refine lv_goto (tgt := 24) hx hb dX12_fault_8 (by decide) ?_
    exact rt_i FX () (congrArg (fun z => some (Value.int z)) (show (0 : Int32) = _ from by first | decide | (unfold sp_fault; (repeat' split) <;> first | rfl | (exfalso; omega)))) trivial (hP.sub [] rfl) (hD.sub [] (by decide) rfl) hS (Nat.le_of_ble_eq_true rfl) (Nat.le_of_ble_eq_true rfl) dX12_fault_24
set_option maxRecDepth 100000 in
set_option maxHeartbeats 4000000 in
theorem c_X12_end (l : Launch) (g : GG) (h0 : Nat) (a1 : Nat) (a2 : Nat) (a3 : Nat) (a4 : Nat) (a6 : Nat) (a14 : Nat) (a15 : Nat) (a19 : Nat) (a20 : Nat) (a23 : Nat) (a24 : Nat) (a25 : Nat) (a26 : Nat) (a27 : Nat) (a28 : Nat) (p1 : Int32) : Ct l g yX12_end cX12_end 2 (some .int) { frames := 1, cells := 0, slots := 0, locals := 25 } [.ref h0, .int p1] [(h0, .inr (12, [.int 0, .ref a1, .ref a2, .ref a3, .ref a4, .int 0, .ref a6, .int 0, .int 0, .int 0, .int 0, .int 0, .int 0, .int (-1), .ref a14, .ref a15, .int 0, .int 0, .int 0, .ref a19, .ref a20, .int 0, .int 0, .ref a23, .ref a24, .ref a25, .ref a26, .ref a27, .ref a28]))] (S := Unit) (fun _ => some (.int (sp_end p1))) (fun _ => True) (fun u => []) := by
  refine Ct.of (by decide) (Nat.le_of_ble_eq_true rfl) ?_
  intro p e s m below meth c A ls FX hP hD hS hl
  obtain ⟨FC, hr, hlk, hKn, hA, hnm⟩ := id FX
  have FC : CallFix p m c cX12_end 2 s _ BIG RX12 := FC
  obtain ⟨hx, hb, hml, hown, hB⟩ := id FC
  have hl : lv_has ls 2 [(0, .ref h0), (1, .int p1)] := hl
  refine lv_iload_n hx hb dX12_end_0 rfl (lv_at hl 1 rfl) ?_
  refine lv_i2l (v := p1.toInt64) hx hb dX12_end_1 rfl ?_
  refine lv_lconst (v := 0) hx hb dX12_end_2 (by decide) ?_
  refine lv_aload_n hx hb dX12_end_3 rfl (lv_at hl 0 rfl) ?_
  refine g_get (C := RX12) (T := TX12) (N := 29) (ci := 12) (v := .int 0) FC hKn hP i_X12 0 rfl rfl 5 (by decide) b_439 rfl dX12_end_4 ?_
  refine lv_i2l (v := 0) hx hb dX12_end_7 (by decide) ?_
  refine call_S (As := [.long p1.toInt64, .long 0, .long 0]) (rest := []) (wr := [(h0, .inr (12, [.int 0, .ref a1, .ref a2, .ref a3, .ref a4, .int 0, .ref a6, .int 0, .int 0, .int 0, .int 0, .int 0, .int 0, .int (-1), .ref a14, .ref a15, .int 0, .int 0, .int 0, .ref a19, .ref a20, .int 0, .int 0, .ref a23, .ref a24, .ref a25, .ref a26, .ref a27, .ref a28]))]) FC hKn (c_X12_in l g p1.toInt64 0 0) m_yX12_in b_360 hP hD hS hA [] [0] rfl (by decide) rfl (by decide) (by decide) rfl hl.1 rfl (Nat.le_of_ble_eq_true rfl) dX12_end_8 ⟨(Nat.le_of_ble_eq_true rfl), (Nat.le_of_ble_eq_true rfl)⟩ ⟨(Nat.le_of_ble_eq_true rfl), (Nat.le_of_ble_eq_true rfl)⟩ (fun u1 H locs _ hP hD hS => ?_)
  have hP : va_P g.1 vwCl [(h0, .inr (12, [.int 0, .ref a1, .ref a2, .ref a3, .ref a4, .int 0, .ref a6, .int 0, .int 0, .int 0, .int 0, .int 0, .int 0, .int (-1), .ref a14, .ref a15, .int 0, .int 0, .int 0, .ref a19, .ref a20, .int 0, .int 0, .ref a23, .ref a24, .ref a25, .ref a26, .ref a27, .ref a28]))] H := hP
  have hD : va_D A [(h0, .inr (12, [.int 0, .ref a1, .ref a2, .ref a3, .ref a4, .int 0, .ref a6, .int 0, .int 0, .int 0, .int 0, .int 0, .int 0, .int (-1), .ref a14, .ref a15, .int 0, .int 0, .int 0, .ref a19, .ref a20, .int 0, .int 0, .ref a23, .ref a24, .ref a25, .ref a26, .ref a27, .ref a28]))] := hD
  refine W.eq (g2 := F0 m 11 ls [.int (inF p1.toInt64 0 0)]) rfl ?_
  by_cases c2 : 0 ≤ p1.toInt ∧ p1.toInt ≤ 0
  · refine tp_i (v := 1) (inF_yes (Int32.toInt_toInt64 _) (by decide) (by decide) c2) ?_
    obtain rfl : p1 = 0 := Int32.toInt_inj.mp (show p1.toInt = 0 by omega)
    refine lv_if_ne (tgt := 16) hx hb dX12_end_11 (by decide) (fun _ => ?_) (fun h => absurd h (by decide))
    refine lv_aload_n hx hb dX12_end_16 rfl (lv_at hl 0 rfl) ?_
    refine lv_iload_n hx hb dX12_end_17 rfl (lv_at hl 1 rfl) ?_
    refine g_put (C := RX12) (T := TX12) (N := 29) (ci := 12) (v := .int 0) FC hKn hP hD hS i_X12 tyX12 tyX12_ok nmX12 0 rfl rfl 5 (by decide) b_439 rfl rfl rfl (Nat.le_of_ble_eq_true rfl) dX12_end_18 (fun H locs hP hD hS => ?_)
    have hP : va_P g.1 vwCl [(h0, .inr (12, [.int 0, .ref a1, .ref a2, .ref a3, .ref a4, .int 0, .ref a6, .int 0, .int 0, .int 0, .int 0, .int 0, .int 0, .int (-1), .ref a14, .ref a15, .int 0, .int 0, .int 0, .ref a19, .ref a20, .int 0, .int 0, .ref a23, .ref a24, .ref a25, .ref a26, .ref a27, .ref a28]))] H := hP
    have hD : va_D A [(h0, .inr (12, [.int 0, .ref a1, .ref a2, .ref a3, .ref a4, .int 0, .ref a6, .int 0, .int 0, .int 0, .int 0, .int 0, .int 0, .int (-1), .ref a14, .ref a15, .int 0, .int 0, .int 0, .ref a19, .ref a20, .int 0, .int 0, .ref a23, .ref a24, .ref a25, .ref a26, .ref a27, .ref a28]))] := hD
    refine lv_iload_n hx hb dX12_end_21 rfl (lv_at hl 1 rfl) ?_
    exact rt_i FX () (congrArg (fun z => some (Value.int z)) (show (0 : Int32) = _ from by first | decide | (unfold sp_end; (repeat' split) <;> first | rfl | (exfalso; omega)))) trivial (hP.sub [] rfl) (hD.sub [] (by decide) rfl) hS (Nat.le_of_ble_eq_true rfl) (Nat.le_of_ble_eq_true rfl) dX12_end_22
  · refine tp_i (v := 0) (inF_not (Int32.toInt_toInt64 _) (by decide) (by decide) c2) ?_
    refine lv_if_ne (tgt := 16) hx hb dX12_end_11 (by decide) (fun h => absurd h (by decide)) (fun _ => ?_)
    refine lv_iconst (v := -1) hx hb dX12_end_14 (by decide) ?_
    exact rt_i FX () (congrArg (fun z => some (Value.int z)) (show (-1 : Int32) = _ from by first | decide | (unfold sp_end; (repeat' split) <;> first | rfl | (exfalso; omega)))) trivial (hP.sub [] rfl) (hD.sub [] (by decide) rfl) hS (Nat.le_of_ble_eq_true rfl) (Nat.le_of_ble_eq_true rfl) dX12_end_15
set_option maxRecDepth 100000 in
set_option maxHeartbeats 4000000 in
theorem c_X12_write (l : Launch) (g : GG) (h0 : Nat) (a1 : Nat) (a2 : Nat) (a3 : Nat) (a4 : Nat) (a6 : Nat) (a14 : Nat) (a15 : Nat) (a19 : Nat) (a20 : Nat) (a23 : Nat) (a24 : Nat) (a25 : Nat) (a26 : Nat) (a27 : Nat) (a28 : Nat) (p1 : Int32) (p2 : Int32) (p3 : Int64) : Ct l g yX12_write cX12_write 5 (some .int) { frames := 2, cells := 0, slots := 0, locals := 45 } [.ref h0, .int p1, .int p2, .long p3] [(h0, .inr (12, [.int 0, .ref a1, .ref a2, .ref a3, .ref a4, .int 0, .ref a6, .int 0, .int 0, .int 0, .int 0, .int 0, .int 0, .int (-1), .ref a14, .ref a15, .int 0, .int 0, .int 0, .ref a19, .ref a20, .int 0, .int 0, .ref a23, .ref a24, .ref a25, .ref a26, .ref a27, .ref a28])), (a25, .inl (g.2 0, 4, .inl mny))] (S := Unit) (fun _ => some (.int (sp_write p1))) (fun _ => True) (fun u => []) := by
  refine Ct.of (by decide) (Nat.le_of_ble_eq_true rfl) ?_
  intro p e s m below meth c A ls FX hP hD hS hl
  obtain ⟨FC, hr, hlk, hKn, hA, hnm⟩ := id FX
  have FC : CallFix p m c cX12_write 5 s _ BIG RX12 := FC
  obtain ⟨hx, hb, hml, hown, hB⟩ := id FC
  have hl : lv_has ls 5 [(0, .ref h0), (1, .int p1), (2, .int p2), (3, .long p3)] := hl
  refine lv_iload_n hx hb dX12_write_0 rfl (lv_at hl 1 rfl) ?_
  refine call_S (As := [.int p1]) (rest := []) (wr := [(h0, .inr (12, [.int 0, .ref a1, .ref a2, .ref a3, .ref a4, .int 0, .ref a6, .int 0, .int 0, .int 0, .int 0, .int 0, .int 0, .int (-1), .ref a14, .ref a15, .int 0, .int 0, .int 0, .ref a19, .ref a20, .int 0, .int 0, .ref a23, .ref a24, .ref a25, .ref a26, .ref a27, .ref a28])), (a25, .inl (g.2 0, 4, .inl mny))]) FC hKn (c_X12_isSlot l g p1) m_yX12_isSlot b_364 hP hD hS hA [] [0, 1] rfl (by decide) rfl (by decide) (by decide) rfl hl.1 rfl (Nat.le_of_ble_eq_true rfl) dX12_write_1 ⟨(Nat.le_of_ble_eq_true rfl), (Nat.le_of_ble_eq_true rfl)⟩ ⟨(Nat.le_of_ble_eq_true rfl), (Nat.le_of_ble_eq_true rfl)⟩ (fun u1 H locs _ hP hD hS => ?_)
  have hP : va_P g.1 vwCl [(h0, .inr (12, [.int 0, .ref a1, .ref a2, .ref a3, .ref a4, .int 0, .ref a6, .int 0, .int 0, .int 0, .int 0, .int 0, .int 0, .int (-1), .ref a14, .ref a15, .int 0, .int 0, .int 0, .ref a19, .ref a20, .int 0, .int 0, .ref a23, .ref a24, .ref a25, .ref a26, .ref a27, .ref a28])), (a25, .inl (g.2 0, 4, .inl mny))] H := hP
  have hD : va_D A [(h0, .inr (12, [.int 0, .ref a1, .ref a2, .ref a3, .ref a4, .int 0, .ref a6, .int 0, .int 0, .int 0, .int 0, .int 0, .int 0, .int (-1), .ref a14, .ref a15, .int 0, .int 0, .int 0, .ref a19, .ref a20, .int 0, .int 0, .ref a23, .ref a24, .ref a25, .ref a26, .ref a27, .ref a28])), (a25, .inl (g.2 0, 4, .inl mny))] := hD
  refine W.eq (g2 := F0 m 4 ls [.int (sp_slot p1)]) rfl ?_
  by_cases c2 : 0 ≤ p1.toInt ∧ p1.toInt ≤ 3
  · refine tp_i (v := 1) (if_pos c2) ?_
    refine lv_if_ne (tgt := 10) hx hb dX12_write_4 (by decide) (fun _ => ?_) (fun h => absurd h (by decide))
    refine lv_aload_n hx hb dX12_write_10 rfl (lv_at hl 0 rfl) ?_
    refine g_get (C := RX12) (T := TX12) (N := 29) (ci := 12) (v := .ref a25) FC hKn hP i_X12 0 rfl rfl 25 (by decide) b_440 rfl dX12_write_11 ?_
    refine lv_iload_n hx hb dX12_write_14 rfl (lv_at hl 1 rfl) ?_
    refine va_iald hx hb hKn.1 hP 1 0 rfl rfl (vp_in_iff.mpr ⟨by omega, by omega⟩) dX12_write_15 ?_
    refine tp_i (v := -1) (mny_at _ (Nat.not_le.mp fun q => ((vp_in_iff (x := p1) (n := 4)).mpr ⟨by omega, by omega⟩) (Or.inr q))) ?_
    refine lv_iconst (v := -1) hx hb dX12_write_16 (by decide) ?_
    refine lv_icmp_ne (tgt := 23) hx hb dX12_write_17 (by decide) (fun h => absurd h (by decide)) (fun _ => ?_)
    refine lv_bipush (v := -6) hx hb dX12_write_20 (by decide) ?_
    exact rt_i FX () (congrArg (fun z => some (Value.int z)) (show (-6 : Int32) = _ from by first | decide | (unfold sp_write; (repeat' split) <;> first | rfl | (exfalso; omega)))) trivial (hP.sub [] rfl) (hD.sub [] (by decide) rfl) hS (Nat.le_of_ble_eq_true rfl) (Nat.le_of_ble_eq_true rfl) dX12_write_22
  · refine tp_i (v := 0) (if_neg c2) ?_
    refine lv_if_ne (tgt := 10) hx hb dX12_write_4 (by decide) (fun h => absurd h (by decide)) (fun _ => ?_)
    refine lv_bipush (v := -2) hx hb dX12_write_7 (by decide) ?_
    exact rt_i FX () (congrArg (fun z => some (Value.int z)) (show (-2 : Int32) = _ from by first | decide | (unfold sp_write; (repeat' split) <;> first | rfl | (exfalso; omega)))) trivial (hP.sub [] rfl) (hD.sub [] (by decide) rfl) hS (Nat.le_of_ble_eq_true rfl) (Nat.le_of_ble_eq_true rfl) dX12_write_9
set_option maxRecDepth 100000 in
set_option maxHeartbeats 4000000 in
theorem c_X12_paste (l : Launch) (g : GG) (h0 : Nat) (a1 : Nat) (a2 : Nat) (a3 : Nat) (a4 : Nat) (a6 : Nat) (a14 : Nat) (a15 : Nat) (a19 : Nat) (a20 : Nat) (a23 : Nat) (a24 : Nat) (a25 : Nat) (a26 : Nat) (a27 : Nat) (a28 : Nat) (p1 : Int32) (p2 : Int32) (p3 : Int32) (p4 : Int32) (p5 : Int32) : Ct l g yX12_paste cX12_paste 7 (some .int) { frames := 2, cells := 0, slots := 0, locals := 45 } [.ref h0, .int p1, .int p2, .int p3, .int p4, .int p5] [(h0, .inr (12, [.int 0, .ref a1, .ref a2, .ref a3, .ref a4, .int 0, .ref a6, .int 0, .int 0, .int 0, .int 0, .int 0, .int 0, .int (-1), .ref a14, .ref a15, .int 0, .int 0, .int 0, .ref a19, .ref a20, .int 0, .int 0, .ref a23, .ref a24, .ref a25, .ref a26, .ref a27, .ref a28])), (a25, .inl (g.2 0, 4, .inl mny))] (S := Unit) (fun _ => some (.int (sp_paste p1 p3))) (fun _ => True) (fun u => []) := by
  refine Ct.of (by decide) (Nat.le_of_ble_eq_true rfl) ?_
  intro p e s m below meth c A ls FX hP hD hS hl
  obtain ⟨FC, hr, hlk, hKn, hA, hnm⟩ := id FX
  have FC : CallFix p m c cX12_paste 7 s _ BIG RX12 := FC
  obtain ⟨hx, hb, hml, hown, hB⟩ := id FC
  have hl : lv_has ls 7 [(0, .ref h0), (1, .int p1), (2, .int p2), (3, .int p3), (4, .int p4), (5, .int p5)] := hl
  refine lv_iload_n hx hb dX12_paste_0 rfl (lv_at hl 1 rfl) ?_
  refine call_S (As := [.int p1]) (rest := []) (wr := [(h0, .inr (12, [.int 0, .ref a1, .ref a2, .ref a3, .ref a4, .int 0, .ref a6, .int 0, .int 0, .int 0, .int 0, .int 0, .int 0, .int (-1), .ref a14, .ref a15, .int 0, .int 0, .int 0, .ref a19, .ref a20, .int 0, .int 0, .ref a23, .ref a24, .ref a25, .ref a26, .ref a27, .ref a28])), (a25, .inl (g.2 0, 4, .inl mny))]) FC hKn (c_X12_isSlot l g p1) m_yX12_isSlot b_364 hP hD hS hA [] [0, 1] rfl (by decide) rfl (by decide) (by decide) rfl hl.1 rfl (Nat.le_of_ble_eq_true rfl) dX12_paste_1 ⟨(Nat.le_of_ble_eq_true rfl), (Nat.le_of_ble_eq_true rfl)⟩ ⟨(Nat.le_of_ble_eq_true rfl), (Nat.le_of_ble_eq_true rfl)⟩ (fun u1 H locs _ hP hD hS => ?_)
  have hP : va_P g.1 vwCl [(h0, .inr (12, [.int 0, .ref a1, .ref a2, .ref a3, .ref a4, .int 0, .ref a6, .int 0, .int 0, .int 0, .int 0, .int 0, .int 0, .int (-1), .ref a14, .ref a15, .int 0, .int 0, .int 0, .ref a19, .ref a20, .int 0, .int 0, .ref a23, .ref a24, .ref a25, .ref a26, .ref a27, .ref a28])), (a25, .inl (g.2 0, 4, .inl mny))] H := hP
  have hD : va_D A [(h0, .inr (12, [.int 0, .ref a1, .ref a2, .ref a3, .ref a4, .int 0, .ref a6, .int 0, .int 0, .int 0, .int 0, .int 0, .int 0, .int (-1), .ref a14, .ref a15, .int 0, .int 0, .int 0, .ref a19, .ref a20, .int 0, .int 0, .ref a23, .ref a24, .ref a25, .ref a26, .ref a27, .ref a28])), (a25, .inl (g.2 0, 4, .inl mny))] := hD
  refine W.eq (g2 := F0 m 4 ls [.int (sp_slot p1)]) rfl ?_
  by_cases c2 : 0 ≤ p1.toInt ∧ p1.toInt ≤ 3
  · refine tp_i (v := 1) (if_pos c2) ?_
    refine lv_if_eq (tgt := 14) hx hb dX12_paste_4 (by decide) (fun h => absurd h (by decide)) (fun _ => ?_)
    refine lv_iload_n hx hb dX12_paste_7 rfl (lv_at hl 3 rfl) ?_
    refine call_S (As := [.int p3]) (rest := []) (wr := [(h0, .inr (12, [.int 0, .ref a1, .ref a2, .ref a3, .ref a4, .int 0, .ref a6, .int 0, .int 0, .int 0, .int 0, .int 0, .int 0, .int (-1), .ref a14, .ref a15, .int 0, .int 0, .int 0, .ref a19, .ref a20, .int 0, .int 0, .ref a23, .ref a24, .ref a25, .ref a26, .ref a27, .ref a28])), (a25, .inl (g.2 0, 4, .inl mny))]) FC hKn (c_X12_isSlot l g p3) m_yX12_isSlot b_364 hP hD hS hA [] [0, 1] rfl (by decide) rfl (by decide) (by decide) rfl hl.1 rfl (Nat.le_of_ble_eq_true rfl) dX12_paste_8 ⟨(Nat.le_of_ble_eq_true rfl), (Nat.le_of_ble_eq_true rfl)⟩ ⟨(Nat.le_of_ble_eq_true rfl), (Nat.le_of_ble_eq_true rfl)⟩ (fun u3 H locs _ hP hD hS => ?_)
    have hP : va_P g.1 vwCl [(h0, .inr (12, [.int 0, .ref a1, .ref a2, .ref a3, .ref a4, .int 0, .ref a6, .int 0, .int 0, .int 0, .int 0, .int 0, .int 0, .int (-1), .ref a14, .ref a15, .int 0, .int 0, .int 0, .ref a19, .ref a20, .int 0, .int 0, .ref a23, .ref a24, .ref a25, .ref a26, .ref a27, .ref a28])), (a25, .inl (g.2 0, 4, .inl mny))] H := hP
    have hD : va_D A [(h0, .inr (12, [.int 0, .ref a1, .ref a2, .ref a3, .ref a4, .int 0, .ref a6, .int 0, .int 0, .int 0, .int 0, .int 0, .int 0, .int (-1), .ref a14, .ref a15, .int 0, .int 0, .int 0, .ref a19, .ref a20, .int 0, .int 0, .ref a23, .ref a24, .ref a25, .ref a26, .ref a27, .ref a28])), (a25, .inl (g.2 0, 4, .inl mny))] := hD
    refine W.eq (g2 := F0 m 11 ls [.int (sp_slot p3)]) rfl ?_
    by_cases c4 : 0 ≤ p3.toInt ∧ p3.toInt ≤ 3
    · refine tp_i (v := 1) (if_pos c4) ?_
      refine lv_if_ne (tgt := 17) hx hb dX12_paste_11 (by decide) (fun _ => ?_) (fun h => absurd h (by decide))
      refine lv_aload_n hx hb dX12_paste_17 rfl (lv_at hl 0 rfl) ?_
      refine g_get (C := RX12) (T := TX12) (N := 29) (ci := 12) (v := .ref a25) FC hKn hP i_X12 0 rfl rfl 25 (by decide) b_440 rfl dX12_paste_18 ?_
      refine lv_iload_n hx hb dX12_paste_21 rfl (lv_at hl 1 rfl) ?_
      refine va_iald hx hb hKn.1 hP 1 0 rfl rfl (vp_in_iff.mpr ⟨by omega, by omega⟩) dX12_paste_22 ?_
      refine tp_i (v := -1) (mny_at _ (Nat.not_le.mp fun q => ((vp_in_iff (x := p1) (n := 4)).mpr ⟨by omega, by omega⟩) (Or.inr q))) ?_
      refine lv_iconst (v := -1) hx hb dX12_paste_23 (by decide) ?_
      refine lv_icmp_eq (tgt := 37) hx hb dX12_paste_24 (by decide) (fun _ => ?_) (fun h => absurd h (by decide))
      refine lv_bipush (v := -6) hx hb dX12_paste_37 (by decide) ?_
      exact rt_i FX () (congrArg (fun z => some (Value.int z)) (show (-6 : Int32) = _ from by first | decide | (unfold sp_paste; (repeat' split) <;> first | rfl | (exfalso; omega)))) trivial (hP.sub [] rfl) (hD.sub [] (by decide) rfl) hS (Nat.le_of_ble_eq_true rfl) (Nat.le_of_ble_eq_true rfl) dX12_paste_39
    · refine tp_i (v := 0) (if_neg c4) ?_
      refine lv_if_ne (tgt := 17) hx hb dX12_paste_11 (by decide) (fun h => absurd h (by decide)) (fun _ => ?_)
      refine lv_bipush (v := -2) hx hb dX12_paste_14 (by decide) ?_
      exact rt_i FX () (congrArg (fun z => some (Value.int z)) (show (-2 : Int32) = _ from by first | decide | (unfold sp_paste; (repeat' split) <;> first | rfl | (exfalso; omega)))) trivial (hP.sub [] rfl) (hD.sub [] (by decide) rfl) hS (Nat.le_of_ble_eq_true rfl) (Nat.le_of_ble_eq_true rfl) dX12_paste_16
  · refine tp_i (v := 0) (if_neg c2) ?_
    refine lv_if_eq (tgt := 14) hx hb dX12_paste_4 (by decide) (fun _ => ?_) (fun h => absurd h (by decide))
    refine lv_bipush (v := -2) hx hb dX12_paste_14 (by decide) ?_
    exact rt_i FX () (congrArg (fun z => some (Value.int z)) (show (-2 : Int32) = _ from by first | decide | (unfold sp_paste; (repeat' split) <;> first | rfl | (exfalso; omega)))) trivial (hP.sub [] rfl) (hD.sub [] (by decide) rfl) hS (Nat.le_of_ble_eq_true rfl) (Nat.le_of_ble_eq_true rfl) dX12_paste_16
set_option maxRecDepth 100000 in
set_option maxHeartbeats 4000000 in
theorem c_X12_back (l : Launch) (g : GG) (h0 : Nat) (a1 : Nat) (a2 : Nat) (a3 : Nat) (a4 : Nat) (a6 : Nat) (a14 : Nat) (a15 : Nat) (a19 : Nat) (a20 : Nat) (a23 : Nat) (a24 : Nat) (a25 : Nat) (a26 : Nat) (a27 : Nat) (a28 : Nat) (p1 : Int32) : Ct l g yX12_back cX12_back 3 (some .int) { frames := 1, cells := 0, slots := 0, locals := 25 } [.ref h0, .int p1] [(h0, .inr (12, [.int 0, .ref a1, .ref a2, .ref a3, .ref a4, .int 0, .ref a6, .int 0, .int 0, .int 0, .int 0, .int 0, .int 0, .int (-1), .ref a14, .ref a15, .int 0, .int 0, .int 0, .ref a19, .ref a20, .int 0, .int 0, .ref a23, .ref a24, .ref a25, .ref a26, .ref a27, .ref a28])), (a3, .inl (g.2 2, 3, .inl (fun _ => 0)))] (S := Unit) (fun _ => some (.int (sp_back p1))) (fun _ => True) (fun u => []) := by
  refine Ct.of (by decide) (Nat.le_of_ble_eq_true rfl) ?_
  intro p e s m below meth c A ls FX hP hD hS hl
  obtain ⟨FC, hr, hlk, hKn, hA, hnm⟩ := id FX
  have FC : CallFix p m c cX12_back 3 s _ BIG RX12 := FC
  obtain ⟨hx, hb, hml, hown, hB⟩ := id FC
  have hl : lv_has ls 3 [(0, .ref h0), (1, .int p1)] := hl
  refine lv_iload_n hx hb dX12_back_0 rfl (lv_at hl 1 rfl) ?_
  refine lv_i2l (v := p1.toInt64) hx hb dX12_back_1 rfl ?_
  refine lv_lconst (v := 0) hx hb dX12_back_2 (by decide) ?_
  refine lv_ldc2 hx hb hown (hB _ b_441) dX12_back_3 ?_
  refine call_S (As := [.long p1.toInt64, .long 0, .long 2]) (rest := []) (wr := [(h0, .inr (12, [.int 0, .ref a1, .ref a2, .ref a3, .ref a4, .int 0, .ref a6, .int 0, .int 0, .int 0, .int 0, .int 0, .int 0, .int (-1), .ref a14, .ref a15, .int 0, .int 0, .int 0, .ref a19, .ref a20, .int 0, .int 0, .ref a23, .ref a24, .ref a25, .ref a26, .ref a27, .ref a28])), (a3, .inl (g.2 2, 3, .inl (fun _ => 0)))]) FC hKn (c_X12_in l g p1.toInt64 0 2) m_yX12_in b_360 hP hD hS hA [] [0, 1] rfl (by decide) rfl (by decide) (by decide) rfl hl.1 rfl (Nat.le_of_ble_eq_true rfl) dX12_back_6 ⟨(Nat.le_of_ble_eq_true rfl), (Nat.le_of_ble_eq_true rfl)⟩ ⟨(Nat.le_of_ble_eq_true rfl), (Nat.le_of_ble_eq_true rfl)⟩ (fun u1 H locs _ hP hD hS => ?_)
  have hP : va_P g.1 vwCl [(h0, .inr (12, [.int 0, .ref a1, .ref a2, .ref a3, .ref a4, .int 0, .ref a6, .int 0, .int 0, .int 0, .int 0, .int 0, .int 0, .int (-1), .ref a14, .ref a15, .int 0, .int 0, .int 0, .ref a19, .ref a20, .int 0, .int 0, .ref a23, .ref a24, .ref a25, .ref a26, .ref a27, .ref a28])), (a3, .inl (g.2 2, 3, .inl (fun _ => 0)))] H := hP
  have hD : va_D A [(h0, .inr (12, [.int 0, .ref a1, .ref a2, .ref a3, .ref a4, .int 0, .ref a6, .int 0, .int 0, .int 0, .int 0, .int 0, .int 0, .int (-1), .ref a14, .ref a15, .int 0, .int 0, .int 0, .ref a19, .ref a20, .int 0, .int 0, .ref a23, .ref a24, .ref a25, .ref a26, .ref a27, .ref a28])), (a3, .inl (g.2 2, 3, .inl (fun _ => 0)))] := hD
  refine W.eq (g2 := F0 m 9 ls [.int (inF p1.toInt64 0 2)]) rfl ?_
  by_cases c2 : 0 ≤ p1.toInt ∧ p1.toInt ≤ 2
  · refine tp_i (v := 1) (inF_yes (Int32.toInt_toInt64 _) (by decide) (by decide) c2) ?_
    refine lv_if_ne (tgt := 15) hx hb dX12_back_9 (by decide) (fun _ => ?_) (fun h => absurd h (by decide))
    rcases (show p1.toInt = 0 ∨ p1.toInt = 1 ∨ p1.toInt = 2 by omega) with hv | hv | hv
    · obtain rfl : p1 = 0 := Int32.toInt_inj.mp (hv.trans (by decide))
      refine lv_aload_n hx hb dX12_back_15 rfl (lv_at hl 0 rfl) ?_
      refine g_get (C := RX12) (T := TX12) (N := 29) (ci := 12) (v := .ref a3) FC hKn hP i_X12 0 rfl rfl 3 (by decide) b_442 rfl dX12_back_16 ?_
      refine lv_iload_n hx hb dX12_back_19 rfl (lv_at hl 1 rfl) ?_
      refine va_zald hx hb hKn.1 hP 1 2 rfl rfl (by unfold vp_in; decide) dX12_back_20 ?_
      refine tp_i (v := 0) rfl ?_
      refine lv_if_ne (tgt := 27) hx hb dX12_back_21 (by decide) (fun h => absurd h (by decide)) (fun _ => ?_)
      refine lv_bipush (v := -6) hx hb dX12_back_24 (by decide) ?_
      exact rt_i FX () (congrArg (fun z => some (Value.int z)) (show (-6 : Int32) = _ from by first | decide | (unfold sp_back; (repeat' split) <;> first | rfl | (exfalso; omega)))) trivial (hP.sub [] rfl) (hD.sub [] (by decide) rfl) hS (Nat.le_of_ble_eq_true rfl) (Nat.le_of_ble_eq_true rfl) dX12_back_26
    · obtain rfl : p1 = 1 := Int32.toInt_inj.mp (hv.trans (by decide))
      refine lv_aload_n hx hb dX12_back_15 rfl (lv_at hl 0 rfl) ?_
      refine g_get (C := RX12) (T := TX12) (N := 29) (ci := 12) (v := .ref a3) FC hKn hP i_X12 0 rfl rfl 3 (by decide) b_442 rfl dX12_back_16 ?_
      refine lv_iload_n hx hb dX12_back_19 rfl (lv_at hl 1 rfl) ?_
      refine va_zald hx hb hKn.1 hP 1 2 rfl rfl (by unfold vp_in; decide) dX12_back_20 ?_
      refine tp_i (v := 0) rfl ?_
      refine lv_if_ne (tgt := 27) hx hb dX12_back_21 (by decide) (fun h => absurd h (by decide)) (fun _ => ?_)
      refine lv_bipush (v := -6) hx hb dX12_back_24 (by decide) ?_
      exact rt_i FX () (congrArg (fun z => some (Value.int z)) (show (-6 : Int32) = _ from by first | decide | (unfold sp_back; (repeat' split) <;> first | rfl | (exfalso; omega)))) trivial (hP.sub [] rfl) (hD.sub [] (by decide) rfl) hS (Nat.le_of_ble_eq_true rfl) (Nat.le_of_ble_eq_true rfl) dX12_back_26
    · obtain rfl : p1 = 2 := Int32.toInt_inj.mp (hv.trans (by decide))
      refine lv_aload_n hx hb dX12_back_15 rfl (lv_at hl 0 rfl) ?_
      refine g_get (C := RX12) (T := TX12) (N := 29) (ci := 12) (v := .ref a3) FC hKn hP i_X12 0 rfl rfl 3 (by decide) b_442 rfl dX12_back_16 ?_
      refine lv_iload_n hx hb dX12_back_19 rfl (lv_at hl 1 rfl) ?_
      refine va_zald hx hb hKn.1 hP 1 2 rfl rfl (by unfold vp_in; decide) dX12_back_20 ?_
      refine tp_i (v := 0) rfl ?_
      refine lv_if_ne (tgt := 27) hx hb dX12_back_21 (by decide) (fun h => absurd h (by decide)) (fun _ => ?_)
      refine lv_bipush (v := -6) hx hb dX12_back_24 (by decide) ?_
      exact rt_i FX () (congrArg (fun z => some (Value.int z)) (show (-6 : Int32) = _ from by first | decide | (unfold sp_back; (repeat' split) <;> first | rfl | (exfalso; omega)))) trivial (hP.sub [] rfl) (hD.sub [] (by decide) rfl) hS (Nat.le_of_ble_eq_true rfl) (Nat.le_of_ble_eq_true rfl) dX12_back_26
  · refine tp_i (v := 0) (inF_not (Int32.toInt_toInt64 _) (by decide) (by decide) c2) ?_
    refine lv_if_ne (tgt := 15) hx hb dX12_back_9 (by decide) (fun h => absurd h (by decide)) (fun _ => ?_)
    refine lv_bipush (v := -2) hx hb dX12_back_12 (by decide) ?_
    exact rt_i FX () (congrArg (fun z => some (Value.int z)) (show (-2 : Int32) = _ from by first | decide | (unfold sp_back; (repeat' split) <;> first | rfl | (exfalso; omega)))) trivial (hP.sub [] rfl) (hD.sub [] (by decide) rfl) hS (Nat.le_of_ble_eq_true rfl) (Nat.le_of_ble_eq_true rfl) dX12_back_14
set_option maxRecDepth 100000 in
set_option maxHeartbeats 4000000 in
theorem c_X12_image (l : Launch) (g : GG) (h0 : Nat) (a1 : Nat) (a2 : Nat) (a3 : Nat) (a4 : Nat) (a6 : Nat) (a14 : Nat) (a15 : Nat) (a19 : Nat) (a20 : Nat) (a23 : Nat) (a24 : Nat) (a25 : Nat) (a26 : Nat) (a27 : Nat) (a28 : Nat) (p1 : Int32) : Ct l g yX12_image cX12_image 3 (some .int) { frames := 1, cells := 0, slots := 0, locals := 25 } [.ref h0, .int p1] [(h0, .inr (12, [.int 0, .ref a1, .ref a2, .ref a3, .ref a4, .int 0, .ref a6, .int 0, .int 0, .int 0, .int 0, .int 0, .int 0, .int (-1), .ref a14, .ref a15, .int 0, .int 0, .int 0, .ref a19, .ref a20, .int 0, .int 0, .ref a23, .ref a24, .ref a25, .ref a26, .ref a27, .ref a28])), (a1, .inl (g.2 0, 225, .inl (fun _ => 0))), (a2, .inl (g.2 0, 675, .inl (fun _ => 0))), (a3, .inl (g.2 2, 3, .inl (fun _ => 0)))] (S := Unit) (fun _ => some (.int (sp_image p1))) (fun _ => True) (fun u => []) := by
  refine Ct.of (by decide) (Nat.le_of_ble_eq_true rfl) ?_
  intro p e s m below meth c A ls FX hP hD hS hl
  obtain ⟨FC, hr, hlk, hKn, hA, hnm⟩ := id FX
  have FC : CallFix p m c cX12_image 3 s _ BIG RX12 := FC
  obtain ⟨hx, hb, hml, hown, hB⟩ := id FC
  have hl : lv_has ls 3 [(0, .ref h0), (1, .int p1)] := hl
  refine lv_iload_n hx hb dX12_image_0 rfl (lv_at hl 1 rfl) ?_
  refine lv_i2l (v := p1.toInt64) hx hb dX12_image_1 rfl ?_
  refine lv_lconst (v := 0) hx hb dX12_image_2 (by decide) ?_
  refine lv_ldc2 hx hb hown (hB _ b_441) dX12_image_3 ?_
  refine call_S (As := [.long p1.toInt64, .long 0, .long 2]) (rest := []) (wr := [(h0, .inr (12, [.int 0, .ref a1, .ref a2, .ref a3, .ref a4, .int 0, .ref a6, .int 0, .int 0, .int 0, .int 0, .int 0, .int 0, .int (-1), .ref a14, .ref a15, .int 0, .int 0, .int 0, .ref a19, .ref a20, .int 0, .int 0, .ref a23, .ref a24, .ref a25, .ref a26, .ref a27, .ref a28])), (a1, .inl (g.2 0, 225, .inl (fun _ => 0))), (a2, .inl (g.2 0, 675, .inl (fun _ => 0))), (a3, .inl (g.2 2, 3, .inl (fun _ => 0)))]) FC hKn (c_X12_in l g p1.toInt64 0 2) m_yX12_in b_360 hP hD hS hA [] [0, 1, 2, 3] rfl (by decide) rfl (by decide) (by decide) rfl hl.1 rfl (Nat.le_of_ble_eq_true rfl) dX12_image_6 ⟨(Nat.le_of_ble_eq_true rfl), (Nat.le_of_ble_eq_true rfl)⟩ ⟨(Nat.le_of_ble_eq_true rfl), (Nat.le_of_ble_eq_true rfl)⟩ (fun u1 H locs _ hP hD hS => ?_)
  have hP : va_P g.1 vwCl [(h0, .inr (12, [.int 0, .ref a1, .ref a2, .ref a3, .ref a4, .int 0, .ref a6, .int 0, .int 0, .int 0, .int 0, .int 0, .int 0, .int (-1), .ref a14, .ref a15, .int 0, .int 0, .int 0, .ref a19, .ref a20, .int 0, .int 0, .ref a23, .ref a24, .ref a25, .ref a26, .ref a27, .ref a28])), (a1, .inl (g.2 0, 225, .inl (fun _ => 0))), (a2, .inl (g.2 0, 675, .inl (fun _ => 0))), (a3, .inl (g.2 2, 3, .inl (fun _ => 0)))] H := hP
  have hD : va_D A [(h0, .inr (12, [.int 0, .ref a1, .ref a2, .ref a3, .ref a4, .int 0, .ref a6, .int 0, .int 0, .int 0, .int 0, .int 0, .int 0, .int (-1), .ref a14, .ref a15, .int 0, .int 0, .int 0, .ref a19, .ref a20, .int 0, .int 0, .ref a23, .ref a24, .ref a25, .ref a26, .ref a27, .ref a28])), (a1, .inl (g.2 0, 225, .inl (fun _ => 0))), (a2, .inl (g.2 0, 675, .inl (fun _ => 0))), (a3, .inl (g.2 2, 3, .inl (fun _ => 0)))] := hD
  refine W.eq (g2 := F0 m 9 ls [.int (inF p1.toInt64 0 2)]) rfl ?_
  by_cases c2 : 0 ≤ p1.toInt ∧ p1.toInt ≤ 2
  · refine tp_i (v := 1) (inF_yes (Int32.toInt_toInt64 _) (by decide) (by decide) c2) ?_
    refine lv_if_ne (tgt := 15) hx hb dX12_image_9 (by decide) (fun _ => ?_) (fun h => absurd h (by decide))
    rcases (show p1.toInt = 0 ∨ p1.toInt = 1 ∨ p1.toInt = 2 by omega) with hv | hv | hv
    · obtain rfl : p1 = 0 := Int32.toInt_inj.mp (hv.trans (by decide))
      refine lv_iconst (v := 0) hx hb dX12_image_15 (by decide) ?_
      refine lv_istore_n (lv' := [(2, .int 0), (0, .ref h0), (1, .int 0)]) hx hb dX12_image_16 rfl hl (by decide) rfl (fun ls hl => ?_)
      have lp : ∀ (n i : Nat)  (H : Heap) (locs : List Loc) (ls : Array Slot), i ≤ 225 → 225 < i + n → va_P g.1 vwCl [(h0, .inr (12, [.int 0, .ref a1, .ref a2, .ref a3, .ref a4, .int 0, .ref a6, .int 0, .int 0, .int 0, .int 0, .int 0, .int 0, .int (-1), .ref a14, .ref a15, .int 0, .int 0, .int 0, .ref a19, .ref a20, .int 0, .int 0, .ref a23, .ref a24, .ref a25, .ref a26, .ref a27, .ref a28])), (a1, .inl (g.2 0, 225, .inl (fun _ => 0))), (a2, .inl (g.2 0, 675, .inl (fun _ => 0))), (a3, .inl (g.2 2, 3, .inl (fun _ => 0)))] H → va_D A [(h0, .inr (12, [.int 0, .ref a1, .ref a2, .ref a3, .ref a4, .int 0, .ref a6, .int 0, .int 0, .int 0, .int 0, .int 0, .int 0, .int (-1), .ref a14, .ref a15, .int 0, .int 0, .int 0, .ref a19, .ref a20, .int 0, .int 0, .ref a23, .ref a24, .ref a25, .ref a26, .ref a27, .ref a28])), (a1, .inl (g.2 0, 225, .inl (fun _ => 0))), (a2, .inl (g.2 0, 675, .inl (fun _ => 0))), (a3, .inl (g.2 2, 3, .inl (fun _ => 0)))] → va_S A s.heap H locs → lv_has ls 3 [(2, .int (nI i)), (0, .ref h0), (1, .int 0)] → W p l e { frames := 1, cells := 0, slots := 0, locals := 25 } s m ([.ref h0, .int 0].toArray) below meth c H locs 0 0 (MQ below (QX (S := Unit) (fun _ => some (.int (sp_image 0))) (fun _ => True) g (fun u => []) A) ([.ref h0, .int 0].toArray) s 0 0 A) (F0 m 17 ls []) := by
        intro n
        induction n with
        | zero =>
          intro i  H locs ls hi hn
          exact absurd hn (by omega)
        | succ n ih =>
          intro i  H locs ls hi hn hP hD hS hl
          refine lv_iload_n hx hb dX12_image_17 rfl (lv_at hl 0 rfl) ?_
          refine lv_sipush (v := 225) hx hb dX12_image_18 (by decide) ?_
          refine lv_icmp_ge (tgt := 48) hx hb dX12_image_21 (by decide) (fun c3 => ?_) (fun c3 => ?_)
          · have c3 := k_le (a := 225) (b := ((i : Nat) : Int)) (by decide) (nI_toInt (by omega)) c3
            refine lv_aload_n hx hb dX12_image_48 rfl (lv_at hl 1 rfl) ?_
            refine g_get (C := RX12) (T := TX12) (N := 29) (ci := 12) (v := .ref a3) FC hKn hP i_X12 0 rfl rfl 3 (by decide) b_442 rfl dX12_image_49 ?_
            refine lv_iload_n hx hb dX12_image_52 rfl (lv_at hl 2 rfl) ?_
            refine lv_iconst (v := 1) hx hb dX12_image_53 (by decide) ?_
            refine va_zast hx hb hKn.1 hP hD hS 3 2 rfl rfl (by unfold vp_in; decide) dX12_image_54 (fun H locs hP hD hS => ?_)
            have hP : va_P g.1 vwCl [(h0, .inr (12, [.int 0, .ref a1, .ref a2, .ref a3, .ref a4, .int 0, .ref a6, .int 0, .int 0, .int 0, .int 0, .int 0, .int 0, .int (-1), .ref a14, .ref a15, .int 0, .int 0, .int 0, .ref a19, .ref a20, .int 0, .int 0, .ref a23, .ref a24, .ref a25, .ref a26, .ref a27, .ref a28])), (a1, .inl (g.2 0, 225, .inl (fun _ => 0))), (a2, .inl (g.2 0, 675, .inl (fun _ => 0))), (a3, .inl (g.2 2, 3, .inl (upd (fun _ => 0) ((0 : Int32).toNatClampNeg) (vp_nar .boolean 1))))] H := hP
            have hD : va_D A [(h0, .inr (12, [.int 0, .ref a1, .ref a2, .ref a3, .ref a4, .int 0, .ref a6, .int 0, .int 0, .int 0, .int 0, .int 0, .int 0, .int (-1), .ref a14, .ref a15, .int 0, .int 0, .int 0, .ref a19, .ref a20, .int 0, .int 0, .ref a23, .ref a24, .ref a25, .ref a26, .ref a27, .ref a28])), (a1, .inl (g.2 0, 225, .inl (fun _ => 0))), (a2, .inl (g.2 0, 675, .inl (fun _ => 0))), (a3, .inl (g.2 2, 3, .inl (upd (fun _ => 0) ((0 : Int32).toNatClampNeg) (vp_nar .boolean 1))))] := hD
            generalize (upd (fun _ => 0) ((0 : Int32).toNatClampNeg) (vp_nar .boolean 1) : Nat → Int32) = f4 at hP hD
            refine lv_iconst (v := 0) hx hb dX12_image_55 (by decide) ?_
            exact rt_i FX () (congrArg (fun z => some (Value.int z)) (show (0 : Int32) = _ from by first | decide | (unfold sp_image; (repeat' split) <;> first | rfl | (exfalso; omega)))) trivial (hP.sub [] rfl) (hD.sub [] (by decide) rfl) hS (Nat.le_of_ble_eq_true rfl) (Nat.le_of_ble_eq_true rfl) dX12_image_56
          · have c3 := k_nle (a := 225) (b := ((i : Nat) : Int)) (by decide) (nI_toInt (by omega)) c3
            refine lv_aload_n hx hb dX12_image_24 rfl (lv_at hl 1 rfl) ?_
            refine g_get (C := RX12) (T := TX12) (N := 29) (ci := 12) (v := .ref a2) FC hKn hP i_X12 0 rfl rfl 2 (by decide) b_443 rfl dX12_image_25 ?_
            refine lv_sipush (v := 225) hx hb dX12_image_28 (by decide) ?_
            refine lv_iload_n hx hb dX12_image_31 rfl (lv_at hl 2 rfl) ?_
            refine lv_imul hx hb dX12_image_32 ?_
            refine tp_i (v := 0) (by decide) ?_
            refine lv_iload_n hx hb dX12_image_33 rfl (lv_at hl 0 rfl) ?_
            refine lv_iadd hx hb dX12_image_34 ?_
            refine tp_i (v := nI (0 + i)) (nI_add 0 i) ?_
            refine lv_aload_n hx hb dX12_image_35 rfl (lv_at hl 1 rfl) ?_
            refine g_get (C := RX12) (T := TX12) (N := 29) (ci := 12) (v := .ref a1) FC hKn hP i_X12 0 rfl rfl 1 (by decide) b_362 rfl dX12_image_36 ?_
            refine lv_iload_n hx hb dX12_image_39 rfl (lv_at hl 0 rfl) ?_
            refine va_iald hx hb hKn.1 hP 1 0 rfl rfl (vp_in_nI (by omega) (by decide)) dX12_image_40 ?_
            refine tp_i (v := 0) rfl ?_
            refine va_iast hx hb hKn.1 hP hD hS 2 0 rfl rfl (vp_in_nI (by omega) (by decide)) dX12_image_41 (fun H locs hP hD hS => ?_)
            have hP : va_P g.1 vwCl [(h0, .inr (12, [.int 0, .ref a1, .ref a2, .ref a3, .ref a4, .int 0, .ref a6, .int 0, .int 0, .int 0, .int 0, .int 0, .int 0, .int (-1), .ref a14, .ref a15, .int 0, .int 0, .int 0, .ref a19, .ref a20, .int 0, .int 0, .ref a23, .ref a24, .ref a25, .ref a26, .ref a27, .ref a28])), (a1, .inl (g.2 0, 225, .inl (fun _ => 0))), (a2, .inl (g.2 0, 675, .inl (upd (fun _ => 0) ((nI (0 + i)).toNatClampNeg) 0))), (a3, .inl (g.2 2, 3, .inl (fun _ => 0)))] H := hP
            have hD : va_D A [(h0, .inr (12, [.int 0, .ref a1, .ref a2, .ref a3, .ref a4, .int 0, .ref a6, .int 0, .int 0, .int 0, .int 0, .int 0, .int 0, .int (-1), .ref a14, .ref a15, .int 0, .int 0, .int 0, .ref a19, .ref a20, .int 0, .int 0, .ref a23, .ref a24, .ref a25, .ref a26, .ref a27, .ref a28])), (a1, .inl (g.2 0, 225, .inl (fun _ => 0))), (a2, .inl (g.2 0, 675, .inl (upd (fun _ => 0) ((nI (0 + i)).toNatClampNeg) 0))), (a3, .inl (g.2 2, 3, .inl (fun _ => 0)))] := hD
            rw [upd_z] at hP hD
            refine lv_iinc (v := nI (i + 1)) (lv' := [(2, .int (nI (i + 1))), (0, .ref h0), (1, .int 0)]) hx hb dX12_image_42 hl (k := 0) rfl (nI_1 _) (by decide) rfl (fun ls hl => ?_)
            refine lv_goto (tgt := 17) hx hb dX12_image_45 (by decide) ?_
            exact ih (i + 1)  H locs ls (by omega) (by omega) hP hD hS (lv_sub hl [0, 1, 2] rfl)
      exact lp 226 0  _ _ ls (by omega) (by omega) hP hD hS hl
    · obtain rfl : p1 = 1 := Int32.toInt_inj.mp (hv.trans (by decide))
      refine lv_iconst (v := 0) hx hb dX12_image_15 (by decide) ?_
      refine lv_istore_n (lv' := [(2, .int 0), (0, .ref h0), (1, .int 1)]) hx hb dX12_image_16 rfl hl (by decide) rfl (fun ls hl => ?_)
      have lp : ∀ (n i : Nat)  (H : Heap) (locs : List Loc) (ls : Array Slot), i ≤ 225 → 225 < i + n → va_P g.1 vwCl [(h0, .inr (12, [.int 0, .ref a1, .ref a2, .ref a3, .ref a4, .int 0, .ref a6, .int 0, .int 0, .int 0, .int 0, .int 0, .int 0, .int (-1), .ref a14, .ref a15, .int 0, .int 0, .int 0, .ref a19, .ref a20, .int 0, .int 0, .ref a23, .ref a24, .ref a25, .ref a26, .ref a27, .ref a28])), (a1, .inl (g.2 0, 225, .inl (fun _ => 0))), (a2, .inl (g.2 0, 675, .inl (fun _ => 0))), (a3, .inl (g.2 2, 3, .inl (fun _ => 0)))] H → va_D A [(h0, .inr (12, [.int 0, .ref a1, .ref a2, .ref a3, .ref a4, .int 0, .ref a6, .int 0, .int 0, .int 0, .int 0, .int 0, .int 0, .int (-1), .ref a14, .ref a15, .int 0, .int 0, .int 0, .ref a19, .ref a20, .int 0, .int 0, .ref a23, .ref a24, .ref a25, .ref a26, .ref a27, .ref a28])), (a1, .inl (g.2 0, 225, .inl (fun _ => 0))), (a2, .inl (g.2 0, 675, .inl (fun _ => 0))), (a3, .inl (g.2 2, 3, .inl (fun _ => 0)))] → va_S A s.heap H locs → lv_has ls 3 [(2, .int (nI i)), (0, .ref h0), (1, .int 1)] → W p l e { frames := 1, cells := 0, slots := 0, locals := 25 } s m ([.ref h0, .int 1].toArray) below meth c H locs 0 0 (MQ below (QX (S := Unit) (fun _ => some (.int (sp_image 1))) (fun _ => True) g (fun u => []) A) ([.ref h0, .int 1].toArray) s 0 0 A) (F0 m 17 ls []) := by
        intro n
        induction n with
        | zero =>
          intro i  H locs ls hi hn
          exact absurd hn (by omega)
        | succ n ih =>
          intro i  H locs ls hi hn hP hD hS hl
          refine lv_iload_n hx hb dX12_image_17 rfl (lv_at hl 0 rfl) ?_
          refine lv_sipush (v := 225) hx hb dX12_image_18 (by decide) ?_
          refine lv_icmp_ge (tgt := 48) hx hb dX12_image_21 (by decide) (fun c6 => ?_) (fun c6 => ?_)
          · have c6 := k_le (a := 225) (b := ((i : Nat) : Int)) (by decide) (nI_toInt (by omega)) c6
            refine lv_aload_n hx hb dX12_image_48 rfl (lv_at hl 1 rfl) ?_
            refine g_get (C := RX12) (T := TX12) (N := 29) (ci := 12) (v := .ref a3) FC hKn hP i_X12 0 rfl rfl 3 (by decide) b_442 rfl dX12_image_49 ?_
            refine lv_iload_n hx hb dX12_image_52 rfl (lv_at hl 2 rfl) ?_
            refine lv_iconst (v := 1) hx hb dX12_image_53 (by decide) ?_
            refine va_zast hx hb hKn.1 hP hD hS 3 2 rfl rfl (by unfold vp_in; decide) dX12_image_54 (fun H locs hP hD hS => ?_)
            have hP : va_P g.1 vwCl [(h0, .inr (12, [.int 0, .ref a1, .ref a2, .ref a3, .ref a4, .int 0, .ref a6, .int 0, .int 0, .int 0, .int 0, .int 0, .int 0, .int (-1), .ref a14, .ref a15, .int 0, .int 0, .int 0, .ref a19, .ref a20, .int 0, .int 0, .ref a23, .ref a24, .ref a25, .ref a26, .ref a27, .ref a28])), (a1, .inl (g.2 0, 225, .inl (fun _ => 0))), (a2, .inl (g.2 0, 675, .inl (fun _ => 0))), (a3, .inl (g.2 2, 3, .inl (upd (fun _ => 0) ((1 : Int32).toNatClampNeg) (vp_nar .boolean 1))))] H := hP
            have hD : va_D A [(h0, .inr (12, [.int 0, .ref a1, .ref a2, .ref a3, .ref a4, .int 0, .ref a6, .int 0, .int 0, .int 0, .int 0, .int 0, .int 0, .int (-1), .ref a14, .ref a15, .int 0, .int 0, .int 0, .ref a19, .ref a20, .int 0, .int 0, .ref a23, .ref a24, .ref a25, .ref a26, .ref a27, .ref a28])), (a1, .inl (g.2 0, 225, .inl (fun _ => 0))), (a2, .inl (g.2 0, 675, .inl (fun _ => 0))), (a3, .inl (g.2 2, 3, .inl (upd (fun _ => 0) ((1 : Int32).toNatClampNeg) (vp_nar .boolean 1))))] := hD
            generalize (upd (fun _ => 0) ((1 : Int32).toNatClampNeg) (vp_nar .boolean 1) : Nat → Int32) = f7 at hP hD
            refine lv_iconst (v := 0) hx hb dX12_image_55 (by decide) ?_
            exact rt_i FX () (congrArg (fun z => some (Value.int z)) (show (0 : Int32) = _ from by first | decide | (unfold sp_image; (repeat' split) <;> first | rfl | (exfalso; omega)))) trivial (hP.sub [] rfl) (hD.sub [] (by decide) rfl) hS (Nat.le_of_ble_eq_true rfl) (Nat.le_of_ble_eq_true rfl) dX12_image_56
          · have c6 := k_nle (a := 225) (b := ((i : Nat) : Int)) (by decide) (nI_toInt (by omega)) c6
            refine lv_aload_n hx hb dX12_image_24 rfl (lv_at hl 1 rfl) ?_
            refine g_get (C := RX12) (T := TX12) (N := 29) (ci := 12) (v := .ref a2) FC hKn hP i_X12 0 rfl rfl 2 (by decide) b_443 rfl dX12_image_25 ?_
            refine lv_sipush (v := 225) hx hb dX12_image_28 (by decide) ?_
            refine lv_iload_n hx hb dX12_image_31 rfl (lv_at hl 2 rfl) ?_
            refine lv_imul hx hb dX12_image_32 ?_
            refine tp_i (v := 225) (by decide) ?_
            refine lv_iload_n hx hb dX12_image_33 rfl (lv_at hl 0 rfl) ?_
            refine lv_iadd hx hb dX12_image_34 ?_
            refine tp_i (v := nI (225 + i)) (nI_add 225 i) ?_
            refine lv_aload_n hx hb dX12_image_35 rfl (lv_at hl 1 rfl) ?_
            refine g_get (C := RX12) (T := TX12) (N := 29) (ci := 12) (v := .ref a1) FC hKn hP i_X12 0 rfl rfl 1 (by decide) b_362 rfl dX12_image_36 ?_
            refine lv_iload_n hx hb dX12_image_39 rfl (lv_at hl 0 rfl) ?_
            refine va_iald hx hb hKn.1 hP 1 0 rfl rfl (vp_in_nI (by omega) (by decide)) dX12_image_40 ?_
            refine tp_i (v := 0) rfl ?_
            refine va_iast hx hb hKn.1 hP hD hS 2 0 rfl rfl (vp_in_nI (by omega) (by decide)) dX12_image_41 (fun H locs hP hD hS => ?_)
            have hP : va_P g.1 vwCl [(h0, .inr (12, [.int 0, .ref a1, .ref a2, .ref a3, .ref a4, .int 0, .ref a6, .int 0, .int 0, .int 0, .int 0, .int 0, .int 0, .int (-1), .ref a14, .ref a15, .int 0, .int 0, .int 0, .ref a19, .ref a20, .int 0, .int 0, .ref a23, .ref a24, .ref a25, .ref a26, .ref a27, .ref a28])), (a1, .inl (g.2 0, 225, .inl (fun _ => 0))), (a2, .inl (g.2 0, 675, .inl (upd (fun _ => 0) ((nI (225 + i)).toNatClampNeg) 0))), (a3, .inl (g.2 2, 3, .inl (fun _ => 0)))] H := hP
            have hD : va_D A [(h0, .inr (12, [.int 0, .ref a1, .ref a2, .ref a3, .ref a4, .int 0, .ref a6, .int 0, .int 0, .int 0, .int 0, .int 0, .int 0, .int (-1), .ref a14, .ref a15, .int 0, .int 0, .int 0, .ref a19, .ref a20, .int 0, .int 0, .ref a23, .ref a24, .ref a25, .ref a26, .ref a27, .ref a28])), (a1, .inl (g.2 0, 225, .inl (fun _ => 0))), (a2, .inl (g.2 0, 675, .inl (upd (fun _ => 0) ((nI (225 + i)).toNatClampNeg) 0))), (a3, .inl (g.2 2, 3, .inl (fun _ => 0)))] := hD
            rw [upd_z] at hP hD
            refine lv_iinc (v := nI (i + 1)) (lv' := [(2, .int (nI (i + 1))), (0, .ref h0), (1, .int 1)]) hx hb dX12_image_42 hl (k := 0) rfl (nI_1 _) (by decide) rfl (fun ls hl => ?_)
            refine lv_goto (tgt := 17) hx hb dX12_image_45 (by decide) ?_
            exact ih (i + 1)  H locs ls (by omega) (by omega) hP hD hS (lv_sub hl [0, 1, 2] rfl)
      exact lp 226 0  _ _ ls (by omega) (by omega) hP hD hS hl
    · obtain rfl : p1 = 2 := Int32.toInt_inj.mp (hv.trans (by decide))
      refine lv_iconst (v := 0) hx hb dX12_image_15 (by decide) ?_
      refine lv_istore_n (lv' := [(2, .int 0), (0, .ref h0), (1, .int 2)]) hx hb dX12_image_16 rfl hl (by decide) rfl (fun ls hl => ?_)
      have lp : ∀ (n i : Nat)  (H : Heap) (locs : List Loc) (ls : Array Slot), i ≤ 225 → 225 < i + n → va_P g.1 vwCl [(h0, .inr (12, [.int 0, .ref a1, .ref a2, .ref a3, .ref a4, .int 0, .ref a6, .int 0, .int 0, .int 0, .int 0, .int 0, .int 0, .int (-1), .ref a14, .ref a15, .int 0, .int 0, .int 0, .ref a19, .ref a20, .int 0, .int 0, .ref a23, .ref a24, .ref a25, .ref a26, .ref a27, .ref a28])), (a1, .inl (g.2 0, 225, .inl (fun _ => 0))), (a2, .inl (g.2 0, 675, .inl (fun _ => 0))), (a3, .inl (g.2 2, 3, .inl (fun _ => 0)))] H → va_D A [(h0, .inr (12, [.int 0, .ref a1, .ref a2, .ref a3, .ref a4, .int 0, .ref a6, .int 0, .int 0, .int 0, .int 0, .int 0, .int 0, .int (-1), .ref a14, .ref a15, .int 0, .int 0, .int 0, .ref a19, .ref a20, .int 0, .int 0, .ref a23, .ref a24, .ref a25, .ref a26, .ref a27, .ref a28])), (a1, .inl (g.2 0, 225, .inl (fun _ => 0))), (a2, .inl (g.2 0, 675, .inl (fun _ => 0))), (a3, .inl (g.2 2, 3, .inl (fun _ => 0)))] → va_S A s.heap H locs → lv_has ls 3 [(2, .int (nI i)), (0, .ref h0), (1, .int 2)] → W p l e { frames := 1, cells := 0, slots := 0, locals := 25 } s m ([.ref h0, .int 2].toArray) below meth c H locs 0 0 (MQ below (QX (S := Unit) (fun _ => some (.int (sp_image 2))) (fun _ => True) g (fun u => []) A) ([.ref h0, .int 2].toArray) s 0 0 A) (F0 m 17 ls []) := by
        intro n
        induction n with
        | zero =>
          intro i  H locs ls hi hn
          exact absurd hn (by omega)
        | succ n ih =>
          intro i  H locs ls hi hn hP hD hS hl
          refine lv_iload_n hx hb dX12_image_17 rfl (lv_at hl 0 rfl) ?_
          refine lv_sipush (v := 225) hx hb dX12_image_18 (by decide) ?_
          refine lv_icmp_ge (tgt := 48) hx hb dX12_image_21 (by decide) (fun c9 => ?_) (fun c9 => ?_)
          · have c9 := k_le (a := 225) (b := ((i : Nat) : Int)) (by decide) (nI_toInt (by omega)) c9
            refine lv_aload_n hx hb dX12_image_48 rfl (lv_at hl 1 rfl) ?_
            refine g_get (C := RX12) (T := TX12) (N := 29) (ci := 12) (v := .ref a3) FC hKn hP i_X12 0 rfl rfl 3 (by decide) b_442 rfl dX12_image_49 ?_
            refine lv_iload_n hx hb dX12_image_52 rfl (lv_at hl 2 rfl) ?_
            refine lv_iconst (v := 1) hx hb dX12_image_53 (by decide) ?_
            refine va_zast hx hb hKn.1 hP hD hS 3 2 rfl rfl (by unfold vp_in; decide) dX12_image_54 (fun H locs hP hD hS => ?_)
            have hP : va_P g.1 vwCl [(h0, .inr (12, [.int 0, .ref a1, .ref a2, .ref a3, .ref a4, .int 0, .ref a6, .int 0, .int 0, .int 0, .int 0, .int 0, .int 0, .int (-1), .ref a14, .ref a15, .int 0, .int 0, .int 0, .ref a19, .ref a20, .int 0, .int 0, .ref a23, .ref a24, .ref a25, .ref a26, .ref a27, .ref a28])), (a1, .inl (g.2 0, 225, .inl (fun _ => 0))), (a2, .inl (g.2 0, 675, .inl (fun _ => 0))), (a3, .inl (g.2 2, 3, .inl (upd (fun _ => 0) ((2 : Int32).toNatClampNeg) (vp_nar .boolean 1))))] H := hP
            have hD : va_D A [(h0, .inr (12, [.int 0, .ref a1, .ref a2, .ref a3, .ref a4, .int 0, .ref a6, .int 0, .int 0, .int 0, .int 0, .int 0, .int 0, .int (-1), .ref a14, .ref a15, .int 0, .int 0, .int 0, .ref a19, .ref a20, .int 0, .int 0, .ref a23, .ref a24, .ref a25, .ref a26, .ref a27, .ref a28])), (a1, .inl (g.2 0, 225, .inl (fun _ => 0))), (a2, .inl (g.2 0, 675, .inl (fun _ => 0))), (a3, .inl (g.2 2, 3, .inl (upd (fun _ => 0) ((2 : Int32).toNatClampNeg) (vp_nar .boolean 1))))] := hD
            generalize (upd (fun _ => 0) ((2 : Int32).toNatClampNeg) (vp_nar .boolean 1) : Nat → Int32) = f10 at hP hD
            refine lv_iconst (v := 0) hx hb dX12_image_55 (by decide) ?_
            exact rt_i FX () (congrArg (fun z => some (Value.int z)) (show (0 : Int32) = _ from by first | decide | (unfold sp_image; (repeat' split) <;> first | rfl | (exfalso; omega)))) trivial (hP.sub [] rfl) (hD.sub [] (by decide) rfl) hS (Nat.le_of_ble_eq_true rfl) (Nat.le_of_ble_eq_true rfl) dX12_image_56
          · have c9 := k_nle (a := 225) (b := ((i : Nat) : Int)) (by decide) (nI_toInt (by omega)) c9
            refine lv_aload_n hx hb dX12_image_24 rfl (lv_at hl 1 rfl) ?_
            refine g_get (C := RX12) (T := TX12) (N := 29) (ci := 12) (v := .ref a2) FC hKn hP i_X12 0 rfl rfl 2 (by decide) b_443 rfl dX12_image_25 ?_
            refine lv_sipush (v := 225) hx hb dX12_image_28 (by decide) ?_
            refine lv_iload_n hx hb dX12_image_31 rfl (lv_at hl 2 rfl) ?_
            refine lv_imul hx hb dX12_image_32 ?_
            refine tp_i (v := 450) (by decide) ?_
            refine lv_iload_n hx hb dX12_image_33 rfl (lv_at hl 0 rfl) ?_
            refine lv_iadd hx hb dX12_image_34 ?_
            refine tp_i (v := nI (450 + i)) (nI_add 450 i) ?_
            refine lv_aload_n hx hb dX12_image_35 rfl (lv_at hl 1 rfl) ?_
            refine g_get (C := RX12) (T := TX12) (N := 29) (ci := 12) (v := .ref a1) FC hKn hP i_X12 0 rfl rfl 1 (by decide) b_362 rfl dX12_image_36 ?_
            refine lv_iload_n hx hb dX12_image_39 rfl (lv_at hl 0 rfl) ?_
            refine va_iald hx hb hKn.1 hP 1 0 rfl rfl (vp_in_nI (by omega) (by decide)) dX12_image_40 ?_
            refine tp_i (v := 0) rfl ?_
            refine va_iast hx hb hKn.1 hP hD hS 2 0 rfl rfl (vp_in_nI (by omega) (by decide)) dX12_image_41 (fun H locs hP hD hS => ?_)
            have hP : va_P g.1 vwCl [(h0, .inr (12, [.int 0, .ref a1, .ref a2, .ref a3, .ref a4, .int 0, .ref a6, .int 0, .int 0, .int 0, .int 0, .int 0, .int 0, .int (-1), .ref a14, .ref a15, .int 0, .int 0, .int 0, .ref a19, .ref a20, .int 0, .int 0, .ref a23, .ref a24, .ref a25, .ref a26, .ref a27, .ref a28])), (a1, .inl (g.2 0, 225, .inl (fun _ => 0))), (a2, .inl (g.2 0, 675, .inl (upd (fun _ => 0) ((nI (450 + i)).toNatClampNeg) 0))), (a3, .inl (g.2 2, 3, .inl (fun _ => 0)))] H := hP
            have hD : va_D A [(h0, .inr (12, [.int 0, .ref a1, .ref a2, .ref a3, .ref a4, .int 0, .ref a6, .int 0, .int 0, .int 0, .int 0, .int 0, .int 0, .int (-1), .ref a14, .ref a15, .int 0, .int 0, .int 0, .ref a19, .ref a20, .int 0, .int 0, .ref a23, .ref a24, .ref a25, .ref a26, .ref a27, .ref a28])), (a1, .inl (g.2 0, 225, .inl (fun _ => 0))), (a2, .inl (g.2 0, 675, .inl (upd (fun _ => 0) ((nI (450 + i)).toNatClampNeg) 0))), (a3, .inl (g.2 2, 3, .inl (fun _ => 0)))] := hD
            rw [upd_z] at hP hD
            refine lv_iinc (v := nI (i + 1)) (lv' := [(2, .int (nI (i + 1))), (0, .ref h0), (1, .int 2)]) hx hb dX12_image_42 hl (k := 0) rfl (nI_1 _) (by decide) rfl (fun ls hl => ?_)
            refine lv_goto (tgt := 17) hx hb dX12_image_45 (by decide) ?_
            exact ih (i + 1)  H locs ls (by omega) (by omega) hP hD hS (lv_sub hl [0, 1, 2] rfl)
      exact lp 226 0  _ _ ls (by omega) (by omega) hP hD hS hl
  · refine tp_i (v := 0) (inF_not (Int32.toInt_toInt64 _) (by decide) (by decide) c2) ?_
    refine lv_if_ne (tgt := 15) hx hb dX12_image_9 (by decide) (fun h => absurd h (by decide)) (fun _ => ?_)
    refine lv_bipush (v := -2) hx hb dX12_image_12 (by decide) ?_
    exact rt_i FX () (congrArg (fun z => some (Value.int z)) (show (-2 : Int32) = _ from by first | decide | (unfold sp_image; (repeat' split) <;> first | rfl | (exfalso; omega)))) trivial (hP.sub [] rfl) (hD.sub [] (by decide) rfl) hS (Nat.le_of_ble_eq_true rfl) (Nat.le_of_ble_eq_true rfl) dX12_image_14
set_option maxRecDepth 100000 in
set_option maxHeartbeats 4000000 in
theorem c_X12_row (l : Launch) (g : GG) (h0 : Nat) (a1 : Nat) (a2 : Nat) (a3 : Nat) (a4 : Nat) (a6 : Nat) (a14 : Nat) (a15 : Nat) (a19 : Nat) (a20 : Nat) (a23 : Nat) (a24 : Nat) (a25 : Nat) (a26 : Nat) (a27 : Nat) (a28 : Nat) (p1 : Int32) (p2 : Int32) (p3 : Int32) : Ct l g yX12_row cX12_row 5 (some .int) { frames := 2, cells := 0, slots := 0, locals := 45 } [.ref h0, .int p1, .int p2, .int p3] [(h0, .inr (12, [.int 0, .ref a1, .ref a2, .ref a3, .ref a4, .int 0, .ref a6, .int 0, .int 0, .int 0, .int 0, .int 0, .int 0, .int (-1), .ref a14, .ref a15, .int 0, .int 0, .int 0, .ref a19, .ref a20, .int 0, .int 0, .ref a23, .ref a24, .ref a25, .ref a26, .ref a27, .ref a28])), (a25, .inl (g.2 0, 4, .inl mny)), (a26, .inl (g.2 0, 4, .inl (fun _ => 0))), (a27, .inl (g.2 3, 240, .inr (.inl (fun _ => 0))))] (S := Unit) (fun _ => some (.int (sp_row p1 p2 p3))) (fun _ => True) (fun u => []) := by
  refine Ct.of (by decide) (Nat.le_of_ble_eq_true rfl) ?_
  intro p e s m below meth c A ls FX hP hD hS hl
  obtain ⟨FC, hr, hlk, hKn, hA, hnm⟩ := id FX
  have FC : CallFix p m c cX12_row 5 s _ BIG RX12 := FC
  obtain ⟨hx, hb, hml, hown, hB⟩ := id FC
  have hl : lv_has ls 5 [(0, .ref h0), (1, .int p1), (2, .int p2), (3, .int p3)] := hl
  refine lv_iload_n hx hb dX12_row_0 rfl (lv_at hl 1 rfl) ?_
  refine call_S (As := [.int p1]) (rest := []) (wr := [(h0, .inr (12, [.int 0, .ref a1, .ref a2, .ref a3, .ref a4, .int 0, .ref a6, .int 0, .int 0, .int 0, .int 0, .int 0, .int 0, .int (-1), .ref a14, .ref a15, .int 0, .int 0, .int 0, .ref a19, .ref a20, .int 0, .int 0, .ref a23, .ref a24, .ref a25, .ref a26, .ref a27, .ref a28])), (a25, .inl (g.2 0, 4, .inl mny)), (a26, .inl (g.2 0, 4, .inl (fun _ => 0))), (a27, .inl (g.2 3, 240, .inr (.inl (fun _ => 0))))]) FC hKn (c_X12_isSlot l g p1) m_yX12_isSlot b_364 hP hD hS hA [] [0, 1, 2, 3] rfl (by decide) rfl (by decide) (by decide) rfl hl.1 rfl (Nat.le_of_ble_eq_true rfl) dX12_row_1 ⟨(Nat.le_of_ble_eq_true rfl), (Nat.le_of_ble_eq_true rfl)⟩ ⟨(Nat.le_of_ble_eq_true rfl), (Nat.le_of_ble_eq_true rfl)⟩ (fun u1 H locs _ hP hD hS => ?_)
  have hP : va_P g.1 vwCl [(h0, .inr (12, [.int 0, .ref a1, .ref a2, .ref a3, .ref a4, .int 0, .ref a6, .int 0, .int 0, .int 0, .int 0, .int 0, .int 0, .int (-1), .ref a14, .ref a15, .int 0, .int 0, .int 0, .ref a19, .ref a20, .int 0, .int 0, .ref a23, .ref a24, .ref a25, .ref a26, .ref a27, .ref a28])), (a25, .inl (g.2 0, 4, .inl mny)), (a26, .inl (g.2 0, 4, .inl (fun _ => 0))), (a27, .inl (g.2 3, 240, .inr (.inl (fun _ => 0))))] H := hP
  have hD : va_D A [(h0, .inr (12, [.int 0, .ref a1, .ref a2, .ref a3, .ref a4, .int 0, .ref a6, .int 0, .int 0, .int 0, .int 0, .int 0, .int 0, .int (-1), .ref a14, .ref a15, .int 0, .int 0, .int 0, .ref a19, .ref a20, .int 0, .int 0, .ref a23, .ref a24, .ref a25, .ref a26, .ref a27, .ref a28])), (a25, .inl (g.2 0, 4, .inl mny)), (a26, .inl (g.2 0, 4, .inl (fun _ => 0))), (a27, .inl (g.2 3, 240, .inr (.inl (fun _ => 0))))] := hD
  refine W.eq (g2 := F0 m 4 ls [.int (sp_slot p1)]) rfl ?_
  by_cases c2 : 0 ≤ p1.toInt ∧ p1.toInt ≤ 3
  · refine tp_i (v := 1) (if_pos c2) ?_
    refine lv_if_eq (tgt := 25) hx hb dX12_row_4 (by decide) (fun h => absurd h (by decide)) (fun _ => ?_)
    refine lv_iload_n hx hb dX12_row_7 rfl (lv_at hl 2 rfl) ?_
    refine lv_i2l (v := p2.toInt64) hx hb dX12_row_8 rfl ?_
    refine lv_lconst (v := 0) hx hb dX12_row_9 (by decide) ?_
    refine lv_ldc2 hx hb hown (hB _ b_359) dX12_row_10 ?_
    refine call_S (As := [.long p2.toInt64, .long 0, .long 3]) (rest := []) (wr := [(h0, .inr (12, [.int 0, .ref a1, .ref a2, .ref a3, .ref a4, .int 0, .ref a6, .int 0, .int 0, .int 0, .int 0, .int 0, .int 0, .int (-1), .ref a14, .ref a15, .int 0, .int 0, .int 0, .ref a19, .ref a20, .int 0, .int 0, .ref a23, .ref a24, .ref a25, .ref a26, .ref a27, .ref a28])), (a25, .inl (g.2 0, 4, .inl mny)), (a26, .inl (g.2 0, 4, .inl (fun _ => 0))), (a27, .inl (g.2 3, 240, .inr (.inl (fun _ => 0))))]) FC hKn (c_X12_in l g p2.toInt64 0 3) m_yX12_in b_360 hP hD hS hA [] [0, 1, 2, 3] rfl (by decide) rfl (by decide) (by decide) rfl hl.1 rfl (Nat.le_of_ble_eq_true rfl) dX12_row_13 ⟨(Nat.le_of_ble_eq_true rfl), (Nat.le_of_ble_eq_true rfl)⟩ ⟨(Nat.le_of_ble_eq_true rfl), (Nat.le_of_ble_eq_true rfl)⟩ (fun u3 H locs _ hP hD hS => ?_)
    have hP : va_P g.1 vwCl [(h0, .inr (12, [.int 0, .ref a1, .ref a2, .ref a3, .ref a4, .int 0, .ref a6, .int 0, .int 0, .int 0, .int 0, .int 0, .int 0, .int (-1), .ref a14, .ref a15, .int 0, .int 0, .int 0, .ref a19, .ref a20, .int 0, .int 0, .ref a23, .ref a24, .ref a25, .ref a26, .ref a27, .ref a28])), (a25, .inl (g.2 0, 4, .inl mny)), (a26, .inl (g.2 0, 4, .inl (fun _ => 0))), (a27, .inl (g.2 3, 240, .inr (.inl (fun _ => 0))))] H := hP
    have hD : va_D A [(h0, .inr (12, [.int 0, .ref a1, .ref a2, .ref a3, .ref a4, .int 0, .ref a6, .int 0, .int 0, .int 0, .int 0, .int 0, .int 0, .int (-1), .ref a14, .ref a15, .int 0, .int 0, .int 0, .ref a19, .ref a20, .int 0, .int 0, .ref a23, .ref a24, .ref a25, .ref a26, .ref a27, .ref a28])), (a25, .inl (g.2 0, 4, .inl mny)), (a26, .inl (g.2 0, 4, .inl (fun _ => 0))), (a27, .inl (g.2 3, 240, .inr (.inl (fun _ => 0))))] := hD
    refine W.eq (g2 := F0 m 16 ls [.int (inF p2.toInt64 0 3)]) rfl ?_
    by_cases c4 : 0 ≤ p2.toInt ∧ p2.toInt ≤ 3
    · refine tp_i (v := 1) (inF_yes (Int32.toInt_toInt64 _) (by decide) (by decide) c4) ?_
      refine lv_if_eq (tgt := 25) hx hb dX12_row_16 (by decide) (fun h => absurd h (by decide)) (fun _ => ?_)
      refine lv_iload_n hx hb dX12_row_19 rfl (lv_at hl 3 rfl) ?_
      refine lv_bipush (v := 60) hx hb dX12_row_20 (by decide) ?_
      refine lv_icmp_le (tgt := 28) hx hb dX12_row_22 (by decide) (fun c5 => ?_) (fun c5 => ?_)
      · have c5 := k_le (a := p3.toInt) (b := 60) rfl (by decide) c5
        refine lv_iload_n hx hb dX12_row_28 rfl (lv_at hl 3 rfl) ?_
        refine lv_if_ge (tgt := 35) hx hb dX12_row_29 (by decide) (fun c6 => ?_) (fun c6 => ?_)
        · have c6 := k_le (a := 0) (b := p3.toInt) (by decide) rfl c6
          rcases (show p1.toInt = 0 ∨ p1.toInt = 1 ∨ p1.toInt = 2 ∨ p1.toInt = 3 by omega) with hv | hv | hv | hv
          · obtain rfl : p1 = 0 := Int32.toInt_inj.mp (hv.trans (by decide))
            refine lv_aload_n hx hb dX12_row_35 rfl (lv_at hl 0 rfl) ?_
            refine g_get (C := RX12) (T := TX12) (N := 29) (ci := 12) (v := .ref a25) FC hKn hP i_X12 0 rfl rfl 25 (by decide) b_440 rfl dX12_row_36 ?_
            refine lv_iload_n hx hb dX12_row_39 rfl (lv_at hl 1 rfl) ?_
            refine lv_iload_n hx hb dX12_row_40 rfl (lv_at hl 3 rfl) ?_
            refine va_iast hx hb hKn.1 hP hD hS 1 0 rfl rfl (by unfold vp_in; decide) dX12_row_41 (fun H locs hP hD hS => ?_)
            have hP : va_P g.1 vwCl [(h0, .inr (12, [.int 0, .ref a1, .ref a2, .ref a3, .ref a4, .int 0, .ref a6, .int 0, .int 0, .int 0, .int 0, .int 0, .int 0, .int (-1), .ref a14, .ref a15, .int 0, .int 0, .int 0, .ref a19, .ref a20, .int 0, .int 0, .ref a23, .ref a24, .ref a25, .ref a26, .ref a27, .ref a28])), (a25, .inl (g.2 0, 4, .inl (upd mny ((0 : Int32).toNatClampNeg) p3))), (a26, .inl (g.2 0, 4, .inl (fun _ => 0))), (a27, .inl (g.2 3, 240, .inr (.inl (fun _ => 0))))] H := hP
            have hD : va_D A [(h0, .inr (12, [.int 0, .ref a1, .ref a2, .ref a3, .ref a4, .int 0, .ref a6, .int 0, .int 0, .int 0, .int 0, .int 0, .int 0, .int (-1), .ref a14, .ref a15, .int 0, .int 0, .int 0, .ref a19, .ref a20, .int 0, .int 0, .ref a23, .ref a24, .ref a25, .ref a26, .ref a27, .ref a28])), (a25, .inl (g.2 0, 4, .inl (upd mny ((0 : Int32).toNatClampNeg) p3))), (a26, .inl (g.2 0, 4, .inl (fun _ => 0))), (a27, .inl (g.2 3, 240, .inr (.inl (fun _ => 0))))] := hD
            generalize (upd mny ((0 : Int32).toNatClampNeg) p3 : Nat → Int32) = f7 at hP hD
            refine lv_aload_n hx hb dX12_row_42 rfl (lv_at hl 0 rfl) ?_
            refine g_get (C := RX12) (T := TX12) (N := 29) (ci := 12) (v := .ref a26) FC hKn hP i_X12 0 rfl rfl 26 (by decide) b_444 rfl dX12_row_43 ?_
            refine lv_iload_n hx hb dX12_row_46 rfl (lv_at hl 1 rfl) ?_
            refine lv_iload_n hx hb dX12_row_47 rfl (lv_at hl 2 rfl) ?_
            refine va_iast hx hb hKn.1 hP hD hS 2 0 rfl rfl (by unfold vp_in; decide) dX12_row_48 (fun H locs hP hD hS => ?_)
            have hP : va_P g.1 vwCl [(h0, .inr (12, [.int 0, .ref a1, .ref a2, .ref a3, .ref a4, .int 0, .ref a6, .int 0, .int 0, .int 0, .int 0, .int 0, .int 0, .int (-1), .ref a14, .ref a15, .int 0, .int 0, .int 0, .ref a19, .ref a20, .int 0, .int 0, .ref a23, .ref a24, .ref a25, .ref a26, .ref a27, .ref a28])), (a25, .inl (g.2 0, 4, .inl f7)), (a26, .inl (g.2 0, 4, .inl (upd (fun _ => 0) ((0 : Int32).toNatClampNeg) p2))), (a27, .inl (g.2 3, 240, .inr (.inl (fun _ => 0))))] H := hP
            have hD : va_D A [(h0, .inr (12, [.int 0, .ref a1, .ref a2, .ref a3, .ref a4, .int 0, .ref a6, .int 0, .int 0, .int 0, .int 0, .int 0, .int 0, .int (-1), .ref a14, .ref a15, .int 0, .int 0, .int 0, .ref a19, .ref a20, .int 0, .int 0, .ref a23, .ref a24, .ref a25, .ref a26, .ref a27, .ref a28])), (a25, .inl (g.2 0, 4, .inl f7)), (a26, .inl (g.2 0, 4, .inl (upd (fun _ => 0) ((0 : Int32).toNatClampNeg) p2))), (a27, .inl (g.2 3, 240, .inr (.inl (fun _ => 0))))] := hD
            generalize (upd (fun _ => 0) ((0 : Int32).toNatClampNeg) p2 : Nat → Int32) = f8 at hP hD
            refine lv_iconst (v := 0) hx hb dX12_row_49 (by decide) ?_
            refine lv_istore (lv' := [(4, .int 0), (0, .ref h0), (1, .int 0), (2, .int p2), (3, .int p3)]) hx hb dX12_row_50 hl (by decide) rfl (fun ls hl => ?_)
            have lp : ∀ (n i : Nat)  (H : Heap) (locs : List Loc) (ls : Array Slot), i ≤ 60 → 60 < i + n → va_P g.1 vwCl [(h0, .inr (12, [.int 0, .ref a1, .ref a2, .ref a3, .ref a4, .int 0, .ref a6, .int 0, .int 0, .int 0, .int 0, .int 0, .int 0, .int (-1), .ref a14, .ref a15, .int 0, .int 0, .int 0, .ref a19, .ref a20, .int 0, .int 0, .ref a23, .ref a24, .ref a25, .ref a26, .ref a27, .ref a28])), (a25, .inl (g.2 0, 4, .inl f7)), (a26, .inl (g.2 0, 4, .inl f8)), (a27, .inl (g.2 3, 240, .inr (.inl (fun _ => 0))))] H → va_D A [(h0, .inr (12, [.int 0, .ref a1, .ref a2, .ref a3, .ref a4, .int 0, .ref a6, .int 0, .int 0, .int 0, .int 0, .int 0, .int 0, .int (-1), .ref a14, .ref a15, .int 0, .int 0, .int 0, .ref a19, .ref a20, .int 0, .int 0, .ref a23, .ref a24, .ref a25, .ref a26, .ref a27, .ref a28])), (a25, .inl (g.2 0, 4, .inl f7)), (a26, .inl (g.2 0, 4, .inl f8)), (a27, .inl (g.2 3, 240, .inr (.inl (fun _ => 0))))] → va_S A s.heap H locs → lv_has ls 5 [(4, .int (nI i)), (0, .ref h0), (1, .int 0), (2, .int p2), (3, .int p3)] → W p l e { frames := 2, cells := 0, slots := 0, locals := 45 } s m ([.ref h0, .int 0, .int p2, .int p3].toArray) below meth c H locs 0 0 (MQ below (QX (S := Unit) (fun _ => some (.int (sp_row 0 p2 p3))) (fun _ => True) g (fun u => []) A) ([.ref h0, .int 0, .int p2, .int p3].toArray) s 0 0 A) (F0 m 52 ls []) := by
              intro n
              induction n with
              | zero =>
                intro i  H locs ls hi hn
                exact absurd hn (by omega)
              | succ n ih =>
                intro i  H locs ls hi hn hP hD hS hl
                refine lv_iload hx hb dX12_row_52 (lv_at hl 0 rfl) ?_
                refine lv_bipush (v := 60) hx hb dX12_row_54 (by decide) ?_
                refine lv_icmp_ge (tgt := 78) hx hb dX12_row_56 (by decide) (fun c9 => ?_) (fun c9 => ?_)
                · have c9 := k_le (a := 60) (b := ((i : Nat) : Int)) (by decide) (nI_toInt (by omega)) c9
                  refine lv_iconst (v := 0) hx hb dX12_row_78 (by decide) ?_
                  exact rt_i FX () (congrArg (fun z => some (Value.int z)) (show (0 : Int32) = _ from by first | decide | (unfold sp_row; (repeat' split) <;> first | rfl | (exfalso; omega)))) trivial (hP.sub [] rfl) (hD.sub [] (by decide) rfl) hS (Nat.le_of_ble_eq_true rfl) (Nat.le_of_ble_eq_true rfl) dX12_row_79
                · have c9 := k_nle (a := 60) (b := ((i : Nat) : Int)) (by decide) (nI_toInt (by omega)) c9
                  refine lv_aload_n hx hb dX12_row_59 rfl (lv_at hl 1 rfl) ?_
                  refine g_get (C := RX12) (T := TX12) (N := 29) (ci := 12) (v := .ref a27) FC hKn hP i_X12 0 rfl rfl 27 (by decide) b_445 rfl dX12_row_60 ?_
                  refine lv_bipush (v := 60) hx hb dX12_row_63 (by decide) ?_
                  refine lv_iload_n hx hb dX12_row_65 rfl (lv_at hl 2 rfl) ?_
                  refine lv_imul hx hb dX12_row_66 ?_
                  refine tp_i (v := 0) (by decide) ?_
                  refine lv_iload hx hb dX12_row_67 (lv_at hl 0 rfl) ?_
                  refine lv_iadd hx hb dX12_row_69 ?_
                  refine tp_i (v := nI (0 + i)) (nI_add 0 i) ?_
                  refine lv_lconst (v := 0) hx hb dX12_row_70 (by decide) ?_
                  refine va_last hx hb hKn.1 hP hD hS 3 3 rfl rfl (vp_in_nI (by omega) (by decide)) dX12_row_71 (fun H locs hP hD hS => ?_)
                  have hP : va_P g.1 vwCl [(h0, .inr (12, [.int 0, .ref a1, .ref a2, .ref a3, .ref a4, .int 0, .ref a6, .int 0, .int 0, .int 0, .int 0, .int 0, .int 0, .int (-1), .ref a14, .ref a15, .int 0, .int 0, .int 0, .ref a19, .ref a20, .int 0, .int 0, .ref a23, .ref a24, .ref a25, .ref a26, .ref a27, .ref a28])), (a25, .inl (g.2 0, 4, .inl f7)), (a26, .inl (g.2 0, 4, .inl f8)), (a27, .inl (g.2 3, 240, .inr (.inl (vp_updL (fun _ => 0) ((nI (0 + i)).toNatClampNeg) 0))))] H := hP
                  have hD : va_D A [(h0, .inr (12, [.int 0, .ref a1, .ref a2, .ref a3, .ref a4, .int 0, .ref a6, .int 0, .int 0, .int 0, .int 0, .int 0, .int 0, .int (-1), .ref a14, .ref a15, .int 0, .int 0, .int 0, .ref a19, .ref a20, .int 0, .int 0, .ref a23, .ref a24, .ref a25, .ref a26, .ref a27, .ref a28])), (a25, .inl (g.2 0, 4, .inl f7)), (a26, .inl (g.2 0, 4, .inl f8)), (a27, .inl (g.2 3, 240, .inr (.inl (vp_updL (fun _ => 0) ((nI (0 + i)).toNatClampNeg) 0))))] := hD
                  rw [updL_z] at hP hD
                  refine lv_iinc (v := nI (i + 1)) (lv' := [(4, .int (nI (i + 1))), (0, .ref h0), (1, .int 0), (2, .int p2), (3, .int p3)]) hx hb dX12_row_72 hl (k := 0) rfl (nI_1 _) (by decide) rfl (fun ls hl => ?_)
                  refine lv_goto (tgt := 52) hx hb dX12_row_75 (by decide) ?_
                  exact ih (i + 1)  H locs ls (by omega) (by omega) hP hD hS (lv_sub hl [0, 1, 2, 3, 4] rfl)
            exact lp 61 0  _ _ ls (by omega) (by omega) hP hD hS hl
          · obtain rfl : p1 = 1 := Int32.toInt_inj.mp (hv.trans (by decide))
            refine lv_aload_n hx hb dX12_row_35 rfl (lv_at hl 0 rfl) ?_
            refine g_get (C := RX12) (T := TX12) (N := 29) (ci := 12) (v := .ref a25) FC hKn hP i_X12 0 rfl rfl 25 (by decide) b_440 rfl dX12_row_36 ?_
            refine lv_iload_n hx hb dX12_row_39 rfl (lv_at hl 1 rfl) ?_
            refine lv_iload_n hx hb dX12_row_40 rfl (lv_at hl 3 rfl) ?_
            refine va_iast hx hb hKn.1 hP hD hS 1 0 rfl rfl (by unfold vp_in; decide) dX12_row_41 (fun H locs hP hD hS => ?_)
            have hP : va_P g.1 vwCl [(h0, .inr (12, [.int 0, .ref a1, .ref a2, .ref a3, .ref a4, .int 0, .ref a6, .int 0, .int 0, .int 0, .int 0, .int 0, .int 0, .int (-1), .ref a14, .ref a15, .int 0, .int 0, .int 0, .ref a19, .ref a20, .int 0, .int 0, .ref a23, .ref a24, .ref a25, .ref a26, .ref a27, .ref a28])), (a25, .inl (g.2 0, 4, .inl (upd mny ((1 : Int32).toNatClampNeg) p3))), (a26, .inl (g.2 0, 4, .inl (fun _ => 0))), (a27, .inl (g.2 3, 240, .inr (.inl (fun _ => 0))))] H := hP
            have hD : va_D A [(h0, .inr (12, [.int 0, .ref a1, .ref a2, .ref a3, .ref a4, .int 0, .ref a6, .int 0, .int 0, .int 0, .int 0, .int 0, .int 0, .int (-1), .ref a14, .ref a15, .int 0, .int 0, .int 0, .ref a19, .ref a20, .int 0, .int 0, .ref a23, .ref a24, .ref a25, .ref a26, .ref a27, .ref a28])), (a25, .inl (g.2 0, 4, .inl (upd mny ((1 : Int32).toNatClampNeg) p3))), (a26, .inl (g.2 0, 4, .inl (fun _ => 0))), (a27, .inl (g.2 3, 240, .inr (.inl (fun _ => 0))))] := hD
            generalize (upd mny ((1 : Int32).toNatClampNeg) p3 : Nat → Int32) = f11 at hP hD
            refine lv_aload_n hx hb dX12_row_42 rfl (lv_at hl 0 rfl) ?_
            refine g_get (C := RX12) (T := TX12) (N := 29) (ci := 12) (v := .ref a26) FC hKn hP i_X12 0 rfl rfl 26 (by decide) b_444 rfl dX12_row_43 ?_
            refine lv_iload_n hx hb dX12_row_46 rfl (lv_at hl 1 rfl) ?_
            refine lv_iload_n hx hb dX12_row_47 rfl (lv_at hl 2 rfl) ?_
            refine va_iast hx hb hKn.1 hP hD hS 2 0 rfl rfl (by unfold vp_in; decide) dX12_row_48 (fun H locs hP hD hS => ?_)
            have hP : va_P g.1 vwCl [(h0, .inr (12, [.int 0, .ref a1, .ref a2, .ref a3, .ref a4, .int 0, .ref a6, .int 0, .int 0, .int 0, .int 0, .int 0, .int 0, .int (-1), .ref a14, .ref a15, .int 0, .int 0, .int 0, .ref a19, .ref a20, .int 0, .int 0, .ref a23, .ref a24, .ref a25, .ref a26, .ref a27, .ref a28])), (a25, .inl (g.2 0, 4, .inl f11)), (a26, .inl (g.2 0, 4, .inl (upd (fun _ => 0) ((1 : Int32).toNatClampNeg) p2))), (a27, .inl (g.2 3, 240, .inr (.inl (fun _ => 0))))] H := hP
            have hD : va_D A [(h0, .inr (12, [.int 0, .ref a1, .ref a2, .ref a3, .ref a4, .int 0, .ref a6, .int 0, .int 0, .int 0, .int 0, .int 0, .int 0, .int (-1), .ref a14, .ref a15, .int 0, .int 0, .int 0, .ref a19, .ref a20, .int 0, .int 0, .ref a23, .ref a24, .ref a25, .ref a26, .ref a27, .ref a28])), (a25, .inl (g.2 0, 4, .inl f11)), (a26, .inl (g.2 0, 4, .inl (upd (fun _ => 0) ((1 : Int32).toNatClampNeg) p2))), (a27, .inl (g.2 3, 240, .inr (.inl (fun _ => 0))))] := hD
            generalize (upd (fun _ => 0) ((1 : Int32).toNatClampNeg) p2 : Nat → Int32) = f12 at hP hD
            refine lv_iconst (v := 0) hx hb dX12_row_49 (by decide) ?_
            refine lv_istore (lv' := [(4, .int 0), (0, .ref h0), (1, .int 1), (2, .int p2), (3, .int p3)]) hx hb dX12_row_50 hl (by decide) rfl (fun ls hl => ?_)
            have lp : ∀ (n i : Nat)  (H : Heap) (locs : List Loc) (ls : Array Slot), i ≤ 60 → 60 < i + n → va_P g.1 vwCl [(h0, .inr (12, [.int 0, .ref a1, .ref a2, .ref a3, .ref a4, .int 0, .ref a6, .int 0, .int 0, .int 0, .int 0, .int 0, .int 0, .int (-1), .ref a14, .ref a15, .int 0, .int 0, .int 0, .ref a19, .ref a20, .int 0, .int 0, .ref a23, .ref a24, .ref a25, .ref a26, .ref a27, .ref a28])), (a25, .inl (g.2 0, 4, .inl f11)), (a26, .inl (g.2 0, 4, .inl f12)), (a27, .inl (g.2 3, 240, .inr (.inl (fun _ => 0))))] H → va_D A [(h0, .inr (12, [.int 0, .ref a1, .ref a2, .ref a3, .ref a4, .int 0, .ref a6, .int 0, .int 0, .int 0, .int 0, .int 0, .int 0, .int (-1), .ref a14, .ref a15, .int 0, .int 0, .int 0, .ref a19, .ref a20, .int 0, .int 0, .ref a23, .ref a24, .ref a25, .ref a26, .ref a27, .ref a28])), (a25, .inl (g.2 0, 4, .inl f11)), (a26, .inl (g.2 0, 4, .inl f12)), (a27, .inl (g.2 3, 240, .inr (.inl (fun _ => 0))))] → va_S A s.heap H locs → lv_has ls 5 [(4, .int (nI i)), (0, .ref h0), (1, .int 1), (2, .int p2), (3, .int p3)] → W p l e { frames := 2, cells := 0, slots := 0, locals := 45 } s m ([.ref h0, .int 1, .int p2, .int p3].toArray) below meth c H locs 0 0 (MQ below (QX (S := Unit) (fun _ => some (.int (sp_row 1 p2 p3))) (fun _ => True) g (fun u => []) A) ([.ref h0, .int 1, .int p2, .int p3].toArray) s 0 0 A) (F0 m 52 ls []) := by
              intro n
              induction n with
              | zero =>
                intro i  H locs ls hi hn
                exact absurd hn (by omega)
              | succ n ih =>
                intro i  H locs ls hi hn hP hD hS hl
                refine lv_iload hx hb dX12_row_52 (lv_at hl 0 rfl) ?_
                refine lv_bipush (v := 60) hx hb dX12_row_54 (by decide) ?_
                refine lv_icmp_ge (tgt := 78) hx hb dX12_row_56 (by decide) (fun c13 => ?_) (fun c13 => ?_)
                · have c13 := k_le (a := 60) (b := ((i : Nat) : Int)) (by decide) (nI_toInt (by omega)) c13
                  refine lv_iconst (v := 0) hx hb dX12_row_78 (by decide) ?_
                  exact rt_i FX () (congrArg (fun z => some (Value.int z)) (show (0 : Int32) = _ from by first | decide | (unfold sp_row; (repeat' split) <;> first | rfl | (exfalso; omega)))) trivial (hP.sub [] rfl) (hD.sub [] (by decide) rfl) hS (Nat.le_of_ble_eq_true rfl) (Nat.le_of_ble_eq_true rfl) dX12_row_79
                · have c13 := k_nle (a := 60) (b := ((i : Nat) : Int)) (by decide) (nI_toInt (by omega)) c13
                  refine lv_aload_n hx hb dX12_row_59 rfl (lv_at hl 1 rfl) ?_
                  refine g_get (C := RX12) (T := TX12) (N := 29) (ci := 12) (v := .ref a27) FC hKn hP i_X12 0 rfl rfl 27 (by decide) b_445 rfl dX12_row_60 ?_
                  refine lv_bipush (v := 60) hx hb dX12_row_63 (by decide) ?_
                  refine lv_iload_n hx hb dX12_row_65 rfl (lv_at hl 2 rfl) ?_
                  refine lv_imul hx hb dX12_row_66 ?_
                  refine tp_i (v := 60) (by decide) ?_
                  refine lv_iload hx hb dX12_row_67 (lv_at hl 0 rfl) ?_
                  refine lv_iadd hx hb dX12_row_69 ?_
                  refine tp_i (v := nI (60 + i)) (nI_add 60 i) ?_
                  refine lv_lconst (v := 0) hx hb dX12_row_70 (by decide) ?_
                  refine va_last hx hb hKn.1 hP hD hS 3 3 rfl rfl (vp_in_nI (by omega) (by decide)) dX12_row_71 (fun H locs hP hD hS => ?_)
                  have hP : va_P g.1 vwCl [(h0, .inr (12, [.int 0, .ref a1, .ref a2, .ref a3, .ref a4, .int 0, .ref a6, .int 0, .int 0, .int 0, .int 0, .int 0, .int 0, .int (-1), .ref a14, .ref a15, .int 0, .int 0, .int 0, .ref a19, .ref a20, .int 0, .int 0, .ref a23, .ref a24, .ref a25, .ref a26, .ref a27, .ref a28])), (a25, .inl (g.2 0, 4, .inl f11)), (a26, .inl (g.2 0, 4, .inl f12)), (a27, .inl (g.2 3, 240, .inr (.inl (vp_updL (fun _ => 0) ((nI (60 + i)).toNatClampNeg) 0))))] H := hP
                  have hD : va_D A [(h0, .inr (12, [.int 0, .ref a1, .ref a2, .ref a3, .ref a4, .int 0, .ref a6, .int 0, .int 0, .int 0, .int 0, .int 0, .int 0, .int (-1), .ref a14, .ref a15, .int 0, .int 0, .int 0, .ref a19, .ref a20, .int 0, .int 0, .ref a23, .ref a24, .ref a25, .ref a26, .ref a27, .ref a28])), (a25, .inl (g.2 0, 4, .inl f11)), (a26, .inl (g.2 0, 4, .inl f12)), (a27, .inl (g.2 3, 240, .inr (.inl (vp_updL (fun _ => 0) ((nI (60 + i)).toNatClampNeg) 0))))] := hD
                  rw [updL_z] at hP hD
                  refine lv_iinc (v := nI (i + 1)) (lv' := [(4, .int (nI (i + 1))), (0, .ref h0), (1, .int 1), (2, .int p2), (3, .int p3)]) hx hb dX12_row_72 hl (k := 0) rfl (nI_1 _) (by decide) rfl (fun ls hl => ?_)
                  refine lv_goto (tgt := 52) hx hb dX12_row_75 (by decide) ?_
                  exact ih (i + 1)  H locs ls (by omega) (by omega) hP hD hS (lv_sub hl [0, 1, 2, 3, 4] rfl)
            exact lp 61 0  _ _ ls (by omega) (by omega) hP hD hS hl
          · obtain rfl : p1 = 2 := Int32.toInt_inj.mp (hv.trans (by decide))
            refine lv_aload_n hx hb dX12_row_35 rfl (lv_at hl 0 rfl) ?_
            refine g_get (C := RX12) (T := TX12) (N := 29) (ci := 12) (v := .ref a25) FC hKn hP i_X12 0 rfl rfl 25 (by decide) b_440 rfl dX12_row_36 ?_
            refine lv_iload_n hx hb dX12_row_39 rfl (lv_at hl 1 rfl) ?_
            refine lv_iload_n hx hb dX12_row_40 rfl (lv_at hl 3 rfl) ?_
            refine va_iast hx hb hKn.1 hP hD hS 1 0 rfl rfl (by unfold vp_in; decide) dX12_row_41 (fun H locs hP hD hS => ?_)
            have hP : va_P g.1 vwCl [(h0, .inr (12, [.int 0, .ref a1, .ref a2, .ref a3, .ref a4, .int 0, .ref a6, .int 0, .int 0, .int 0, .int 0, .int 0, .int 0, .int (-1), .ref a14, .ref a15, .int 0, .int 0, .int 0, .ref a19, .ref a20, .int 0, .int 0, .ref a23, .ref a24, .ref a25, .ref a26, .ref a27, .ref a28])), (a25, .inl (g.2 0, 4, .inl (upd mny ((2 : Int32).toNatClampNeg) p3))), (a26, .inl (g.2 0, 4, .inl (fun _ => 0))), (a27, .inl (g.2 3, 240, .inr (.inl (fun _ => 0))))] H := hP
            have hD : va_D A [(h0, .inr (12, [.int 0, .ref a1, .ref a2, .ref a3, .ref a4, .int 0, .ref a6, .int 0, .int 0, .int 0, .int 0, .int 0, .int 0, .int (-1), .ref a14, .ref a15, .int 0, .int 0, .int 0, .ref a19, .ref a20, .int 0, .int 0, .ref a23, .ref a24, .ref a25, .ref a26, .ref a27, .ref a28])), (a25, .inl (g.2 0, 4, .inl (upd mny ((2 : Int32).toNatClampNeg) p3))), (a26, .inl (g.2 0, 4, .inl (fun _ => 0))), (a27, .inl (g.2 3, 240, .inr (.inl (fun _ => 0))))] := hD
            generalize (upd mny ((2 : Int32).toNatClampNeg) p3 : Nat → Int32) = f15 at hP hD
            refine lv_aload_n hx hb dX12_row_42 rfl (lv_at hl 0 rfl) ?_
            refine g_get (C := RX12) (T := TX12) (N := 29) (ci := 12) (v := .ref a26) FC hKn hP i_X12 0 rfl rfl 26 (by decide) b_444 rfl dX12_row_43 ?_
            refine lv_iload_n hx hb dX12_row_46 rfl (lv_at hl 1 rfl) ?_
            refine lv_iload_n hx hb dX12_row_47 rfl (lv_at hl 2 rfl) ?_
            refine va_iast hx hb hKn.1 hP hD hS 2 0 rfl rfl (by unfold vp_in; decide) dX12_row_48 (fun H locs hP hD hS => ?_)
            have hP : va_P g.1 vwCl [(h0, .inr (12, [.int 0, .ref a1, .ref a2, .ref a3, .ref a4, .int 0, .ref a6, .int 0, .int 0, .int 0, .int 0, .int 0, .int 0, .int (-1), .ref a14, .ref a15, .int 0, .int 0, .int 0, .ref a19, .ref a20, .int 0, .int 0, .ref a23, .ref a24, .ref a25, .ref a26, .ref a27, .ref a28])), (a25, .inl (g.2 0, 4, .inl f15)), (a26, .inl (g.2 0, 4, .inl (upd (fun _ => 0) ((2 : Int32).toNatClampNeg) p2))), (a27, .inl (g.2 3, 240, .inr (.inl (fun _ => 0))))] H := hP
            have hD : va_D A [(h0, .inr (12, [.int 0, .ref a1, .ref a2, .ref a3, .ref a4, .int 0, .ref a6, .int 0, .int 0, .int 0, .int 0, .int 0, .int 0, .int (-1), .ref a14, .ref a15, .int 0, .int 0, .int 0, .ref a19, .ref a20, .int 0, .int 0, .ref a23, .ref a24, .ref a25, .ref a26, .ref a27, .ref a28])), (a25, .inl (g.2 0, 4, .inl f15)), (a26, .inl (g.2 0, 4, .inl (upd (fun _ => 0) ((2 : Int32).toNatClampNeg) p2))), (a27, .inl (g.2 3, 240, .inr (.inl (fun _ => 0))))] := hD
            generalize (upd (fun _ => 0) ((2 : Int32).toNatClampNeg) p2 : Nat → Int32) = f16 at hP hD
            refine lv_iconst (v := 0) hx hb dX12_row_49 (by decide) ?_
            refine lv_istore (lv' := [(4, .int 0), (0, .ref h0), (1, .int 2), (2, .int p2), (3, .int p3)]) hx hb dX12_row_50 hl (by decide) rfl (fun ls hl => ?_)
            have lp : ∀ (n i : Nat)  (H : Heap) (locs : List Loc) (ls : Array Slot), i ≤ 60 → 60 < i + n → va_P g.1 vwCl [(h0, .inr (12, [.int 0, .ref a1, .ref a2, .ref a3, .ref a4, .int 0, .ref a6, .int 0, .int 0, .int 0, .int 0, .int 0, .int 0, .int (-1), .ref a14, .ref a15, .int 0, .int 0, .int 0, .ref a19, .ref a20, .int 0, .int 0, .ref a23, .ref a24, .ref a25, .ref a26, .ref a27, .ref a28])), (a25, .inl (g.2 0, 4, .inl f15)), (a26, .inl (g.2 0, 4, .inl f16)), (a27, .inl (g.2 3, 240, .inr (.inl (fun _ => 0))))] H → va_D A [(h0, .inr (12, [.int 0, .ref a1, .ref a2, .ref a3, .ref a4, .int 0, .ref a6, .int 0, .int 0, .int 0, .int 0, .int 0, .int 0, .int (-1), .ref a14, .ref a15, .int 0, .int 0, .int 0, .ref a19, .ref a20, .int 0, .int 0, .ref a23, .ref a24, .ref a25, .ref a26, .ref a27, .ref a28])), (a25, .inl (g.2 0, 4, .inl f15)), (a26, .inl (g.2 0, 4, .inl f16)), (a27, .inl (g.2 3, 240, .inr (.inl (fun _ => 0))))] → va_S A s.heap H locs → lv_has ls 5 [(4, .int (nI i)), (0, .ref h0), (1, .int 2), (2, .int p2), (3, .int p3)] → W p l e { frames := 2, cells := 0, slots := 0, locals := 45 } s m ([.ref h0, .int 2, .int p2, .int p3].toArray) below meth c H locs 0 0 (MQ below (QX (S := Unit) (fun _ => some (.int (sp_row 2 p2 p3))) (fun _ => True) g (fun u => []) A) ([.ref h0, .int 2, .int p2, .int p3].toArray) s 0 0 A) (F0 m 52 ls []) := by
              intro n
              induction n with
              | zero =>
                intro i  H locs ls hi hn
                exact absurd hn (by omega)
              | succ n ih =>
                intro i  H locs ls hi hn hP hD hS hl
                refine lv_iload hx hb dX12_row_52 (lv_at hl 0 rfl) ?_
                refine lv_bipush (v := 60) hx hb dX12_row_54 (by decide) ?_
                refine lv_icmp_ge (tgt := 78) hx hb dX12_row_56 (by decide) (fun c17 => ?_) (fun c17 => ?_)
                · have c17 := k_le (a := 60) (b := ((i : Nat) : Int)) (by decide) (nI_toInt (by omega)) c17
                  refine lv_iconst (v := 0) hx hb dX12_row_78 (by decide) ?_
                  exact rt_i FX () (congrArg (fun z => some (Value.int z)) (show (0 : Int32) = _ from by first | decide | (unfold sp_row; (repeat' split) <;> first | rfl | (exfalso; omega)))) trivial (hP.sub [] rfl) (hD.sub [] (by decide) rfl) hS (Nat.le_of_ble_eq_true rfl) (Nat.le_of_ble_eq_true rfl) dX12_row_79
                · have c17 := k_nle (a := 60) (b := ((i : Nat) : Int)) (by decide) (nI_toInt (by omega)) c17
                  refine lv_aload_n hx hb dX12_row_59 rfl (lv_at hl 1 rfl) ?_
                  refine g_get (C := RX12) (T := TX12) (N := 29) (ci := 12) (v := .ref a27) FC hKn hP i_X12 0 rfl rfl 27 (by decide) b_445 rfl dX12_row_60 ?_
                  refine lv_bipush (v := 60) hx hb dX12_row_63 (by decide) ?_
                  refine lv_iload_n hx hb dX12_row_65 rfl (lv_at hl 2 rfl) ?_
                  refine lv_imul hx hb dX12_row_66 ?_
                  refine tp_i (v := 120) (by decide) ?_
                  refine lv_iload hx hb dX12_row_67 (lv_at hl 0 rfl) ?_
                  refine lv_iadd hx hb dX12_row_69 ?_
                  refine tp_i (v := nI (120 + i)) (nI_add 120 i) ?_
                  refine lv_lconst (v := 0) hx hb dX12_row_70 (by decide) ?_
                  refine va_last hx hb hKn.1 hP hD hS 3 3 rfl rfl (vp_in_nI (by omega) (by decide)) dX12_row_71 (fun H locs hP hD hS => ?_)
                  have hP : va_P g.1 vwCl [(h0, .inr (12, [.int 0, .ref a1, .ref a2, .ref a3, .ref a4, .int 0, .ref a6, .int 0, .int 0, .int 0, .int 0, .int 0, .int 0, .int (-1), .ref a14, .ref a15, .int 0, .int 0, .int 0, .ref a19, .ref a20, .int 0, .int 0, .ref a23, .ref a24, .ref a25, .ref a26, .ref a27, .ref a28])), (a25, .inl (g.2 0, 4, .inl f15)), (a26, .inl (g.2 0, 4, .inl f16)), (a27, .inl (g.2 3, 240, .inr (.inl (vp_updL (fun _ => 0) ((nI (120 + i)).toNatClampNeg) 0))))] H := hP
                  have hD : va_D A [(h0, .inr (12, [.int 0, .ref a1, .ref a2, .ref a3, .ref a4, .int 0, .ref a6, .int 0, .int 0, .int 0, .int 0, .int 0, .int 0, .int (-1), .ref a14, .ref a15, .int 0, .int 0, .int 0, .ref a19, .ref a20, .int 0, .int 0, .ref a23, .ref a24, .ref a25, .ref a26, .ref a27, .ref a28])), (a25, .inl (g.2 0, 4, .inl f15)), (a26, .inl (g.2 0, 4, .inl f16)), (a27, .inl (g.2 3, 240, .inr (.inl (vp_updL (fun _ => 0) ((nI (120 + i)).toNatClampNeg) 0))))] := hD
                  rw [updL_z] at hP hD
                  refine lv_iinc (v := nI (i + 1)) (lv' := [(4, .int (nI (i + 1))), (0, .ref h0), (1, .int 2), (2, .int p2), (3, .int p3)]) hx hb dX12_row_72 hl (k := 0) rfl (nI_1 _) (by decide) rfl (fun ls hl => ?_)
                  refine lv_goto (tgt := 52) hx hb dX12_row_75 (by decide) ?_
                  exact ih (i + 1)  H locs ls (by omega) (by omega) hP hD hS (lv_sub hl [0, 1, 2, 3, 4] rfl)
            exact lp 61 0  _ _ ls (by omega) (by omega) hP hD hS hl
          · obtain rfl : p1 = 3 := Int32.toInt_inj.mp (hv.trans (by decide))
            refine lv_aload_n hx hb dX12_row_35 rfl (lv_at hl 0 rfl) ?_
            refine g_get (C := RX12) (T := TX12) (N := 29) (ci := 12) (v := .ref a25) FC hKn hP i_X12 0 rfl rfl 25 (by decide) b_440 rfl dX12_row_36 ?_
            refine lv_iload_n hx hb dX12_row_39 rfl (lv_at hl 1 rfl) ?_
            refine lv_iload_n hx hb dX12_row_40 rfl (lv_at hl 3 rfl) ?_
            refine va_iast hx hb hKn.1 hP hD hS 1 0 rfl rfl (by unfold vp_in; decide) dX12_row_41 (fun H locs hP hD hS => ?_)
            have hP : va_P g.1 vwCl [(h0, .inr (12, [.int 0, .ref a1, .ref a2, .ref a3, .ref a4, .int 0, .ref a6, .int 0, .int 0, .int 0, .int 0, .int 0, .int 0, .int (-1), .ref a14, .ref a15, .int 0, .int 0, .int 0, .ref a19, .ref a20, .int 0, .int 0, .ref a23, .ref a24, .ref a25, .ref a26, .ref a27, .ref a28])), (a25, .inl (g.2 0, 4, .inl (upd mny ((3 : Int32).toNatClampNeg) p3))), (a26, .inl (g.2 0, 4, .inl (fun _ => 0))), (a27, .inl (g.2 3, 240, .inr (.inl (fun _ => 0))))] H := hP
            have hD : va_D A [(h0, .inr (12, [.int 0, .ref a1, .ref a2, .ref a3, .ref a4, .int 0, .ref a6, .int 0, .int 0, .int 0, .int 0, .int 0, .int 0, .int (-1), .ref a14, .ref a15, .int 0, .int 0, .int 0, .ref a19, .ref a20, .int 0, .int 0, .ref a23, .ref a24, .ref a25, .ref a26, .ref a27, .ref a28])), (a25, .inl (g.2 0, 4, .inl (upd mny ((3 : Int32).toNatClampNeg) p3))), (a26, .inl (g.2 0, 4, .inl (fun _ => 0))), (a27, .inl (g.2 3, 240, .inr (.inl (fun _ => 0))))] := hD
            generalize (upd mny ((3 : Int32).toNatClampNeg) p3 : Nat → Int32) = f19 at hP hD
            refine lv_aload_n hx hb dX12_row_42 rfl (lv_at hl 0 rfl) ?_
            refine g_get (C := RX12) (T := TX12) (N := 29) (ci := 12) (v := .ref a26) FC hKn hP i_X12 0 rfl rfl 26 (by decide) b_444 rfl dX12_row_43 ?_
            refine lv_iload_n hx hb dX12_row_46 rfl (lv_at hl 1 rfl) ?_
            refine lv_iload_n hx hb dX12_row_47 rfl (lv_at hl 2 rfl) ?_
            refine va_iast hx hb hKn.1 hP hD hS 2 0 rfl rfl (by unfold vp_in; decide) dX12_row_48 (fun H locs hP hD hS => ?_)
            have hP : va_P g.1 vwCl [(h0, .inr (12, [.int 0, .ref a1, .ref a2, .ref a3, .ref a4, .int 0, .ref a6, .int 0, .int 0, .int 0, .int 0, .int 0, .int 0, .int (-1), .ref a14, .ref a15, .int 0, .int 0, .int 0, .ref a19, .ref a20, .int 0, .int 0, .ref a23, .ref a24, .ref a25, .ref a26, .ref a27, .ref a28])), (a25, .inl (g.2 0, 4, .inl f19)), (a26, .inl (g.2 0, 4, .inl (upd (fun _ => 0) ((3 : Int32).toNatClampNeg) p2))), (a27, .inl (g.2 3, 240, .inr (.inl (fun _ => 0))))] H := hP
            have hD : va_D A [(h0, .inr (12, [.int 0, .ref a1, .ref a2, .ref a3, .ref a4, .int 0, .ref a6, .int 0, .int 0, .int 0, .int 0, .int 0, .int 0, .int (-1), .ref a14, .ref a15, .int 0, .int 0, .int 0, .ref a19, .ref a20, .int 0, .int 0, .ref a23, .ref a24, .ref a25, .ref a26, .ref a27, .ref a28])), (a25, .inl (g.2 0, 4, .inl f19)), (a26, .inl (g.2 0, 4, .inl (upd (fun _ => 0) ((3 : Int32).toNatClampNeg) p2))), (a27, .inl (g.2 3, 240, .inr (.inl (fun _ => 0))))] := hD
            generalize (upd (fun _ => 0) ((3 : Int32).toNatClampNeg) p2 : Nat → Int32) = f20 at hP hD
            refine lv_iconst (v := 0) hx hb dX12_row_49 (by decide) ?_
            refine lv_istore (lv' := [(4, .int 0), (0, .ref h0), (1, .int 3), (2, .int p2), (3, .int p3)]) hx hb dX12_row_50 hl (by decide) rfl (fun ls hl => ?_)
            have lp : ∀ (n i : Nat)  (H : Heap) (locs : List Loc) (ls : Array Slot), i ≤ 60 → 60 < i + n → va_P g.1 vwCl [(h0, .inr (12, [.int 0, .ref a1, .ref a2, .ref a3, .ref a4, .int 0, .ref a6, .int 0, .int 0, .int 0, .int 0, .int 0, .int 0, .int (-1), .ref a14, .ref a15, .int 0, .int 0, .int 0, .ref a19, .ref a20, .int 0, .int 0, .ref a23, .ref a24, .ref a25, .ref a26, .ref a27, .ref a28])), (a25, .inl (g.2 0, 4, .inl f19)), (a26, .inl (g.2 0, 4, .inl f20)), (a27, .inl (g.2 3, 240, .inr (.inl (fun _ => 0))))] H → va_D A [(h0, .inr (12, [.int 0, .ref a1, .ref a2, .ref a3, .ref a4, .int 0, .ref a6, .int 0, .int 0, .int 0, .int 0, .int 0, .int 0, .int (-1), .ref a14, .ref a15, .int 0, .int 0, .int 0, .ref a19, .ref a20, .int 0, .int 0, .ref a23, .ref a24, .ref a25, .ref a26, .ref a27, .ref a28])), (a25, .inl (g.2 0, 4, .inl f19)), (a26, .inl (g.2 0, 4, .inl f20)), (a27, .inl (g.2 3, 240, .inr (.inl (fun _ => 0))))] → va_S A s.heap H locs → lv_has ls 5 [(4, .int (nI i)), (0, .ref h0), (1, .int 3), (2, .int p2), (3, .int p3)] → W p l e { frames := 2, cells := 0, slots := 0, locals := 45 } s m ([.ref h0, .int 3, .int p2, .int p3].toArray) below meth c H locs 0 0 (MQ below (QX (S := Unit) (fun _ => some (.int (sp_row 3 p2 p3))) (fun _ => True) g (fun u => []) A) ([.ref h0, .int 3, .int p2, .int p3].toArray) s 0 0 A) (F0 m 52 ls []) := by
              intro n
              induction n with
              | zero =>
                intro i  H locs ls hi hn
                exact absurd hn (by omega)
              | succ n ih =>
                intro i  H locs ls hi hn hP hD hS hl
                refine lv_iload hx hb dX12_row_52 (lv_at hl 0 rfl) ?_
                refine lv_bipush (v := 60) hx hb dX12_row_54 (by decide) ?_
                refine lv_icmp_ge (tgt := 78) hx hb dX12_row_56 (by decide) (fun c21 => ?_) (fun c21 => ?_)
                · have c21 := k_le (a := 60) (b := ((i : Nat) : Int)) (by decide) (nI_toInt (by omega)) c21
                  refine lv_iconst (v := 0) hx hb dX12_row_78 (by decide) ?_
                  exact rt_i FX () (congrArg (fun z => some (Value.int z)) (show (0 : Int32) = _ from by first | decide | (unfold sp_row; (repeat' split) <;> first | rfl | (exfalso; omega)))) trivial (hP.sub [] rfl) (hD.sub [] (by decide) rfl) hS (Nat.le_of_ble_eq_true rfl) (Nat.le_of_ble_eq_true rfl) dX12_row_79
                · have c21 := k_nle (a := 60) (b := ((i : Nat) : Int)) (by decide) (nI_toInt (by omega)) c21
                  refine lv_aload_n hx hb dX12_row_59 rfl (lv_at hl 1 rfl) ?_
                  refine g_get (C := RX12) (T := TX12) (N := 29) (ci := 12) (v := .ref a27) FC hKn hP i_X12 0 rfl rfl 27 (by decide) b_445 rfl dX12_row_60 ?_
                  refine lv_bipush (v := 60) hx hb dX12_row_63 (by decide) ?_
                  refine lv_iload_n hx hb dX12_row_65 rfl (lv_at hl 2 rfl) ?_
                  refine lv_imul hx hb dX12_row_66 ?_
                  refine tp_i (v := 180) (by decide) ?_
                  refine lv_iload hx hb dX12_row_67 (lv_at hl 0 rfl) ?_
                  refine lv_iadd hx hb dX12_row_69 ?_
                  refine tp_i (v := nI (180 + i)) (nI_add 180 i) ?_
                  refine lv_lconst (v := 0) hx hb dX12_row_70 (by decide) ?_
                  refine va_last hx hb hKn.1 hP hD hS 3 3 rfl rfl (vp_in_nI (by omega) (by decide)) dX12_row_71 (fun H locs hP hD hS => ?_)
                  have hP : va_P g.1 vwCl [(h0, .inr (12, [.int 0, .ref a1, .ref a2, .ref a3, .ref a4, .int 0, .ref a6, .int 0, .int 0, .int 0, .int 0, .int 0, .int 0, .int (-1), .ref a14, .ref a15, .int 0, .int 0, .int 0, .ref a19, .ref a20, .int 0, .int 0, .ref a23, .ref a24, .ref a25, .ref a26, .ref a27, .ref a28])), (a25, .inl (g.2 0, 4, .inl f19)), (a26, .inl (g.2 0, 4, .inl f20)), (a27, .inl (g.2 3, 240, .inr (.inl (vp_updL (fun _ => 0) ((nI (180 + i)).toNatClampNeg) 0))))] H := hP
                  have hD : va_D A [(h0, .inr (12, [.int 0, .ref a1, .ref a2, .ref a3, .ref a4, .int 0, .ref a6, .int 0, .int 0, .int 0, .int 0, .int 0, .int 0, .int (-1), .ref a14, .ref a15, .int 0, .int 0, .int 0, .ref a19, .ref a20, .int 0, .int 0, .ref a23, .ref a24, .ref a25, .ref a26, .ref a27, .ref a28])), (a25, .inl (g.2 0, 4, .inl f19)), (a26, .inl (g.2 0, 4, .inl f20)), (a27, .inl (g.2 3, 240, .inr (.inl (vp_updL (fun _ => 0) ((nI (180 + i)).toNatClampNeg) 0))))] := hD
                  rw [updL_z] at hP hD
                  refine lv_iinc (v := nI (i + 1)) (lv' := [(4, .int (nI (i + 1))), (0, .ref h0), (1, .int 3), (2, .int p2), (3, .int p3)]) hx hb dX12_row_72 hl (k := 0) rfl (nI_1 _) (by decide) rfl (fun ls hl => ?_)
                  refine lv_goto (tgt := 52) hx hb dX12_row_75 (by decide) ?_
                  exact ih (i + 1)  H locs ls (by omega) (by omega) hP hD hS (lv_sub hl [0, 1, 2, 3, 4] rfl)
            exact lp 61 0  _ _ ls (by omega) (by omega) hP hD hS hl
        · have c6 := k_nle (a := 0) (b := p3.toInt) (by decide) rfl c6
          refine lv_bipush (v := -3) hx hb dX12_row_32 (by decide) ?_
          exact rt_i FX () (congrArg (fun z => some (Value.int z)) (show (-3 : Int32) = _ from by first | decide | (unfold sp_row; (repeat' split) <;> first | rfl | (exfalso; omega)))) trivial (hP.sub [] rfl) (hD.sub [] (by decide) rfl) hS (Nat.le_of_ble_eq_true rfl) (Nat.le_of_ble_eq_true rfl) dX12_row_34
      · have c5 := k_nle (a := p3.toInt) (b := 60) rfl (by decide) c5
        refine lv_bipush (v := -2) hx hb dX12_row_25 (by decide) ?_
        exact rt_i FX () (congrArg (fun z => some (Value.int z)) (show (-2 : Int32) = _ from by first | decide | (unfold sp_row; (repeat' split) <;> first | rfl | (exfalso; omega)))) trivial (hP.sub [] rfl) (hD.sub [] (by decide) rfl) hS (Nat.le_of_ble_eq_true rfl) (Nat.le_of_ble_eq_true rfl) dX12_row_27
    · refine tp_i (v := 0) (inF_not (Int32.toInt_toInt64 _) (by decide) (by decide) c4) ?_
      refine lv_if_eq (tgt := 25) hx hb dX12_row_16 (by decide) (fun _ => ?_) (fun h => absurd h (by decide))
      refine lv_bipush (v := -2) hx hb dX12_row_25 (by decide) ?_
      exact rt_i FX () (congrArg (fun z => some (Value.int z)) (show (-2 : Int32) = _ from by first | decide | (unfold sp_row; (repeat' split) <;> first | rfl | (exfalso; omega)))) trivial (hP.sub [] rfl) (hD.sub [] (by decide) rfl) hS (Nat.le_of_ble_eq_true rfl) (Nat.le_of_ble_eq_true rfl) dX12_row_27
  · refine tp_i (v := 0) (if_neg c2) ?_
    refine lv_if_eq (tgt := 25) hx hb dX12_row_4 (by decide) (fun _ => ?_) (fun h => absurd h (by decide))
    refine lv_bipush (v := -2) hx hb dX12_row_25 (by decide) ?_
    exact rt_i FX () (congrArg (fun z => some (Value.int z)) (show (-2 : Int32) = _ from by first | decide | (unfold sp_row; (repeat' split) <;> first | rfl | (exfalso; omega)))) trivial (hP.sub [] rfl) (hD.sub [] (by decide) rfl) hS (Nat.le_of_ble_eq_true rfl) (Nat.le_of_ble_eq_true rfl) dX12_row_27
set_option maxRecDepth 100000 in
set_option maxHeartbeats 4000000 in
theorem c_X12_count (l : Launch) (g : GG) (h0 : Nat) (a1 : Nat) (a2 : Nat) (a3 : Nat) (a4 : Nat) (a6 : Nat) (a14 : Nat) (a15 : Nat) (a19 : Nat) (a20 : Nat) (a23 : Nat) (a24 : Nat) (a25 : Nat) (a26 : Nat) (a27 : Nat) (a28 : Nat) (p1 : Int32) : Ct l g yX12_count cX12_count 4 (some .int) { frames := 1, cells := 0, slots := 0, locals := 25 } [.ref h0, .int p1] [(h0, .inr (12, [.int 0, .ref a1, .ref a2, .ref a3, .ref a4, .int 0, .ref a6, .int 0, .int 0, .int 0, .int 0, .int 0, .int 0, .int (-1), .ref a14, .ref a15, .int 0, .int 0, .int 0, .ref a19, .ref a20, .int 0, .int 0, .ref a23, .ref a24, .ref a25, .ref a26, .ref a27, .ref a28])), (a1, .inl (g.2 0, 225, .inl (fun _ => 0))), (a25, .inl (g.2 0, 4, .inl mny))] (S := Unit) (fun _ => some (.int (sp_count p1))) (fun _ => True) (fun u => []) := by
  refine Ct.of (by decide) (Nat.le_of_ble_eq_true rfl) ?_
  intro p e s m below meth c A ls FX hP hD hS hl
  obtain ⟨FC, hr, hlk, hKn, hA, hnm⟩ := id FX
  have FC : CallFix p m c cX12_count 4 s _ BIG RX12 := FC
  obtain ⟨hx, hb, hml, hown, hB⟩ := id FC
  have hl : lv_has ls 4 [(0, .ref h0), (1, .int p1)] := hl
  refine lv_iconst (v := 0) hx hb dX12_count_0 (by decide) ?_
  refine lv_istore_n (lv' := [(2, .int 0), (0, .ref h0), (1, .int p1)]) hx hb dX12_count_1 rfl hl (by decide) rfl (fun ls hl => ?_)
  refine lv_iload_n hx hb dX12_count_2 rfl (lv_at hl 2 rfl) ?_
  by_cases c1 : p1.toInt < 10 ∨ 12 < p1.toInt
  · refine lv_tableOut (tgt := 74) hx hb dX12_count_3 c1 (by decide) ?_
    refine lv_iload_n hx hb dX12_count_74 rfl (lv_at hl 2 rfl) ?_
    refine lv_i2l (v := p1.toInt64) hx hb dX12_count_75 rfl ?_
    refine lv_lconst (v := 0) hx hb dX12_count_76 (by decide) ?_
    refine lv_ldc2 hx hb hown (hB _ b_446) dX12_count_77 ?_
    refine call_S (As := [.long p1.toInt64, .long 0, .long 9]) (rest := []) (wr := [(h0, .inr (12, [.int 0, .ref a1, .ref a2, .ref a3, .ref a4, .int 0, .ref a6, .int 0, .int 0, .int 0, .int 0, .int 0, .int 0, .int (-1), .ref a14, .ref a15, .int 0, .int 0, .int 0, .ref a19, .ref a20, .int 0, .int 0, .ref a23, .ref a24, .ref a25, .ref a26, .ref a27, .ref a28])), (a1, .inl (g.2 0, 225, .inl (fun _ => 0))), (a25, .inl (g.2 0, 4, .inl mny))]) FC hKn (c_X12_in l g p1.toInt64 0 9) m_yX12_in b_360 hP hD hS hA [] [0, 1, 2] rfl (by decide) rfl (by decide) (by decide) rfl hl.1 rfl (Nat.le_of_ble_eq_true rfl) dX12_count_80 ⟨(Nat.le_of_ble_eq_true rfl), (Nat.le_of_ble_eq_true rfl)⟩ ⟨(Nat.le_of_ble_eq_true rfl), (Nat.le_of_ble_eq_true rfl)⟩ (fun u2 H locs _ hP hD hS => ?_)
    have hP : va_P g.1 vwCl [(h0, .inr (12, [.int 0, .ref a1, .ref a2, .ref a3, .ref a4, .int 0, .ref a6, .int 0, .int 0, .int 0, .int 0, .int 0, .int 0, .int (-1), .ref a14, .ref a15, .int 0, .int 0, .int 0, .ref a19, .ref a20, .int 0, .int 0, .ref a23, .ref a24, .ref a25, .ref a26, .ref a27, .ref a28])), (a1, .inl (g.2 0, 225, .inl (fun _ => 0))), (a25, .inl (g.2 0, 4, .inl mny))] H := hP
    have hD : va_D A [(h0, .inr (12, [.int 0, .ref a1, .ref a2, .ref a3, .ref a4, .int 0, .ref a6, .int 0, .int 0, .int 0, .int 0, .int 0, .int 0, .int (-1), .ref a14, .ref a15, .int 0, .int 0, .int 0, .ref a19, .ref a20, .int 0, .int 0, .ref a23, .ref a24, .ref a25, .ref a26, .ref a27, .ref a28])), (a1, .inl (g.2 0, 225, .inl (fun _ => 0))), (a25, .inl (g.2 0, 4, .inl mny))] := hD
    refine W.eq (g2 := F0 m 83 ls [.int (inF p1.toInt64 0 9)]) rfl ?_
    by_cases c3 : 0 ≤ p1.toInt ∧ p1.toInt ≤ 9
    · refine tp_i (v := 1) (inF_yes (Int32.toInt_toInt64 _) (by decide) (by decide) c3) ?_
      refine lv_if_eq (tgt := 95) hx hb dX12_count_83 (by decide) (fun h => absurd h (by decide)) (fun _ => ?_)
      refine lv_aload_n hx hb dX12_count_86 rfl (lv_at hl 1 rfl) ?_
      refine g_get (C := RX12) (T := TX12) (N := 29) (ci := 12) (v := .ref a1) FC hKn hP i_X12 0 rfl rfl 1 (by decide) b_362 rfl dX12_count_87 ?_
      refine lv_iload_n hx hb dX12_count_90 rfl (lv_at hl 2 rfl) ?_
      refine va_iald hx hb hKn.1 hP 1 0 rfl rfl (vp_in_iff.mpr ⟨by omega, by omega⟩) dX12_count_91 ?_
      refine tp_i (v := 0) rfl ?_
      refine lv_goto (tgt := 96) hx hb dX12_count_92 (by decide) ?_
      exact rt_i FX () (congrArg (fun z => some (Value.int z)) (show (0 : Int32) = _ from by first | decide | (unfold sp_count; (repeat' split) <;> first | rfl | (exfalso; omega)))) trivial (hP.sub [] rfl) (hD.sub [] (by decide) rfl) hS (Nat.le_of_ble_eq_true rfl) (Nat.le_of_ble_eq_true rfl) dX12_count_96
    · refine tp_i (v := 0) (inF_not (Int32.toInt_toInt64 _) (by decide) (by decide) c3) ?_
      refine lv_if_eq (tgt := 95) hx hb dX12_count_83 (by decide) (fun _ => ?_) (fun h => absurd h (by decide))
      refine lv_iconst (v := -1) hx hb dX12_count_95 (by decide) ?_
      exact rt_i FX () (congrArg (fun z => some (Value.int z)) (show (-1 : Int32) = _ from by first | decide | (unfold sp_count; (repeat' split) <;> first | rfl | (exfalso; omega)))) trivial (hP.sub [] rfl) (hD.sub [] (by decide) rfl) hS (Nat.le_of_ble_eq_true rfl) (Nat.le_of_ble_eq_true rfl) dX12_count_96
  · have hv0 : True := trivial
    rcases (show p1.toInt = 10 ∨ p1.toInt = 11 ∨ p1.toInt = 12 by omega) with hv | hv | hv
    · obtain rfl : p1 = 10 := Int32.toInt_inj.mp (hv.trans (by decide))
      refine lv_tableIn (tgt := 28) (off := 25) hx hb dX12_count_3 (by decide) (by decide) (by decide) (by decide) ?_
      refine lv_aload_n hx hb dX12_count_28 rfl (lv_at hl 1 rfl) ?_
      refine g_get (C := RX12) (T := TX12) (N := 29) (ci := 12) (v := .int 0) FC hKn hP i_X12 0 rfl rfl 5 (by decide) b_439 rfl dX12_count_29 ?_
      exact rt_i FX () (congrArg (fun z => some (Value.int z)) (show (0 : Int32) = _ from by first | decide | (unfold sp_count; (repeat' split) <;> first | rfl | (exfalso; omega)))) trivial (hP.sub [] rfl) (hD.sub [] (by decide) rfl) hS (Nat.le_of_ble_eq_true rfl) (Nat.le_of_ble_eq_true rfl) dX12_count_32
    · obtain rfl : p1 = 11 := Int32.toInt_inj.mp (hv.trans (by decide))
      refine lv_tableIn (tgt := 33) (off := 30) hx hb dX12_count_3 (by decide) (by decide) (by decide) (by decide) ?_
      refine lv_aload_n hx hb dX12_count_33 rfl (lv_at hl 1 rfl) ?_
      refine g_get (C := RX12) (T := TX12) (N := 29) (ci := 12) (v := .ref a1) FC hKn hP i_X12 0 rfl rfl 1 (by decide) b_362 rfl dX12_count_34 ?_
      refine lv_bipush (v := 10) hx hb dX12_count_37 (by decide) ?_
      refine va_iald hx hb hKn.1 hP 1 0 rfl rfl (by unfold vp_in; decide) dX12_count_39 ?_
      refine tp_i (v := 0) rfl ?_
      exact rt_i FX () (congrArg (fun z => some (Value.int z)) (show (0 : Int32) = _ from by first | decide | (unfold sp_count; (repeat' split) <;> first | rfl | (exfalso; omega)))) trivial (hP.sub [] rfl) (hD.sub [] (by decide) rfl) hS (Nat.le_of_ble_eq_true rfl) (Nat.le_of_ble_eq_true rfl) dX12_count_40
    · obtain rfl : p1 = 12 := Int32.toInt_inj.mp (hv.trans (by decide))
      refine lv_tableIn (tgt := 41) (off := 38) hx hb dX12_count_3 (by decide) (by decide) (by decide) (by decide) ?_
      refine lv_iconst (v := 0) hx hb dX12_count_41 (by decide) ?_
      refine lv_istore_n (lv' := [(3, .int 0), (2, .int 0), (0, .ref h0), (1, .int 12)]) hx hb dX12_count_42 rfl hl (by decide) rfl (fun ls hl => ?_)
      refine lv_iload_n hx hb dX12_count_43 rfl (lv_at hl 0 rfl) ?_
      refine lv_iconst (v := 4) hx hb dX12_count_44 (by decide) ?_
      refine lv_icmp_ge (tgt := 72) hx hb dX12_count_45 (by decide) (fun h => absurd h (by decide)) (fun _ => ?_)
      refine lv_iload_n hx hb dX12_count_48 rfl (lv_at hl 1 rfl) ?_
      refine lv_aload_n hx hb dX12_count_49 rfl (lv_at hl 2 rfl) ?_
      refine g_get (C := RX12) (T := TX12) (N := 29) (ci := 12) (v := .ref a25) FC hKn hP i_X12 0 rfl rfl 25 (by decide) b_440 rfl dX12_count_50 ?_
      refine lv_iload_n hx hb dX12_count_53 rfl (lv_at hl 0 rfl) ?_
      refine va_iald hx hb hKn.1 hP 2 0 rfl rfl (by unfold vp_in; decide) dX12_count_54 ?_
      refine tp_i (v := -1) (mny_at _ (by decide)) ?_
      refine lv_iconst (v := -1) hx hb dX12_count_55 (by decide) ?_
      refine lv_icmp_ne (tgt := 63) hx hb dX12_count_56 (by decide) (fun h => absurd h (by decide)) (fun _ => ?_)
      refine lv_iconst (v := 0) hx hb dX12_count_59 (by decide) ?_
      refine lv_goto (tgt := 64) hx hb dX12_count_60 (by decide) ?_
      refine lv_iadd hx hb dX12_count_64 ?_
      refine tp_i (v := 0) (by decide) ?_
      refine lv_istore_n (lv' := [(2, .int 0), (3, .int 0), (0, .ref h0), (1, .int 12)]) hx hb dX12_count_65 rfl hl (by decide) rfl (fun ls hl => ?_)
      refine lv_iinc (v := 1) (lv' := [(3, .int 1), (2, .int 0), (0, .ref h0), (1, .int 12)]) hx hb dX12_count_66 hl (k := 1) rfl (by decide) (by decide) rfl (fun ls hl => ?_)
      refine lv_goto (tgt := 43) hx hb dX12_count_69 (by decide) ?_
      refine lv_iload_n hx hb dX12_count_43 rfl (lv_at hl 0 rfl) ?_
      refine lv_iconst (v := 4) hx hb dX12_count_44 (by decide) ?_
      refine lv_icmp_ge (tgt := 72) hx hb dX12_count_45 (by decide) (fun h => absurd h (by decide)) (fun _ => ?_)
      refine lv_iload_n hx hb dX12_count_48 rfl (lv_at hl 1 rfl) ?_
      refine lv_aload_n hx hb dX12_count_49 rfl (lv_at hl 2 rfl) ?_
      refine g_get (C := RX12) (T := TX12) (N := 29) (ci := 12) (v := .ref a25) FC hKn hP i_X12 0 rfl rfl 25 (by decide) b_440 rfl dX12_count_50 ?_
      refine lv_iload_n hx hb dX12_count_53 rfl (lv_at hl 0 rfl) ?_
      refine va_iald hx hb hKn.1 hP 2 0 rfl rfl (by unfold vp_in; decide) dX12_count_54 ?_
      refine tp_i (v := -1) (mny_at _ (by decide)) ?_
      refine lv_iconst (v := -1) hx hb dX12_count_55 (by decide) ?_
      refine lv_icmp_ne (tgt := 63) hx hb dX12_count_56 (by decide) (fun h => absurd h (by decide)) (fun _ => ?_)
      refine lv_iconst (v := 0) hx hb dX12_count_59 (by decide) ?_
      refine lv_goto (tgt := 64) hx hb dX12_count_60 (by decide) ?_
      refine lv_iadd hx hb dX12_count_64 ?_
      refine tp_i (v := 0) (by decide) ?_
      refine lv_istore_n (lv' := [(2, .int 0), (3, .int 1), (0, .ref h0), (1, .int 12)]) hx hb dX12_count_65 rfl hl (by decide) rfl (fun ls hl => ?_)
      refine lv_iinc (v := 2) (lv' := [(3, .int 2), (2, .int 0), (0, .ref h0), (1, .int 12)]) hx hb dX12_count_66 hl (k := 1) rfl (by decide) (by decide) rfl (fun ls hl => ?_)
      refine lv_goto (tgt := 43) hx hb dX12_count_69 (by decide) ?_
      refine lv_iload_n hx hb dX12_count_43 rfl (lv_at hl 0 rfl) ?_
      refine lv_iconst (v := 4) hx hb dX12_count_44 (by decide) ?_
      refine lv_icmp_ge (tgt := 72) hx hb dX12_count_45 (by decide) (fun h => absurd h (by decide)) (fun _ => ?_)
      refine lv_iload_n hx hb dX12_count_48 rfl (lv_at hl 1 rfl) ?_
      refine lv_aload_n hx hb dX12_count_49 rfl (lv_at hl 2 rfl) ?_
      refine g_get (C := RX12) (T := TX12) (N := 29) (ci := 12) (v := .ref a25) FC hKn hP i_X12 0 rfl rfl 25 (by decide) b_440 rfl dX12_count_50 ?_
      refine lv_iload_n hx hb dX12_count_53 rfl (lv_at hl 0 rfl) ?_
      refine va_iald hx hb hKn.1 hP 2 0 rfl rfl (by unfold vp_in; decide) dX12_count_54 ?_
      refine tp_i (v := -1) (mny_at _ (by decide)) ?_
      refine lv_iconst (v := -1) hx hb dX12_count_55 (by decide) ?_
      refine lv_icmp_ne (tgt := 63) hx hb dX12_count_56 (by decide) (fun h => absurd h (by decide)) (fun _ => ?_)
      refine lv_iconst (v := 0) hx hb dX12_count_59 (by decide) ?_
      refine lv_goto (tgt := 64) hx hb dX12_count_60 (by decide) ?_
      refine lv_iadd hx hb dX12_count_64 ?_
      refine tp_i (v := 0) (by decide) ?_
      refine lv_istore_n (lv' := [(2, .int 0), (3, .int 2), (0, .ref h0), (1, .int 12)]) hx hb dX12_count_65 rfl hl (by decide) rfl (fun ls hl => ?_)
      refine lv_iinc (v := 3) (lv' := [(3, .int 3), (2, .int 0), (0, .ref h0), (1, .int 12)]) hx hb dX12_count_66 hl (k := 1) rfl (by decide) (by decide) rfl (fun ls hl => ?_)
      refine lv_goto (tgt := 43) hx hb dX12_count_69 (by decide) ?_
      refine lv_iload_n hx hb dX12_count_43 rfl (lv_at hl 0 rfl) ?_
      refine lv_iconst (v := 4) hx hb dX12_count_44 (by decide) ?_
      refine lv_icmp_ge (tgt := 72) hx hb dX12_count_45 (by decide) (fun h => absurd h (by decide)) (fun _ => ?_)
      refine lv_iload_n hx hb dX12_count_48 rfl (lv_at hl 1 rfl) ?_
      refine lv_aload_n hx hb dX12_count_49 rfl (lv_at hl 2 rfl) ?_
      refine g_get (C := RX12) (T := TX12) (N := 29) (ci := 12) (v := .ref a25) FC hKn hP i_X12 0 rfl rfl 25 (by decide) b_440 rfl dX12_count_50 ?_
      refine lv_iload_n hx hb dX12_count_53 rfl (lv_at hl 0 rfl) ?_
      refine va_iald hx hb hKn.1 hP 2 0 rfl rfl (by unfold vp_in; decide) dX12_count_54 ?_
      refine tp_i (v := -1) (mny_at _ (by decide)) ?_
      refine lv_iconst (v := -1) hx hb dX12_count_55 (by decide) ?_
      refine lv_icmp_ne (tgt := 63) hx hb dX12_count_56 (by decide) (fun h => absurd h (by decide)) (fun _ => ?_)
      refine lv_iconst (v := 0) hx hb dX12_count_59 (by decide) ?_
      refine lv_goto (tgt := 64) hx hb dX12_count_60 (by decide) ?_
      refine lv_iadd hx hb dX12_count_64 ?_
      refine tp_i (v := 0) (by decide) ?_
      refine lv_istore_n (lv' := [(2, .int 0), (3, .int 3), (0, .ref h0), (1, .int 12)]) hx hb dX12_count_65 rfl hl (by decide) rfl (fun ls hl => ?_)
      refine lv_iinc (v := 4) (lv' := [(3, .int 4), (2, .int 0), (0, .ref h0), (1, .int 12)]) hx hb dX12_count_66 hl (k := 1) rfl (by decide) (by decide) rfl (fun ls hl => ?_)
      refine lv_goto (tgt := 43) hx hb dX12_count_69 (by decide) ?_
      refine lv_iload_n hx hb dX12_count_43 rfl (lv_at hl 0 rfl) ?_
      refine lv_iconst (v := 4) hx hb dX12_count_44 (by decide) ?_
      refine lv_icmp_ge (tgt := 72) hx hb dX12_count_45 (by decide) (fun _ => ?_) (fun h => absurd h (by decide))
      refine lv_iload_n hx hb dX12_count_72 rfl (lv_at hl 1 rfl) ?_
      exact rt_i FX () (congrArg (fun z => some (Value.int z)) (show (0 : Int32) = _ from by first | decide | (unfold sp_count; (repeat' split) <;> first | rfl | (exfalso; omega)))) trivial (hP.sub [] rfl) (hD.sub [] (by decide) rfl) hS (Nat.le_of_ble_eq_true rfl) (Nat.le_of_ble_eq_true rfl) dX12_count_73
set_option maxRecDepth 100000 in
set_option maxHeartbeats 4000000 in
theorem c_X12_feed (l : Launch) (g : GG) (h0 : Nat) (a1 : Nat) (a2 : Nat) (a3 : Nat) (a4 : Nat) (a6 : Nat) (a14 : Nat) (a15 : Nat) (a19 : Nat) (a20 : Nat) (a23 : Nat) (a24 : Nat) (a25 : Nat) (a26 : Nat) (a27 : Nat) (a28 : Nat) (p1 : Int32) (p2 : Int32) (p3 : Int32) (p4 : Int32) (p5 : Int32) : Ct l g yX12_feed cX12_feed 7 (some .int) { frames := 0, cells := 0, slots := 0, locals := 0 } [.ref h0, .int p1, .int p2, .int p3, .int p4, .int p5] [(h0, .inr (12, [.int 0, .ref a1, .ref a2, .ref a3, .ref a4, .int 0, .ref a6, .int 0, .int 0, .int 0, .int 0, .int 0, .int 0, .int (-1), .ref a14, .ref a15, .int 0, .int 0, .int 0, .ref a19, .ref a20, .int 0, .int 0, .ref a23, .ref a24, .ref a25, .ref a26, .ref a27, .ref a28])), (a4, .inl (g.2 1, 900, .inl (fun _ => 0))), (a6, .inl (g.2 0, 5, .inl (fun _ => 0)))] (S := Unit) (fun _ => some (.int 20)) (fun _ => True) (fun u => []) := by
  refine Ct.of (by decide) (Nat.le_of_ble_eq_true rfl) ?_
  intro p e s m below meth c A ls FX hP hD hS hl
  obtain ⟨FC, hr, hlk, hKn, hA, hnm⟩ := id FX
  have FC : CallFix p m c cX12_feed 7 s _ BIG RX12 := FC
  obtain ⟨hx, hb, hml, hown, hB⟩ := id FC
  have hl : lv_has ls 7 [(0, .ref h0), (1, .int p1), (2, .int p2), (3, .int p3), (4, .int p4), (5, .int p5)] := hl
  refine lv_aload_n hx hb dX12_feed_0 rfl (lv_at hl 0 rfl) ?_
  refine g_get (C := RX12) (T := TX12) (N := 29) (ci := 12) (v := .int 0) FC hKn hP i_X12 0 rfl rfl 5 (by decide) b_439 rfl dX12_feed_1 ?_
  refine lv_bipush (v := 20) hx hb dX12_feed_4 (by decide) ?_
  refine lv_iadd hx hb dX12_feed_6 ?_
  refine tp_i (v := 20) (by decide) ?_
  refine lv_sipush (v := 900) hx hb dX12_feed_7 (by decide) ?_
  refine lv_icmp_le (tgt := 15) hx hb dX12_feed_10 (by decide) (fun _ => ?_) (fun h => absurd h (by decide))
  refine lv_aload_n hx hb dX12_feed_15 rfl (lv_at hl 0 rfl) ?_
  refine g_get (C := RX12) (T := TX12) (N := 29) (ci := 12) (v := .ref a6) FC hKn hP i_X12 0 rfl rfl 6 (by decide) b_447 rfl dX12_feed_16 ?_
  refine lv_iconst (v := 0) hx hb dX12_feed_19 (by decide) ?_
  refine lv_iload_n hx hb dX12_feed_20 rfl (lv_at hl 1 rfl) ?_
  refine va_iast hx hb hKn.1 hP hD hS 2 0 rfl rfl (by unfold vp_in; decide) dX12_feed_21 (fun H locs hP hD hS => ?_)
  have hP : va_P g.1 vwCl [(h0, .inr (12, [.int 0, .ref a1, .ref a2, .ref a3, .ref a4, .int 0, .ref a6, .int 0, .int 0, .int 0, .int 0, .int 0, .int 0, .int (-1), .ref a14, .ref a15, .int 0, .int 0, .int 0, .ref a19, .ref a20, .int 0, .int 0, .ref a23, .ref a24, .ref a25, .ref a26, .ref a27, .ref a28])), (a4, .inl (g.2 1, 900, .inl (fun _ => 0))), (a6, .inl (g.2 0, 5, .inl (upd (fun _ => 0) ((0 : Int32).toNatClampNeg) p1)))] H := hP
  have hD : va_D A [(h0, .inr (12, [.int 0, .ref a1, .ref a2, .ref a3, .ref a4, .int 0, .ref a6, .int 0, .int 0, .int 0, .int 0, .int 0, .int 0, .int (-1), .ref a14, .ref a15, .int 0, .int 0, .int 0, .ref a19, .ref a20, .int 0, .int 0, .ref a23, .ref a24, .ref a25, .ref a26, .ref a27, .ref a28])), (a4, .inl (g.2 1, 900, .inl (fun _ => 0))), (a6, .inl (g.2 0, 5, .inl (upd (fun _ => 0) ((0 : Int32).toNatClampNeg) p1)))] := hD
  generalize (upd (fun _ => 0) ((0 : Int32).toNatClampNeg) p1 : Nat → Int32) = f1 at hP hD
  refine lv_aload_n hx hb dX12_feed_22 rfl (lv_at hl 0 rfl) ?_
  refine g_get (C := RX12) (T := TX12) (N := 29) (ci := 12) (v := .ref a6) FC hKn hP i_X12 0 rfl rfl 6 (by decide) b_447 rfl dX12_feed_23 ?_
  refine lv_iconst (v := 1) hx hb dX12_feed_26 (by decide) ?_
  refine lv_iload_n hx hb dX12_feed_27 rfl (lv_at hl 2 rfl) ?_
  refine va_iast hx hb hKn.1 hP hD hS 2 0 rfl rfl (by unfold vp_in; decide) dX12_feed_28 (fun H locs hP hD hS => ?_)
  have hP : va_P g.1 vwCl [(h0, .inr (12, [.int 0, .ref a1, .ref a2, .ref a3, .ref a4, .int 0, .ref a6, .int 0, .int 0, .int 0, .int 0, .int 0, .int 0, .int (-1), .ref a14, .ref a15, .int 0, .int 0, .int 0, .ref a19, .ref a20, .int 0, .int 0, .ref a23, .ref a24, .ref a25, .ref a26, .ref a27, .ref a28])), (a4, .inl (g.2 1, 900, .inl (fun _ => 0))), (a6, .inl (g.2 0, 5, .inl (upd f1 ((1 : Int32).toNatClampNeg) p2)))] H := hP
  have hD : va_D A [(h0, .inr (12, [.int 0, .ref a1, .ref a2, .ref a3, .ref a4, .int 0, .ref a6, .int 0, .int 0, .int 0, .int 0, .int 0, .int 0, .int (-1), .ref a14, .ref a15, .int 0, .int 0, .int 0, .ref a19, .ref a20, .int 0, .int 0, .ref a23, .ref a24, .ref a25, .ref a26, .ref a27, .ref a28])), (a4, .inl (g.2 1, 900, .inl (fun _ => 0))), (a6, .inl (g.2 0, 5, .inl (upd f1 ((1 : Int32).toNatClampNeg) p2)))] := hD
  generalize (upd f1 ((1 : Int32).toNatClampNeg) p2 : Nat → Int32) = f2 at hP hD
  refine lv_aload_n hx hb dX12_feed_29 rfl (lv_at hl 0 rfl) ?_
  refine g_get (C := RX12) (T := TX12) (N := 29) (ci := 12) (v := .ref a6) FC hKn hP i_X12 0 rfl rfl 6 (by decide) b_447 rfl dX12_feed_30 ?_
  refine lv_iconst (v := 2) hx hb dX12_feed_33 (by decide) ?_
  refine lv_iload_n hx hb dX12_feed_34 rfl (lv_at hl 3 rfl) ?_
  refine va_iast hx hb hKn.1 hP hD hS 2 0 rfl rfl (by unfold vp_in; decide) dX12_feed_35 (fun H locs hP hD hS => ?_)
  have hP : va_P g.1 vwCl [(h0, .inr (12, [.int 0, .ref a1, .ref a2, .ref a3, .ref a4, .int 0, .ref a6, .int 0, .int 0, .int 0, .int 0, .int 0, .int 0, .int (-1), .ref a14, .ref a15, .int 0, .int 0, .int 0, .ref a19, .ref a20, .int 0, .int 0, .ref a23, .ref a24, .ref a25, .ref a26, .ref a27, .ref a28])), (a4, .inl (g.2 1, 900, .inl (fun _ => 0))), (a6, .inl (g.2 0, 5, .inl (upd f2 ((2 : Int32).toNatClampNeg) p3)))] H := hP
  have hD : va_D A [(h0, .inr (12, [.int 0, .ref a1, .ref a2, .ref a3, .ref a4, .int 0, .ref a6, .int 0, .int 0, .int 0, .int 0, .int 0, .int 0, .int (-1), .ref a14, .ref a15, .int 0, .int 0, .int 0, .ref a19, .ref a20, .int 0, .int 0, .ref a23, .ref a24, .ref a25, .ref a26, .ref a27, .ref a28])), (a4, .inl (g.2 1, 900, .inl (fun _ => 0))), (a6, .inl (g.2 0, 5, .inl (upd f2 ((2 : Int32).toNatClampNeg) p3)))] := hD
  generalize (upd f2 ((2 : Int32).toNatClampNeg) p3 : Nat → Int32) = f3 at hP hD
  refine lv_aload_n hx hb dX12_feed_36 rfl (lv_at hl 0 rfl) ?_
  refine g_get (C := RX12) (T := TX12) (N := 29) (ci := 12) (v := .ref a6) FC hKn hP i_X12 0 rfl rfl 6 (by decide) b_447 rfl dX12_feed_37 ?_
  refine lv_iconst (v := 3) hx hb dX12_feed_40 (by decide) ?_
  refine lv_iload hx hb dX12_feed_41 (lv_at hl 4 rfl) ?_
  refine va_iast hx hb hKn.1 hP hD hS 2 0 rfl rfl (by unfold vp_in; decide) dX12_feed_43 (fun H locs hP hD hS => ?_)
  have hP : va_P g.1 vwCl [(h0, .inr (12, [.int 0, .ref a1, .ref a2, .ref a3, .ref a4, .int 0, .ref a6, .int 0, .int 0, .int 0, .int 0, .int 0, .int 0, .int (-1), .ref a14, .ref a15, .int 0, .int 0, .int 0, .ref a19, .ref a20, .int 0, .int 0, .ref a23, .ref a24, .ref a25, .ref a26, .ref a27, .ref a28])), (a4, .inl (g.2 1, 900, .inl (fun _ => 0))), (a6, .inl (g.2 0, 5, .inl (upd f3 ((3 : Int32).toNatClampNeg) p4)))] H := hP
  have hD : va_D A [(h0, .inr (12, [.int 0, .ref a1, .ref a2, .ref a3, .ref a4, .int 0, .ref a6, .int 0, .int 0, .int 0, .int 0, .int 0, .int 0, .int (-1), .ref a14, .ref a15, .int 0, .int 0, .int 0, .ref a19, .ref a20, .int 0, .int 0, .ref a23, .ref a24, .ref a25, .ref a26, .ref a27, .ref a28])), (a4, .inl (g.2 1, 900, .inl (fun _ => 0))), (a6, .inl (g.2 0, 5, .inl (upd f3 ((3 : Int32).toNatClampNeg) p4)))] := hD
  generalize (upd f3 ((3 : Int32).toNatClampNeg) p4 : Nat → Int32) = f4 at hP hD
  refine lv_aload_n hx hb dX12_feed_44 rfl (lv_at hl 0 rfl) ?_
  refine g_get (C := RX12) (T := TX12) (N := 29) (ci := 12) (v := .ref a6) FC hKn hP i_X12 0 rfl rfl 6 (by decide) b_447 rfl dX12_feed_45 ?_
  refine lv_iconst (v := 4) hx hb dX12_feed_48 (by decide) ?_
  refine lv_iload hx hb dX12_feed_49 (lv_at hl 5 rfl) ?_
  refine va_iast hx hb hKn.1 hP hD hS 2 0 rfl rfl (by unfold vp_in; decide) dX12_feed_51 (fun H locs hP hD hS => ?_)
  have hP : va_P g.1 vwCl [(h0, .inr (12, [.int 0, .ref a1, .ref a2, .ref a3, .ref a4, .int 0, .ref a6, .int 0, .int 0, .int 0, .int 0, .int 0, .int 0, .int (-1), .ref a14, .ref a15, .int 0, .int 0, .int 0, .ref a19, .ref a20, .int 0, .int 0, .ref a23, .ref a24, .ref a25, .ref a26, .ref a27, .ref a28])), (a4, .inl (g.2 1, 900, .inl (fun _ => 0))), (a6, .inl (g.2 0, 5, .inl (upd f4 ((4 : Int32).toNatClampNeg) p5)))] H := hP
  have hD : va_D A [(h0, .inr (12, [.int 0, .ref a1, .ref a2, .ref a3, .ref a4, .int 0, .ref a6, .int 0, .int 0, .int 0, .int 0, .int 0, .int 0, .int (-1), .ref a14, .ref a15, .int 0, .int 0, .int 0, .ref a19, .ref a20, .int 0, .int 0, .ref a23, .ref a24, .ref a25, .ref a26, .ref a27, .ref a28])), (a4, .inl (g.2 1, 900, .inl (fun _ => 0))), (a6, .inl (g.2 0, 5, .inl (upd f4 ((4 : Int32).toNatClampNeg) p5)))] := hD
  generalize (upd f4 ((4 : Int32).toNatClampNeg) p5 : Nat → Int32) = f5 at hP hD
  refine lv_iconst (v := 0) hx hb dX12_feed_52 (by decide) ?_
  refine lv_istore (lv' := [(6, .int 0), (0, .ref h0), (1, .int p1), (2, .int p2), (3, .int p3), (4, .int p4), (5, .int p5)]) hx hb dX12_feed_53 hl (by decide) rfl (fun ls hl => ?_)
  refine lv_iload hx hb dX12_feed_55 (lv_at hl 0 rfl) ?_
  refine lv_bipush (v := 20) hx hb dX12_feed_57 (by decide) ?_
  refine lv_icmp_ge (tgt := 101) hx hb dX12_feed_59 (by decide) (fun h => absurd h (by decide)) (fun _ => ?_)
  refine lv_aload_n hx hb dX12_feed_62 rfl (lv_at hl 1 rfl) ?_
  refine g_get (C := RX12) (T := TX12) (N := 29) (ci := 12) (v := .ref a4) FC hKn hP i_X12 0 rfl rfl 4 (by decide) b_448 rfl dX12_feed_63 ?_
  refine lv_aload_n hx hb dX12_feed_66 rfl (lv_at hl 1 rfl) ?_
  refine g_get (C := RX12) (T := TX12) (N := 29) (ci := 12) (v := .int 0) FC hKn hP i_X12 0 rfl rfl 5 (by decide) b_439 rfl dX12_feed_67 ?_
  refine lv_iload hx hb dX12_feed_70 (lv_at hl 0 rfl) ?_
  refine lv_iadd hx hb dX12_feed_72 ?_
  refine tp_i (v := 0) (by decide) ?_
  refine lv_aload_n hx hb dX12_feed_73 rfl (lv_at hl 1 rfl) ?_
  refine g_get (C := RX12) (T := TX12) (N := 29) (ci := 12) (v := .ref a6) FC hKn hP i_X12 0 rfl rfl 6 (by decide) b_447 rfl dX12_feed_74 ?_
  refine lv_iload hx hb dX12_feed_77 (lv_at hl 0 rfl) ?_
  refine lv_iconst (v := 4) hx hb dX12_feed_79 (by decide) ?_
  refine lv_idiv hx hb dX12_feed_80 (by decide) ?_
  refine tp_i (v := 0) (by decide) ?_
  refine va_iald hx hb hKn.1 hP 2 0 rfl rfl (by unfold vp_in; decide) dX12_feed_81 ?_
  refine lv_topi (fun z6 e_z6 => ?_)
  refine lv_bipush (v := 24) hx hb dX12_feed_82 (by decide) ?_
  refine lv_bipush (v := 8) hx hb dX12_feed_84 (by decide) ?_
  refine lv_iload hx hb dX12_feed_86 (lv_at hl 0 rfl) ?_
  refine lv_iconst (v := 4) hx hb dX12_feed_88 (by decide) ?_
  refine lv_irem hx hb dX12_feed_89 (by decide) ?_
  refine tp_i (v := 0) (by decide) ?_
  refine lv_imul hx hb dX12_feed_90 ?_
  refine tp_i (v := 0) (by decide) ?_
  refine lv_isub hx hb dX12_feed_91 ?_
  refine tp_i (v := 24) (by decide) ?_
  refine lv_ishr hx hb dX12_feed_92 ?_
  refine lv_topi (fun z7 e_z7 => ?_)
  refine lv_i2b hx hb dX12_feed_93 rfl ?_
  refine lv_topi (fun z8 e_z8 => ?_)
  refine va_bast hx hb hKn.1 hP hD hS 1 1 rfl rfl (by unfold vp_in; decide) dX12_feed_94 (fun H locs hP hD hS => ?_)
  have hP : va_P g.1 vwCl [(h0, .inr (12, [.int 0, .ref a1, .ref a2, .ref a3, .ref a4, .int 0, .ref a6, .int 0, .int 0, .int 0, .int 0, .int 0, .int 0, .int (-1), .ref a14, .ref a15, .int 0, .int 0, .int 0, .ref a19, .ref a20, .int 0, .int 0, .ref a23, .ref a24, .ref a25, .ref a26, .ref a27, .ref a28])), (a4, .inl (g.2 1, 900, .inl (upd (fun _ => 0) ((0 : Int32).toNatClampNeg) (vp_nar .byte z8)))), (a6, .inl (g.2 0, 5, .inl f5))] H := hP
  have hD : va_D A [(h0, .inr (12, [.int 0, .ref a1, .ref a2, .ref a3, .ref a4, .int 0, .ref a6, .int 0, .int 0, .int 0, .int 0, .int 0, .int 0, .int (-1), .ref a14, .ref a15, .int 0, .int 0, .int 0, .ref a19, .ref a20, .int 0, .int 0, .ref a23, .ref a24, .ref a25, .ref a26, .ref a27, .ref a28])), (a4, .inl (g.2 1, 900, .inl (upd (fun _ => 0) ((0 : Int32).toNatClampNeg) (vp_nar .byte z8)))), (a6, .inl (g.2 0, 5, .inl f5))] := hD
  generalize (upd (fun _ => 0) ((0 : Int32).toNatClampNeg) (vp_nar .byte z8) : Nat → Int32) = f9 at hP hD
  refine lv_iinc (v := 1) (lv' := [(6, .int 1), (0, .ref h0), (1, .int p1), (2, .int p2), (3, .int p3), (4, .int p4), (5, .int p5)]) hx hb dX12_feed_95 hl (k := 0) rfl (by decide) (by decide) rfl (fun ls hl => ?_)
  refine lv_goto (tgt := 55) hx hb dX12_feed_98 (by decide) ?_
  refine lv_iload hx hb dX12_feed_55 (lv_at hl 0 rfl) ?_
  refine lv_bipush (v := 20) hx hb dX12_feed_57 (by decide) ?_
  refine lv_icmp_ge (tgt := 101) hx hb dX12_feed_59 (by decide) (fun h => absurd h (by decide)) (fun _ => ?_)
  refine lv_aload_n hx hb dX12_feed_62 rfl (lv_at hl 1 rfl) ?_
  refine g_get (C := RX12) (T := TX12) (N := 29) (ci := 12) (v := .ref a4) FC hKn hP i_X12 0 rfl rfl 4 (by decide) b_448 rfl dX12_feed_63 ?_
  refine lv_aload_n hx hb dX12_feed_66 rfl (lv_at hl 1 rfl) ?_
  refine g_get (C := RX12) (T := TX12) (N := 29) (ci := 12) (v := .int 0) FC hKn hP i_X12 0 rfl rfl 5 (by decide) b_439 rfl dX12_feed_67 ?_
  refine lv_iload hx hb dX12_feed_70 (lv_at hl 0 rfl) ?_
  refine lv_iadd hx hb dX12_feed_72 ?_
  refine tp_i (v := 1) (by decide) ?_
  refine lv_aload_n hx hb dX12_feed_73 rfl (lv_at hl 1 rfl) ?_
  refine g_get (C := RX12) (T := TX12) (N := 29) (ci := 12) (v := .ref a6) FC hKn hP i_X12 0 rfl rfl 6 (by decide) b_447 rfl dX12_feed_74 ?_
  refine lv_iload hx hb dX12_feed_77 (lv_at hl 0 rfl) ?_
  refine lv_iconst (v := 4) hx hb dX12_feed_79 (by decide) ?_
  refine lv_idiv hx hb dX12_feed_80 (by decide) ?_
  refine tp_i (v := 0) (by decide) ?_
  refine va_iald hx hb hKn.1 hP 2 0 rfl rfl (by unfold vp_in; decide) dX12_feed_81 ?_
  refine lv_topi (fun z10 e_z10 => ?_)
  refine lv_bipush (v := 24) hx hb dX12_feed_82 (by decide) ?_
  refine lv_bipush (v := 8) hx hb dX12_feed_84 (by decide) ?_
  refine lv_iload hx hb dX12_feed_86 (lv_at hl 0 rfl) ?_
  refine lv_iconst (v := 4) hx hb dX12_feed_88 (by decide) ?_
  refine lv_irem hx hb dX12_feed_89 (by decide) ?_
  refine tp_i (v := 1) (by decide) ?_
  refine lv_imul hx hb dX12_feed_90 ?_
  refine tp_i (v := 8) (by decide) ?_
  refine lv_isub hx hb dX12_feed_91 ?_
  refine tp_i (v := 16) (by decide) ?_
  refine lv_ishr hx hb dX12_feed_92 ?_
  refine lv_topi (fun z11 e_z11 => ?_)
  refine lv_i2b hx hb dX12_feed_93 rfl ?_
  refine lv_topi (fun z12 e_z12 => ?_)
  refine va_bast hx hb hKn.1 hP hD hS 1 1 rfl rfl (by unfold vp_in; decide) dX12_feed_94 (fun H locs hP hD hS => ?_)
  have hP : va_P g.1 vwCl [(h0, .inr (12, [.int 0, .ref a1, .ref a2, .ref a3, .ref a4, .int 0, .ref a6, .int 0, .int 0, .int 0, .int 0, .int 0, .int 0, .int (-1), .ref a14, .ref a15, .int 0, .int 0, .int 0, .ref a19, .ref a20, .int 0, .int 0, .ref a23, .ref a24, .ref a25, .ref a26, .ref a27, .ref a28])), (a4, .inl (g.2 1, 900, .inl (upd f9 ((1 : Int32).toNatClampNeg) (vp_nar .byte z12)))), (a6, .inl (g.2 0, 5, .inl f5))] H := hP
  have hD : va_D A [(h0, .inr (12, [.int 0, .ref a1, .ref a2, .ref a3, .ref a4, .int 0, .ref a6, .int 0, .int 0, .int 0, .int 0, .int 0, .int 0, .int (-1), .ref a14, .ref a15, .int 0, .int 0, .int 0, .ref a19, .ref a20, .int 0, .int 0, .ref a23, .ref a24, .ref a25, .ref a26, .ref a27, .ref a28])), (a4, .inl (g.2 1, 900, .inl (upd f9 ((1 : Int32).toNatClampNeg) (vp_nar .byte z12)))), (a6, .inl (g.2 0, 5, .inl f5))] := hD
  generalize (upd f9 ((1 : Int32).toNatClampNeg) (vp_nar .byte z12) : Nat → Int32) = f13 at hP hD
  refine lv_iinc (v := 2) (lv' := [(6, .int 2), (0, .ref h0), (1, .int p1), (2, .int p2), (3, .int p3), (4, .int p4), (5, .int p5)]) hx hb dX12_feed_95 hl (k := 0) rfl (by decide) (by decide) rfl (fun ls hl => ?_)
  refine lv_goto (tgt := 55) hx hb dX12_feed_98 (by decide) ?_
  refine lv_iload hx hb dX12_feed_55 (lv_at hl 0 rfl) ?_
  refine lv_bipush (v := 20) hx hb dX12_feed_57 (by decide) ?_
  refine lv_icmp_ge (tgt := 101) hx hb dX12_feed_59 (by decide) (fun h => absurd h (by decide)) (fun _ => ?_)
  refine lv_aload_n hx hb dX12_feed_62 rfl (lv_at hl 1 rfl) ?_
  refine g_get (C := RX12) (T := TX12) (N := 29) (ci := 12) (v := .ref a4) FC hKn hP i_X12 0 rfl rfl 4 (by decide) b_448 rfl dX12_feed_63 ?_
  refine lv_aload_n hx hb dX12_feed_66 rfl (lv_at hl 1 rfl) ?_
  refine g_get (C := RX12) (T := TX12) (N := 29) (ci := 12) (v := .int 0) FC hKn hP i_X12 0 rfl rfl 5 (by decide) b_439 rfl dX12_feed_67 ?_
  refine lv_iload hx hb dX12_feed_70 (lv_at hl 0 rfl) ?_
  refine lv_iadd hx hb dX12_feed_72 ?_
  refine tp_i (v := 2) (by decide) ?_
  refine lv_aload_n hx hb dX12_feed_73 rfl (lv_at hl 1 rfl) ?_
  refine g_get (C := RX12) (T := TX12) (N := 29) (ci := 12) (v := .ref a6) FC hKn hP i_X12 0 rfl rfl 6 (by decide) b_447 rfl dX12_feed_74 ?_
  refine lv_iload hx hb dX12_feed_77 (lv_at hl 0 rfl) ?_
  refine lv_iconst (v := 4) hx hb dX12_feed_79 (by decide) ?_
  refine lv_idiv hx hb dX12_feed_80 (by decide) ?_
  refine tp_i (v := 0) (by decide) ?_
  refine va_iald hx hb hKn.1 hP 2 0 rfl rfl (by unfold vp_in; decide) dX12_feed_81 ?_
  refine lv_topi (fun z14 e_z14 => ?_)
  refine lv_bipush (v := 24) hx hb dX12_feed_82 (by decide) ?_
  refine lv_bipush (v := 8) hx hb dX12_feed_84 (by decide) ?_
  refine lv_iload hx hb dX12_feed_86 (lv_at hl 0 rfl) ?_
  refine lv_iconst (v := 4) hx hb dX12_feed_88 (by decide) ?_
  refine lv_irem hx hb dX12_feed_89 (by decide) ?_
  refine tp_i (v := 2) (by decide) ?_
  refine lv_imul hx hb dX12_feed_90 ?_
  refine tp_i (v := 16) (by decide) ?_
  refine lv_isub hx hb dX12_feed_91 ?_
  refine tp_i (v := 8) (by decide) ?_
  refine lv_ishr hx hb dX12_feed_92 ?_
  refine lv_topi (fun z15 e_z15 => ?_)
  refine lv_i2b hx hb dX12_feed_93 rfl ?_
  refine lv_topi (fun z16 e_z16 => ?_)
  refine va_bast hx hb hKn.1 hP hD hS 1 1 rfl rfl (by unfold vp_in; decide) dX12_feed_94 (fun H locs hP hD hS => ?_)
  have hP : va_P g.1 vwCl [(h0, .inr (12, [.int 0, .ref a1, .ref a2, .ref a3, .ref a4, .int 0, .ref a6, .int 0, .int 0, .int 0, .int 0, .int 0, .int 0, .int (-1), .ref a14, .ref a15, .int 0, .int 0, .int 0, .ref a19, .ref a20, .int 0, .int 0, .ref a23, .ref a24, .ref a25, .ref a26, .ref a27, .ref a28])), (a4, .inl (g.2 1, 900, .inl (upd f13 ((2 : Int32).toNatClampNeg) (vp_nar .byte z16)))), (a6, .inl (g.2 0, 5, .inl f5))] H := hP
  have hD : va_D A [(h0, .inr (12, [.int 0, .ref a1, .ref a2, .ref a3, .ref a4, .int 0, .ref a6, .int 0, .int 0, .int 0, .int 0, .int 0, .int 0, .int (-1), .ref a14, .ref a15, .int 0, .int 0, .int 0, .ref a19, .ref a20, .int 0, .int 0, .ref a23, .ref a24, .ref a25, .ref a26, .ref a27, .ref a28])), (a4, .inl (g.2 1, 900, .inl (upd f13 ((2 : Int32).toNatClampNeg) (vp_nar .byte z16)))), (a6, .inl (g.2 0, 5, .inl f5))] := hD
  generalize (upd f13 ((2 : Int32).toNatClampNeg) (vp_nar .byte z16) : Nat → Int32) = f17 at hP hD
  refine lv_iinc (v := 3) (lv' := [(6, .int 3), (0, .ref h0), (1, .int p1), (2, .int p2), (3, .int p3), (4, .int p4), (5, .int p5)]) hx hb dX12_feed_95 hl (k := 0) rfl (by decide) (by decide) rfl (fun ls hl => ?_)
  refine lv_goto (tgt := 55) hx hb dX12_feed_98 (by decide) ?_
  refine lv_iload hx hb dX12_feed_55 (lv_at hl 0 rfl) ?_
  refine lv_bipush (v := 20) hx hb dX12_feed_57 (by decide) ?_
  refine lv_icmp_ge (tgt := 101) hx hb dX12_feed_59 (by decide) (fun h => absurd h (by decide)) (fun _ => ?_)
  refine lv_aload_n hx hb dX12_feed_62 rfl (lv_at hl 1 rfl) ?_
  refine g_get (C := RX12) (T := TX12) (N := 29) (ci := 12) (v := .ref a4) FC hKn hP i_X12 0 rfl rfl 4 (by decide) b_448 rfl dX12_feed_63 ?_
  refine lv_aload_n hx hb dX12_feed_66 rfl (lv_at hl 1 rfl) ?_
  refine g_get (C := RX12) (T := TX12) (N := 29) (ci := 12) (v := .int 0) FC hKn hP i_X12 0 rfl rfl 5 (by decide) b_439 rfl dX12_feed_67 ?_
  refine lv_iload hx hb dX12_feed_70 (lv_at hl 0 rfl) ?_
  refine lv_iadd hx hb dX12_feed_72 ?_
  refine tp_i (v := 3) (by decide) ?_
  refine lv_aload_n hx hb dX12_feed_73 rfl (lv_at hl 1 rfl) ?_
  refine g_get (C := RX12) (T := TX12) (N := 29) (ci := 12) (v := .ref a6) FC hKn hP i_X12 0 rfl rfl 6 (by decide) b_447 rfl dX12_feed_74 ?_
  refine lv_iload hx hb dX12_feed_77 (lv_at hl 0 rfl) ?_
  refine lv_iconst (v := 4) hx hb dX12_feed_79 (by decide) ?_
  refine lv_idiv hx hb dX12_feed_80 (by decide) ?_
  refine tp_i (v := 0) (by decide) ?_
  refine va_iald hx hb hKn.1 hP 2 0 rfl rfl (by unfold vp_in; decide) dX12_feed_81 ?_
  refine lv_topi (fun z18 e_z18 => ?_)
  refine lv_bipush (v := 24) hx hb dX12_feed_82 (by decide) ?_
  refine lv_bipush (v := 8) hx hb dX12_feed_84 (by decide) ?_
  refine lv_iload hx hb dX12_feed_86 (lv_at hl 0 rfl) ?_
  refine lv_iconst (v := 4) hx hb dX12_feed_88 (by decide) ?_
  refine lv_irem hx hb dX12_feed_89 (by decide) ?_
  refine tp_i (v := 3) (by decide) ?_
  refine lv_imul hx hb dX12_feed_90 ?_
  refine tp_i (v := 24) (by decide) ?_
  refine lv_isub hx hb dX12_feed_91 ?_
  refine tp_i (v := 0) (by decide) ?_
  refine lv_ishr hx hb dX12_feed_92 ?_
  refine lv_topi (fun z19 e_z19 => ?_)
  refine lv_i2b hx hb dX12_feed_93 rfl ?_
  refine lv_topi (fun z20 e_z20 => ?_)
  refine va_bast hx hb hKn.1 hP hD hS 1 1 rfl rfl (by unfold vp_in; decide) dX12_feed_94 (fun H locs hP hD hS => ?_)
  have hP : va_P g.1 vwCl [(h0, .inr (12, [.int 0, .ref a1, .ref a2, .ref a3, .ref a4, .int 0, .ref a6, .int 0, .int 0, .int 0, .int 0, .int 0, .int 0, .int (-1), .ref a14, .ref a15, .int 0, .int 0, .int 0, .ref a19, .ref a20, .int 0, .int 0, .ref a23, .ref a24, .ref a25, .ref a26, .ref a27, .ref a28])), (a4, .inl (g.2 1, 900, .inl (upd f17 ((3 : Int32).toNatClampNeg) (vp_nar .byte z20)))), (a6, .inl (g.2 0, 5, .inl f5))] H := hP
  have hD : va_D A [(h0, .inr (12, [.int 0, .ref a1, .ref a2, .ref a3, .ref a4, .int 0, .ref a6, .int 0, .int 0, .int 0, .int 0, .int 0, .int 0, .int (-1), .ref a14, .ref a15, .int 0, .int 0, .int 0, .ref a19, .ref a20, .int 0, .int 0, .ref a23, .ref a24, .ref a25, .ref a26, .ref a27, .ref a28])), (a4, .inl (g.2 1, 900, .inl (upd f17 ((3 : Int32).toNatClampNeg) (vp_nar .byte z20)))), (a6, .inl (g.2 0, 5, .inl f5))] := hD
  generalize (upd f17 ((3 : Int32).toNatClampNeg) (vp_nar .byte z20) : Nat → Int32) = f21 at hP hD
  refine lv_iinc (v := 4) (lv' := [(6, .int 4), (0, .ref h0), (1, .int p1), (2, .int p2), (3, .int p3), (4, .int p4), (5, .int p5)]) hx hb dX12_feed_95 hl (k := 0) rfl (by decide) (by decide) rfl (fun ls hl => ?_)
  refine lv_goto (tgt := 55) hx hb dX12_feed_98 (by decide) ?_
  refine lv_iload hx hb dX12_feed_55 (lv_at hl 0 rfl) ?_
  refine lv_bipush (v := 20) hx hb dX12_feed_57 (by decide) ?_
  refine lv_icmp_ge (tgt := 101) hx hb dX12_feed_59 (by decide) (fun h => absurd h (by decide)) (fun _ => ?_)
  refine lv_aload_n hx hb dX12_feed_62 rfl (lv_at hl 1 rfl) ?_
  refine g_get (C := RX12) (T := TX12) (N := 29) (ci := 12) (v := .ref a4) FC hKn hP i_X12 0 rfl rfl 4 (by decide) b_448 rfl dX12_feed_63 ?_
  refine lv_aload_n hx hb dX12_feed_66 rfl (lv_at hl 1 rfl) ?_
  refine g_get (C := RX12) (T := TX12) (N := 29) (ci := 12) (v := .int 0) FC hKn hP i_X12 0 rfl rfl 5 (by decide) b_439 rfl dX12_feed_67 ?_
  refine lv_iload hx hb dX12_feed_70 (lv_at hl 0 rfl) ?_
  refine lv_iadd hx hb dX12_feed_72 ?_
  refine tp_i (v := 4) (by decide) ?_
  refine lv_aload_n hx hb dX12_feed_73 rfl (lv_at hl 1 rfl) ?_
  refine g_get (C := RX12) (T := TX12) (N := 29) (ci := 12) (v := .ref a6) FC hKn hP i_X12 0 rfl rfl 6 (by decide) b_447 rfl dX12_feed_74 ?_
  refine lv_iload hx hb dX12_feed_77 (lv_at hl 0 rfl) ?_
  refine lv_iconst (v := 4) hx hb dX12_feed_79 (by decide) ?_
  refine lv_idiv hx hb dX12_feed_80 (by decide) ?_
  refine tp_i (v := 1) (by decide) ?_
  refine va_iald hx hb hKn.1 hP 2 0 rfl rfl (by unfold vp_in; decide) dX12_feed_81 ?_
  refine lv_topi (fun z22 e_z22 => ?_)
  refine lv_bipush (v := 24) hx hb dX12_feed_82 (by decide) ?_
  refine lv_bipush (v := 8) hx hb dX12_feed_84 (by decide) ?_
  refine lv_iload hx hb dX12_feed_86 (lv_at hl 0 rfl) ?_
  refine lv_iconst (v := 4) hx hb dX12_feed_88 (by decide) ?_
  refine lv_irem hx hb dX12_feed_89 (by decide) ?_
  refine tp_i (v := 0) (by decide) ?_
  refine lv_imul hx hb dX12_feed_90 ?_
  refine tp_i (v := 0) (by decide) ?_
  refine lv_isub hx hb dX12_feed_91 ?_
  refine tp_i (v := 24) (by decide) ?_
  refine lv_ishr hx hb dX12_feed_92 ?_
  refine lv_topi (fun z23 e_z23 => ?_)
  refine lv_i2b hx hb dX12_feed_93 rfl ?_
  refine lv_topi (fun z24 e_z24 => ?_)
  refine va_bast hx hb hKn.1 hP hD hS 1 1 rfl rfl (by unfold vp_in; decide) dX12_feed_94 (fun H locs hP hD hS => ?_)
  have hP : va_P g.1 vwCl [(h0, .inr (12, [.int 0, .ref a1, .ref a2, .ref a3, .ref a4, .int 0, .ref a6, .int 0, .int 0, .int 0, .int 0, .int 0, .int 0, .int (-1), .ref a14, .ref a15, .int 0, .int 0, .int 0, .ref a19, .ref a20, .int 0, .int 0, .ref a23, .ref a24, .ref a25, .ref a26, .ref a27, .ref a28])), (a4, .inl (g.2 1, 900, .inl (upd f21 ((4 : Int32).toNatClampNeg) (vp_nar .byte z24)))), (a6, .inl (g.2 0, 5, .inl f5))] H := hP
  have hD : va_D A [(h0, .inr (12, [.int 0, .ref a1, .ref a2, .ref a3, .ref a4, .int 0, .ref a6, .int 0, .int 0, .int 0, .int 0, .int 0, .int 0, .int (-1), .ref a14, .ref a15, .int 0, .int 0, .int 0, .ref a19, .ref a20, .int 0, .int 0, .ref a23, .ref a24, .ref a25, .ref a26, .ref a27, .ref a28])), (a4, .inl (g.2 1, 900, .inl (upd f21 ((4 : Int32).toNatClampNeg) (vp_nar .byte z24)))), (a6, .inl (g.2 0, 5, .inl f5))] := hD
  generalize (upd f21 ((4 : Int32).toNatClampNeg) (vp_nar .byte z24) : Nat → Int32) = f25 at hP hD
  refine lv_iinc (v := 5) (lv' := [(6, .int 5), (0, .ref h0), (1, .int p1), (2, .int p2), (3, .int p3), (4, .int p4), (5, .int p5)]) hx hb dX12_feed_95 hl (k := 0) rfl (by decide) (by decide) rfl (fun ls hl => ?_)
  refine lv_goto (tgt := 55) hx hb dX12_feed_98 (by decide) ?_
  refine lv_iload hx hb dX12_feed_55 (lv_at hl 0 rfl) ?_
  refine lv_bipush (v := 20) hx hb dX12_feed_57 (by decide) ?_
  refine lv_icmp_ge (tgt := 101) hx hb dX12_feed_59 (by decide) (fun h => absurd h (by decide)) (fun _ => ?_)
  refine lv_aload_n hx hb dX12_feed_62 rfl (lv_at hl 1 rfl) ?_
  refine g_get (C := RX12) (T := TX12) (N := 29) (ci := 12) (v := .ref a4) FC hKn hP i_X12 0 rfl rfl 4 (by decide) b_448 rfl dX12_feed_63 ?_
  refine lv_aload_n hx hb dX12_feed_66 rfl (lv_at hl 1 rfl) ?_
  refine g_get (C := RX12) (T := TX12) (N := 29) (ci := 12) (v := .int 0) FC hKn hP i_X12 0 rfl rfl 5 (by decide) b_439 rfl dX12_feed_67 ?_
  refine lv_iload hx hb dX12_feed_70 (lv_at hl 0 rfl) ?_
  refine lv_iadd hx hb dX12_feed_72 ?_
  refine tp_i (v := 5) (by decide) ?_
  refine lv_aload_n hx hb dX12_feed_73 rfl (lv_at hl 1 rfl) ?_
  refine g_get (C := RX12) (T := TX12) (N := 29) (ci := 12) (v := .ref a6) FC hKn hP i_X12 0 rfl rfl 6 (by decide) b_447 rfl dX12_feed_74 ?_
  refine lv_iload hx hb dX12_feed_77 (lv_at hl 0 rfl) ?_
  refine lv_iconst (v := 4) hx hb dX12_feed_79 (by decide) ?_
  refine lv_idiv hx hb dX12_feed_80 (by decide) ?_
  refine tp_i (v := 1) (by decide) ?_
  refine va_iald hx hb hKn.1 hP 2 0 rfl rfl (by unfold vp_in; decide) dX12_feed_81 ?_
  refine lv_topi (fun z26 e_z26 => ?_)
  refine lv_bipush (v := 24) hx hb dX12_feed_82 (by decide) ?_
  refine lv_bipush (v := 8) hx hb dX12_feed_84 (by decide) ?_
  refine lv_iload hx hb dX12_feed_86 (lv_at hl 0 rfl) ?_
  refine lv_iconst (v := 4) hx hb dX12_feed_88 (by decide) ?_
  refine lv_irem hx hb dX12_feed_89 (by decide) ?_
  refine tp_i (v := 1) (by decide) ?_
  refine lv_imul hx hb dX12_feed_90 ?_
  refine tp_i (v := 8) (by decide) ?_
  refine lv_isub hx hb dX12_feed_91 ?_
  refine tp_i (v := 16) (by decide) ?_
  refine lv_ishr hx hb dX12_feed_92 ?_
  refine lv_topi (fun z27 e_z27 => ?_)
  refine lv_i2b hx hb dX12_feed_93 rfl ?_
  refine lv_topi (fun z28 e_z28 => ?_)
  refine va_bast hx hb hKn.1 hP hD hS 1 1 rfl rfl (by unfold vp_in; decide) dX12_feed_94 (fun H locs hP hD hS => ?_)
  have hP : va_P g.1 vwCl [(h0, .inr (12, [.int 0, .ref a1, .ref a2, .ref a3, .ref a4, .int 0, .ref a6, .int 0, .int 0, .int 0, .int 0, .int 0, .int 0, .int (-1), .ref a14, .ref a15, .int 0, .int 0, .int 0, .ref a19, .ref a20, .int 0, .int 0, .ref a23, .ref a24, .ref a25, .ref a26, .ref a27, .ref a28])), (a4, .inl (g.2 1, 900, .inl (upd f25 ((5 : Int32).toNatClampNeg) (vp_nar .byte z28)))), (a6, .inl (g.2 0, 5, .inl f5))] H := hP
  have hD : va_D A [(h0, .inr (12, [.int 0, .ref a1, .ref a2, .ref a3, .ref a4, .int 0, .ref a6, .int 0, .int 0, .int 0, .int 0, .int 0, .int 0, .int (-1), .ref a14, .ref a15, .int 0, .int 0, .int 0, .ref a19, .ref a20, .int 0, .int 0, .ref a23, .ref a24, .ref a25, .ref a26, .ref a27, .ref a28])), (a4, .inl (g.2 1, 900, .inl (upd f25 ((5 : Int32).toNatClampNeg) (vp_nar .byte z28)))), (a6, .inl (g.2 0, 5, .inl f5))] := hD
  generalize (upd f25 ((5 : Int32).toNatClampNeg) (vp_nar .byte z28) : Nat → Int32) = f29 at hP hD
  refine lv_iinc (v := 6) (lv' := [(6, .int 6), (0, .ref h0), (1, .int p1), (2, .int p2), (3, .int p3), (4, .int p4), (5, .int p5)]) hx hb dX12_feed_95 hl (k := 0) rfl (by decide) (by decide) rfl (fun ls hl => ?_)
  refine lv_goto (tgt := 55) hx hb dX12_feed_98 (by decide) ?_
  refine lv_iload hx hb dX12_feed_55 (lv_at hl 0 rfl) ?_
  refine lv_bipush (v := 20) hx hb dX12_feed_57 (by decide) ?_
  refine lv_icmp_ge (tgt := 101) hx hb dX12_feed_59 (by decide) (fun h => absurd h (by decide)) (fun _ => ?_)
  refine lv_aload_n hx hb dX12_feed_62 rfl (lv_at hl 1 rfl) ?_
  refine g_get (C := RX12) (T := TX12) (N := 29) (ci := 12) (v := .ref a4) FC hKn hP i_X12 0 rfl rfl 4 (by decide) b_448 rfl dX12_feed_63 ?_
  refine lv_aload_n hx hb dX12_feed_66 rfl (lv_at hl 1 rfl) ?_
  refine g_get (C := RX12) (T := TX12) (N := 29) (ci := 12) (v := .int 0) FC hKn hP i_X12 0 rfl rfl 5 (by decide) b_439 rfl dX12_feed_67 ?_
  refine lv_iload hx hb dX12_feed_70 (lv_at hl 0 rfl) ?_
  refine lv_iadd hx hb dX12_feed_72 ?_
  refine tp_i (v := 6) (by decide) ?_
  refine lv_aload_n hx hb dX12_feed_73 rfl (lv_at hl 1 rfl) ?_
  refine g_get (C := RX12) (T := TX12) (N := 29) (ci := 12) (v := .ref a6) FC hKn hP i_X12 0 rfl rfl 6 (by decide) b_447 rfl dX12_feed_74 ?_
  refine lv_iload hx hb dX12_feed_77 (lv_at hl 0 rfl) ?_
  refine lv_iconst (v := 4) hx hb dX12_feed_79 (by decide) ?_
  refine lv_idiv hx hb dX12_feed_80 (by decide) ?_
  refine tp_i (v := 1) (by decide) ?_
  refine va_iald hx hb hKn.1 hP 2 0 rfl rfl (by unfold vp_in; decide) dX12_feed_81 ?_
  refine lv_topi (fun z30 e_z30 => ?_)
  refine lv_bipush (v := 24) hx hb dX12_feed_82 (by decide) ?_
  refine lv_bipush (v := 8) hx hb dX12_feed_84 (by decide) ?_
  refine lv_iload hx hb dX12_feed_86 (lv_at hl 0 rfl) ?_
  refine lv_iconst (v := 4) hx hb dX12_feed_88 (by decide) ?_
  refine lv_irem hx hb dX12_feed_89 (by decide) ?_
  refine tp_i (v := 2) (by decide) ?_
  refine lv_imul hx hb dX12_feed_90 ?_
  refine tp_i (v := 16) (by decide) ?_
  refine lv_isub hx hb dX12_feed_91 ?_
  refine tp_i (v := 8) (by decide) ?_
  refine lv_ishr hx hb dX12_feed_92 ?_
  refine lv_topi (fun z31 e_z31 => ?_)
  refine lv_i2b hx hb dX12_feed_93 rfl ?_
  refine lv_topi (fun z32 e_z32 => ?_)
  refine va_bast hx hb hKn.1 hP hD hS 1 1 rfl rfl (by unfold vp_in; decide) dX12_feed_94 (fun H locs hP hD hS => ?_)
  have hP : va_P g.1 vwCl [(h0, .inr (12, [.int 0, .ref a1, .ref a2, .ref a3, .ref a4, .int 0, .ref a6, .int 0, .int 0, .int 0, .int 0, .int 0, .int 0, .int (-1), .ref a14, .ref a15, .int 0, .int 0, .int 0, .ref a19, .ref a20, .int 0, .int 0, .ref a23, .ref a24, .ref a25, .ref a26, .ref a27, .ref a28])), (a4, .inl (g.2 1, 900, .inl (upd f29 ((6 : Int32).toNatClampNeg) (vp_nar .byte z32)))), (a6, .inl (g.2 0, 5, .inl f5))] H := hP
  have hD : va_D A [(h0, .inr (12, [.int 0, .ref a1, .ref a2, .ref a3, .ref a4, .int 0, .ref a6, .int 0, .int 0, .int 0, .int 0, .int 0, .int 0, .int (-1), .ref a14, .ref a15, .int 0, .int 0, .int 0, .ref a19, .ref a20, .int 0, .int 0, .ref a23, .ref a24, .ref a25, .ref a26, .ref a27, .ref a28])), (a4, .inl (g.2 1, 900, .inl (upd f29 ((6 : Int32).toNatClampNeg) (vp_nar .byte z32)))), (a6, .inl (g.2 0, 5, .inl f5))] := hD
  generalize (upd f29 ((6 : Int32).toNatClampNeg) (vp_nar .byte z32) : Nat → Int32) = f33 at hP hD
  refine lv_iinc (v := 7) (lv' := [(6, .int 7), (0, .ref h0), (1, .int p1), (2, .int p2), (3, .int p3), (4, .int p4), (5, .int p5)]) hx hb dX12_feed_95 hl (k := 0) rfl (by decide) (by decide) rfl (fun ls hl => ?_)
  refine lv_goto (tgt := 55) hx hb dX12_feed_98 (by decide) ?_
  refine lv_iload hx hb dX12_feed_55 (lv_at hl 0 rfl) ?_
  refine lv_bipush (v := 20) hx hb dX12_feed_57 (by decide) ?_
  refine lv_icmp_ge (tgt := 101) hx hb dX12_feed_59 (by decide) (fun h => absurd h (by decide)) (fun _ => ?_)
  refine lv_aload_n hx hb dX12_feed_62 rfl (lv_at hl 1 rfl) ?_
  refine g_get (C := RX12) (T := TX12) (N := 29) (ci := 12) (v := .ref a4) FC hKn hP i_X12 0 rfl rfl 4 (by decide) b_448 rfl dX12_feed_63 ?_
  refine lv_aload_n hx hb dX12_feed_66 rfl (lv_at hl 1 rfl) ?_
  refine g_get (C := RX12) (T := TX12) (N := 29) (ci := 12) (v := .int 0) FC hKn hP i_X12 0 rfl rfl 5 (by decide) b_439 rfl dX12_feed_67 ?_
  refine lv_iload hx hb dX12_feed_70 (lv_at hl 0 rfl) ?_
  refine lv_iadd hx hb dX12_feed_72 ?_
  refine tp_i (v := 7) (by decide) ?_
  refine lv_aload_n hx hb dX12_feed_73 rfl (lv_at hl 1 rfl) ?_
  refine g_get (C := RX12) (T := TX12) (N := 29) (ci := 12) (v := .ref a6) FC hKn hP i_X12 0 rfl rfl 6 (by decide) b_447 rfl dX12_feed_74 ?_
  refine lv_iload hx hb dX12_feed_77 (lv_at hl 0 rfl) ?_
  refine lv_iconst (v := 4) hx hb dX12_feed_79 (by decide) ?_
  refine lv_idiv hx hb dX12_feed_80 (by decide) ?_
  refine tp_i (v := 1) (by decide) ?_
  refine va_iald hx hb hKn.1 hP 2 0 rfl rfl (by unfold vp_in; decide) dX12_feed_81 ?_
  refine lv_topi (fun z34 e_z34 => ?_)
  refine lv_bipush (v := 24) hx hb dX12_feed_82 (by decide) ?_
  refine lv_bipush (v := 8) hx hb dX12_feed_84 (by decide) ?_
  refine lv_iload hx hb dX12_feed_86 (lv_at hl 0 rfl) ?_
  refine lv_iconst (v := 4) hx hb dX12_feed_88 (by decide) ?_
  refine lv_irem hx hb dX12_feed_89 (by decide) ?_
  refine tp_i (v := 3) (by decide) ?_
  refine lv_imul hx hb dX12_feed_90 ?_
  refine tp_i (v := 24) (by decide) ?_
  refine lv_isub hx hb dX12_feed_91 ?_
  refine tp_i (v := 0) (by decide) ?_
  refine lv_ishr hx hb dX12_feed_92 ?_
  refine lv_topi (fun z35 e_z35 => ?_)
  refine lv_i2b hx hb dX12_feed_93 rfl ?_
  refine lv_topi (fun z36 e_z36 => ?_)
  refine va_bast hx hb hKn.1 hP hD hS 1 1 rfl rfl (by unfold vp_in; decide) dX12_feed_94 (fun H locs hP hD hS => ?_)
  have hP : va_P g.1 vwCl [(h0, .inr (12, [.int 0, .ref a1, .ref a2, .ref a3, .ref a4, .int 0, .ref a6, .int 0, .int 0, .int 0, .int 0, .int 0, .int 0, .int (-1), .ref a14, .ref a15, .int 0, .int 0, .int 0, .ref a19, .ref a20, .int 0, .int 0, .ref a23, .ref a24, .ref a25, .ref a26, .ref a27, .ref a28])), (a4, .inl (g.2 1, 900, .inl (upd f33 ((7 : Int32).toNatClampNeg) (vp_nar .byte z36)))), (a6, .inl (g.2 0, 5, .inl f5))] H := hP
  have hD : va_D A [(h0, .inr (12, [.int 0, .ref a1, .ref a2, .ref a3, .ref a4, .int 0, .ref a6, .int 0, .int 0, .int 0, .int 0, .int 0, .int 0, .int (-1), .ref a14, .ref a15, .int 0, .int 0, .int 0, .ref a19, .ref a20, .int 0, .int 0, .ref a23, .ref a24, .ref a25, .ref a26, .ref a27, .ref a28])), (a4, .inl (g.2 1, 900, .inl (upd f33 ((7 : Int32).toNatClampNeg) (vp_nar .byte z36)))), (a6, .inl (g.2 0, 5, .inl f5))] := hD
  generalize (upd f33 ((7 : Int32).toNatClampNeg) (vp_nar .byte z36) : Nat → Int32) = f37 at hP hD
  refine lv_iinc (v := 8) (lv' := [(6, .int 8), (0, .ref h0), (1, .int p1), (2, .int p2), (3, .int p3), (4, .int p4), (5, .int p5)]) hx hb dX12_feed_95 hl (k := 0) rfl (by decide) (by decide) rfl (fun ls hl => ?_)
  refine lv_goto (tgt := 55) hx hb dX12_feed_98 (by decide) ?_
  refine lv_iload hx hb dX12_feed_55 (lv_at hl 0 rfl) ?_
  refine lv_bipush (v := 20) hx hb dX12_feed_57 (by decide) ?_
  refine lv_icmp_ge (tgt := 101) hx hb dX12_feed_59 (by decide) (fun h => absurd h (by decide)) (fun _ => ?_)
  refine lv_aload_n hx hb dX12_feed_62 rfl (lv_at hl 1 rfl) ?_
  refine g_get (C := RX12) (T := TX12) (N := 29) (ci := 12) (v := .ref a4) FC hKn hP i_X12 0 rfl rfl 4 (by decide) b_448 rfl dX12_feed_63 ?_
  refine lv_aload_n hx hb dX12_feed_66 rfl (lv_at hl 1 rfl) ?_
  refine g_get (C := RX12) (T := TX12) (N := 29) (ci := 12) (v := .int 0) FC hKn hP i_X12 0 rfl rfl 5 (by decide) b_439 rfl dX12_feed_67 ?_
  refine lv_iload hx hb dX12_feed_70 (lv_at hl 0 rfl) ?_
  refine lv_iadd hx hb dX12_feed_72 ?_
  refine tp_i (v := 8) (by decide) ?_
  refine lv_aload_n hx hb dX12_feed_73 rfl (lv_at hl 1 rfl) ?_
  refine g_get (C := RX12) (T := TX12) (N := 29) (ci := 12) (v := .ref a6) FC hKn hP i_X12 0 rfl rfl 6 (by decide) b_447 rfl dX12_feed_74 ?_
  refine lv_iload hx hb dX12_feed_77 (lv_at hl 0 rfl) ?_
  refine lv_iconst (v := 4) hx hb dX12_feed_79 (by decide) ?_
  refine lv_idiv hx hb dX12_feed_80 (by decide) ?_
  refine tp_i (v := 2) (by decide) ?_
  refine va_iald hx hb hKn.1 hP 2 0 rfl rfl (by unfold vp_in; decide) dX12_feed_81 ?_
  refine lv_topi (fun z38 e_z38 => ?_)
  refine lv_bipush (v := 24) hx hb dX12_feed_82 (by decide) ?_
  refine lv_bipush (v := 8) hx hb dX12_feed_84 (by decide) ?_
  refine lv_iload hx hb dX12_feed_86 (lv_at hl 0 rfl) ?_
  refine lv_iconst (v := 4) hx hb dX12_feed_88 (by decide) ?_
  refine lv_irem hx hb dX12_feed_89 (by decide) ?_
  refine tp_i (v := 0) (by decide) ?_
  refine lv_imul hx hb dX12_feed_90 ?_
  refine tp_i (v := 0) (by decide) ?_
  refine lv_isub hx hb dX12_feed_91 ?_
  refine tp_i (v := 24) (by decide) ?_
  refine lv_ishr hx hb dX12_feed_92 ?_
  refine lv_topi (fun z39 e_z39 => ?_)
  refine lv_i2b hx hb dX12_feed_93 rfl ?_
  refine lv_topi (fun z40 e_z40 => ?_)
  refine va_bast hx hb hKn.1 hP hD hS 1 1 rfl rfl (by unfold vp_in; decide) dX12_feed_94 (fun H locs hP hD hS => ?_)
  have hP : va_P g.1 vwCl [(h0, .inr (12, [.int 0, .ref a1, .ref a2, .ref a3, .ref a4, .int 0, .ref a6, .int 0, .int 0, .int 0, .int 0, .int 0, .int 0, .int (-1), .ref a14, .ref a15, .int 0, .int 0, .int 0, .ref a19, .ref a20, .int 0, .int 0, .ref a23, .ref a24, .ref a25, .ref a26, .ref a27, .ref a28])), (a4, .inl (g.2 1, 900, .inl (upd f37 ((8 : Int32).toNatClampNeg) (vp_nar .byte z40)))), (a6, .inl (g.2 0, 5, .inl f5))] H := hP
  have hD : va_D A [(h0, .inr (12, [.int 0, .ref a1, .ref a2, .ref a3, .ref a4, .int 0, .ref a6, .int 0, .int 0, .int 0, .int 0, .int 0, .int 0, .int (-1), .ref a14, .ref a15, .int 0, .int 0, .int 0, .ref a19, .ref a20, .int 0, .int 0, .ref a23, .ref a24, .ref a25, .ref a26, .ref a27, .ref a28])), (a4, .inl (g.2 1, 900, .inl (upd f37 ((8 : Int32).toNatClampNeg) (vp_nar .byte z40)))), (a6, .inl (g.2 0, 5, .inl f5))] := hD
  generalize (upd f37 ((8 : Int32).toNatClampNeg) (vp_nar .byte z40) : Nat → Int32) = f41 at hP hD
  refine lv_iinc (v := 9) (lv' := [(6, .int 9), (0, .ref h0), (1, .int p1), (2, .int p2), (3, .int p3), (4, .int p4), (5, .int p5)]) hx hb dX12_feed_95 hl (k := 0) rfl (by decide) (by decide) rfl (fun ls hl => ?_)
  refine lv_goto (tgt := 55) hx hb dX12_feed_98 (by decide) ?_
  refine lv_iload hx hb dX12_feed_55 (lv_at hl 0 rfl) ?_
  refine lv_bipush (v := 20) hx hb dX12_feed_57 (by decide) ?_
  refine lv_icmp_ge (tgt := 101) hx hb dX12_feed_59 (by decide) (fun h => absurd h (by decide)) (fun _ => ?_)
  refine lv_aload_n hx hb dX12_feed_62 rfl (lv_at hl 1 rfl) ?_
  refine g_get (C := RX12) (T := TX12) (N := 29) (ci := 12) (v := .ref a4) FC hKn hP i_X12 0 rfl rfl 4 (by decide) b_448 rfl dX12_feed_63 ?_
  refine lv_aload_n hx hb dX12_feed_66 rfl (lv_at hl 1 rfl) ?_
  refine g_get (C := RX12) (T := TX12) (N := 29) (ci := 12) (v := .int 0) FC hKn hP i_X12 0 rfl rfl 5 (by decide) b_439 rfl dX12_feed_67 ?_
  refine lv_iload hx hb dX12_feed_70 (lv_at hl 0 rfl) ?_
  refine lv_iadd hx hb dX12_feed_72 ?_
  refine tp_i (v := 9) (by decide) ?_
  refine lv_aload_n hx hb dX12_feed_73 rfl (lv_at hl 1 rfl) ?_
  refine g_get (C := RX12) (T := TX12) (N := 29) (ci := 12) (v := .ref a6) FC hKn hP i_X12 0 rfl rfl 6 (by decide) b_447 rfl dX12_feed_74 ?_
  refine lv_iload hx hb dX12_feed_77 (lv_at hl 0 rfl) ?_
  refine lv_iconst (v := 4) hx hb dX12_feed_79 (by decide) ?_
  refine lv_idiv hx hb dX12_feed_80 (by decide) ?_
  refine tp_i (v := 2) (by decide) ?_
  refine va_iald hx hb hKn.1 hP 2 0 rfl rfl (by unfold vp_in; decide) dX12_feed_81 ?_
  refine lv_topi (fun z42 e_z42 => ?_)
  refine lv_bipush (v := 24) hx hb dX12_feed_82 (by decide) ?_
  refine lv_bipush (v := 8) hx hb dX12_feed_84 (by decide) ?_
  refine lv_iload hx hb dX12_feed_86 (lv_at hl 0 rfl) ?_
  refine lv_iconst (v := 4) hx hb dX12_feed_88 (by decide) ?_
  refine lv_irem hx hb dX12_feed_89 (by decide) ?_
  refine tp_i (v := 1) (by decide) ?_
  refine lv_imul hx hb dX12_feed_90 ?_
  refine tp_i (v := 8) (by decide) ?_
  refine lv_isub hx hb dX12_feed_91 ?_
  refine tp_i (v := 16) (by decide) ?_
  refine lv_ishr hx hb dX12_feed_92 ?_
  refine lv_topi (fun z43 e_z43 => ?_)
  refine lv_i2b hx hb dX12_feed_93 rfl ?_
  refine lv_topi (fun z44 e_z44 => ?_)
  refine va_bast hx hb hKn.1 hP hD hS 1 1 rfl rfl (by unfold vp_in; decide) dX12_feed_94 (fun H locs hP hD hS => ?_)
  have hP : va_P g.1 vwCl [(h0, .inr (12, [.int 0, .ref a1, .ref a2, .ref a3, .ref a4, .int 0, .ref a6, .int 0, .int 0, .int 0, .int 0, .int 0, .int 0, .int (-1), .ref a14, .ref a15, .int 0, .int 0, .int 0, .ref a19, .ref a20, .int 0, .int 0, .ref a23, .ref a24, .ref a25, .ref a26, .ref a27, .ref a28])), (a4, .inl (g.2 1, 900, .inl (upd f41 ((9 : Int32).toNatClampNeg) (vp_nar .byte z44)))), (a6, .inl (g.2 0, 5, .inl f5))] H := hP
  have hD : va_D A [(h0, .inr (12, [.int 0, .ref a1, .ref a2, .ref a3, .ref a4, .int 0, .ref a6, .int 0, .int 0, .int 0, .int 0, .int 0, .int 0, .int (-1), .ref a14, .ref a15, .int 0, .int 0, .int 0, .ref a19, .ref a20, .int 0, .int 0, .ref a23, .ref a24, .ref a25, .ref a26, .ref a27, .ref a28])), (a4, .inl (g.2 1, 900, .inl (upd f41 ((9 : Int32).toNatClampNeg) (vp_nar .byte z44)))), (a6, .inl (g.2 0, 5, .inl f5))] := hD
  generalize (upd f41 ((9 : Int32).toNatClampNeg) (vp_nar .byte z44) : Nat → Int32) = f45 at hP hD
  refine lv_iinc (v := 10) (lv' := [(6, .int 10), (0, .ref h0), (1, .int p1), (2, .int p2), (3, .int p3), (4, .int p4), (5, .int p5)]) hx hb dX12_feed_95 hl (k := 0) rfl (by decide) (by decide) rfl (fun ls hl => ?_)
  refine lv_goto (tgt := 55) hx hb dX12_feed_98 (by decide) ?_
  refine lv_iload hx hb dX12_feed_55 (lv_at hl 0 rfl) ?_
  refine lv_bipush (v := 20) hx hb dX12_feed_57 (by decide) ?_
  refine lv_icmp_ge (tgt := 101) hx hb dX12_feed_59 (by decide) (fun h => absurd h (by decide)) (fun _ => ?_)
  refine lv_aload_n hx hb dX12_feed_62 rfl (lv_at hl 1 rfl) ?_
  refine g_get (C := RX12) (T := TX12) (N := 29) (ci := 12) (v := .ref a4) FC hKn hP i_X12 0 rfl rfl 4 (by decide) b_448 rfl dX12_feed_63 ?_
  refine lv_aload_n hx hb dX12_feed_66 rfl (lv_at hl 1 rfl) ?_
  refine g_get (C := RX12) (T := TX12) (N := 29) (ci := 12) (v := .int 0) FC hKn hP i_X12 0 rfl rfl 5 (by decide) b_439 rfl dX12_feed_67 ?_
  refine lv_iload hx hb dX12_feed_70 (lv_at hl 0 rfl) ?_
  refine lv_iadd hx hb dX12_feed_72 ?_
  refine tp_i (v := 10) (by decide) ?_
  refine lv_aload_n hx hb dX12_feed_73 rfl (lv_at hl 1 rfl) ?_
  refine g_get (C := RX12) (T := TX12) (N := 29) (ci := 12) (v := .ref a6) FC hKn hP i_X12 0 rfl rfl 6 (by decide) b_447 rfl dX12_feed_74 ?_
  refine lv_iload hx hb dX12_feed_77 (lv_at hl 0 rfl) ?_
  refine lv_iconst (v := 4) hx hb dX12_feed_79 (by decide) ?_
  refine lv_idiv hx hb dX12_feed_80 (by decide) ?_
  refine tp_i (v := 2) (by decide) ?_
  refine va_iald hx hb hKn.1 hP 2 0 rfl rfl (by unfold vp_in; decide) dX12_feed_81 ?_
  refine lv_topi (fun z46 e_z46 => ?_)
  refine lv_bipush (v := 24) hx hb dX12_feed_82 (by decide) ?_
  refine lv_bipush (v := 8) hx hb dX12_feed_84 (by decide) ?_
  refine lv_iload hx hb dX12_feed_86 (lv_at hl 0 rfl) ?_
  refine lv_iconst (v := 4) hx hb dX12_feed_88 (by decide) ?_
  refine lv_irem hx hb dX12_feed_89 (by decide) ?_
  refine tp_i (v := 2) (by decide) ?_
  refine lv_imul hx hb dX12_feed_90 ?_
  refine tp_i (v := 16) (by decide) ?_
  refine lv_isub hx hb dX12_feed_91 ?_
  refine tp_i (v := 8) (by decide) ?_
  refine lv_ishr hx hb dX12_feed_92 ?_
  refine lv_topi (fun z47 e_z47 => ?_)
  refine lv_i2b hx hb dX12_feed_93 rfl ?_
  refine lv_topi (fun z48 e_z48 => ?_)
  refine va_bast hx hb hKn.1 hP hD hS 1 1 rfl rfl (by unfold vp_in; decide) dX12_feed_94 (fun H locs hP hD hS => ?_)
  have hP : va_P g.1 vwCl [(h0, .inr (12, [.int 0, .ref a1, .ref a2, .ref a3, .ref a4, .int 0, .ref a6, .int 0, .int 0, .int 0, .int 0, .int 0, .int 0, .int (-1), .ref a14, .ref a15, .int 0, .int 0, .int 0, .ref a19, .ref a20, .int 0, .int 0, .ref a23, .ref a24, .ref a25, .ref a26, .ref a27, .ref a28])), (a4, .inl (g.2 1, 900, .inl (upd f45 ((10 : Int32).toNatClampNeg) (vp_nar .byte z48)))), (a6, .inl (g.2 0, 5, .inl f5))] H := hP
  have hD : va_D A [(h0, .inr (12, [.int 0, .ref a1, .ref a2, .ref a3, .ref a4, .int 0, .ref a6, .int 0, .int 0, .int 0, .int 0, .int 0, .int 0, .int (-1), .ref a14, .ref a15, .int 0, .int 0, .int 0, .ref a19, .ref a20, .int 0, .int 0, .ref a23, .ref a24, .ref a25, .ref a26, .ref a27, .ref a28])), (a4, .inl (g.2 1, 900, .inl (upd f45 ((10 : Int32).toNatClampNeg) (vp_nar .byte z48)))), (a6, .inl (g.2 0, 5, .inl f5))] := hD
  generalize (upd f45 ((10 : Int32).toNatClampNeg) (vp_nar .byte z48) : Nat → Int32) = f49 at hP hD
  refine lv_iinc (v := 11) (lv' := [(6, .int 11), (0, .ref h0), (1, .int p1), (2, .int p2), (3, .int p3), (4, .int p4), (5, .int p5)]) hx hb dX12_feed_95 hl (k := 0) rfl (by decide) (by decide) rfl (fun ls hl => ?_)
  refine lv_goto (tgt := 55) hx hb dX12_feed_98 (by decide) ?_
  refine lv_iload hx hb dX12_feed_55 (lv_at hl 0 rfl) ?_
  refine lv_bipush (v := 20) hx hb dX12_feed_57 (by decide) ?_
  refine lv_icmp_ge (tgt := 101) hx hb dX12_feed_59 (by decide) (fun h => absurd h (by decide)) (fun _ => ?_)
  refine lv_aload_n hx hb dX12_feed_62 rfl (lv_at hl 1 rfl) ?_
  refine g_get (C := RX12) (T := TX12) (N := 29) (ci := 12) (v := .ref a4) FC hKn hP i_X12 0 rfl rfl 4 (by decide) b_448 rfl dX12_feed_63 ?_
  refine lv_aload_n hx hb dX12_feed_66 rfl (lv_at hl 1 rfl) ?_
  refine g_get (C := RX12) (T := TX12) (N := 29) (ci := 12) (v := .int 0) FC hKn hP i_X12 0 rfl rfl 5 (by decide) b_439 rfl dX12_feed_67 ?_
  refine lv_iload hx hb dX12_feed_70 (lv_at hl 0 rfl) ?_
  refine lv_iadd hx hb dX12_feed_72 ?_
  refine tp_i (v := 11) (by decide) ?_
  refine lv_aload_n hx hb dX12_feed_73 rfl (lv_at hl 1 rfl) ?_
  refine g_get (C := RX12) (T := TX12) (N := 29) (ci := 12) (v := .ref a6) FC hKn hP i_X12 0 rfl rfl 6 (by decide) b_447 rfl dX12_feed_74 ?_
  refine lv_iload hx hb dX12_feed_77 (lv_at hl 0 rfl) ?_
  refine lv_iconst (v := 4) hx hb dX12_feed_79 (by decide) ?_
  refine lv_idiv hx hb dX12_feed_80 (by decide) ?_
  refine tp_i (v := 2) (by decide) ?_
  refine va_iald hx hb hKn.1 hP 2 0 rfl rfl (by unfold vp_in; decide) dX12_feed_81 ?_
  refine lv_topi (fun z50 e_z50 => ?_)
  refine lv_bipush (v := 24) hx hb dX12_feed_82 (by decide) ?_
  refine lv_bipush (v := 8) hx hb dX12_feed_84 (by decide) ?_
  refine lv_iload hx hb dX12_feed_86 (lv_at hl 0 rfl) ?_
  refine lv_iconst (v := 4) hx hb dX12_feed_88 (by decide) ?_
  refine lv_irem hx hb dX12_feed_89 (by decide) ?_
  refine tp_i (v := 3) (by decide) ?_
  refine lv_imul hx hb dX12_feed_90 ?_
  refine tp_i (v := 24) (by decide) ?_
  refine lv_isub hx hb dX12_feed_91 ?_
  refine tp_i (v := 0) (by decide) ?_
  refine lv_ishr hx hb dX12_feed_92 ?_
  refine lv_topi (fun z51 e_z51 => ?_)
  refine lv_i2b hx hb dX12_feed_93 rfl ?_
  refine lv_topi (fun z52 e_z52 => ?_)
  refine va_bast hx hb hKn.1 hP hD hS 1 1 rfl rfl (by unfold vp_in; decide) dX12_feed_94 (fun H locs hP hD hS => ?_)
  have hP : va_P g.1 vwCl [(h0, .inr (12, [.int 0, .ref a1, .ref a2, .ref a3, .ref a4, .int 0, .ref a6, .int 0, .int 0, .int 0, .int 0, .int 0, .int 0, .int (-1), .ref a14, .ref a15, .int 0, .int 0, .int 0, .ref a19, .ref a20, .int 0, .int 0, .ref a23, .ref a24, .ref a25, .ref a26, .ref a27, .ref a28])), (a4, .inl (g.2 1, 900, .inl (upd f49 ((11 : Int32).toNatClampNeg) (vp_nar .byte z52)))), (a6, .inl (g.2 0, 5, .inl f5))] H := hP
  have hD : va_D A [(h0, .inr (12, [.int 0, .ref a1, .ref a2, .ref a3, .ref a4, .int 0, .ref a6, .int 0, .int 0, .int 0, .int 0, .int 0, .int 0, .int (-1), .ref a14, .ref a15, .int 0, .int 0, .int 0, .ref a19, .ref a20, .int 0, .int 0, .ref a23, .ref a24, .ref a25, .ref a26, .ref a27, .ref a28])), (a4, .inl (g.2 1, 900, .inl (upd f49 ((11 : Int32).toNatClampNeg) (vp_nar .byte z52)))), (a6, .inl (g.2 0, 5, .inl f5))] := hD
  generalize (upd f49 ((11 : Int32).toNatClampNeg) (vp_nar .byte z52) : Nat → Int32) = f53 at hP hD
  refine lv_iinc (v := 12) (lv' := [(6, .int 12), (0, .ref h0), (1, .int p1), (2, .int p2), (3, .int p3), (4, .int p4), (5, .int p5)]) hx hb dX12_feed_95 hl (k := 0) rfl (by decide) (by decide) rfl (fun ls hl => ?_)
  refine lv_goto (tgt := 55) hx hb dX12_feed_98 (by decide) ?_
  refine lv_iload hx hb dX12_feed_55 (lv_at hl 0 rfl) ?_
  refine lv_bipush (v := 20) hx hb dX12_feed_57 (by decide) ?_
  refine lv_icmp_ge (tgt := 101) hx hb dX12_feed_59 (by decide) (fun h => absurd h (by decide)) (fun _ => ?_)
  refine lv_aload_n hx hb dX12_feed_62 rfl (lv_at hl 1 rfl) ?_
  refine g_get (C := RX12) (T := TX12) (N := 29) (ci := 12) (v := .ref a4) FC hKn hP i_X12 0 rfl rfl 4 (by decide) b_448 rfl dX12_feed_63 ?_
  refine lv_aload_n hx hb dX12_feed_66 rfl (lv_at hl 1 rfl) ?_
  refine g_get (C := RX12) (T := TX12) (N := 29) (ci := 12) (v := .int 0) FC hKn hP i_X12 0 rfl rfl 5 (by decide) b_439 rfl dX12_feed_67 ?_
  refine lv_iload hx hb dX12_feed_70 (lv_at hl 0 rfl) ?_
  refine lv_iadd hx hb dX12_feed_72 ?_
  refine tp_i (v := 12) (by decide) ?_
  refine lv_aload_n hx hb dX12_feed_73 rfl (lv_at hl 1 rfl) ?_
  refine g_get (C := RX12) (T := TX12) (N := 29) (ci := 12) (v := .ref a6) FC hKn hP i_X12 0 rfl rfl 6 (by decide) b_447 rfl dX12_feed_74 ?_
  refine lv_iload hx hb dX12_feed_77 (lv_at hl 0 rfl) ?_
  refine lv_iconst (v := 4) hx hb dX12_feed_79 (by decide) ?_
  refine lv_idiv hx hb dX12_feed_80 (by decide) ?_
  refine tp_i (v := 3) (by decide) ?_
  refine va_iald hx hb hKn.1 hP 2 0 rfl rfl (by unfold vp_in; decide) dX12_feed_81 ?_
  refine lv_topi (fun z54 e_z54 => ?_)
  refine lv_bipush (v := 24) hx hb dX12_feed_82 (by decide) ?_
  refine lv_bipush (v := 8) hx hb dX12_feed_84 (by decide) ?_
  refine lv_iload hx hb dX12_feed_86 (lv_at hl 0 rfl) ?_
  refine lv_iconst (v := 4) hx hb dX12_feed_88 (by decide) ?_
  refine lv_irem hx hb dX12_feed_89 (by decide) ?_
  refine tp_i (v := 0) (by decide) ?_
  refine lv_imul hx hb dX12_feed_90 ?_
  refine tp_i (v := 0) (by decide) ?_
  refine lv_isub hx hb dX12_feed_91 ?_
  refine tp_i (v := 24) (by decide) ?_
  refine lv_ishr hx hb dX12_feed_92 ?_
  refine lv_topi (fun z55 e_z55 => ?_)
  refine lv_i2b hx hb dX12_feed_93 rfl ?_
  refine lv_topi (fun z56 e_z56 => ?_)
  refine va_bast hx hb hKn.1 hP hD hS 1 1 rfl rfl (by unfold vp_in; decide) dX12_feed_94 (fun H locs hP hD hS => ?_)
  have hP : va_P g.1 vwCl [(h0, .inr (12, [.int 0, .ref a1, .ref a2, .ref a3, .ref a4, .int 0, .ref a6, .int 0, .int 0, .int 0, .int 0, .int 0, .int 0, .int (-1), .ref a14, .ref a15, .int 0, .int 0, .int 0, .ref a19, .ref a20, .int 0, .int 0, .ref a23, .ref a24, .ref a25, .ref a26, .ref a27, .ref a28])), (a4, .inl (g.2 1, 900, .inl (upd f53 ((12 : Int32).toNatClampNeg) (vp_nar .byte z56)))), (a6, .inl (g.2 0, 5, .inl f5))] H := hP
  have hD : va_D A [(h0, .inr (12, [.int 0, .ref a1, .ref a2, .ref a3, .ref a4, .int 0, .ref a6, .int 0, .int 0, .int 0, .int 0, .int 0, .int 0, .int (-1), .ref a14, .ref a15, .int 0, .int 0, .int 0, .ref a19, .ref a20, .int 0, .int 0, .ref a23, .ref a24, .ref a25, .ref a26, .ref a27, .ref a28])), (a4, .inl (g.2 1, 900, .inl (upd f53 ((12 : Int32).toNatClampNeg) (vp_nar .byte z56)))), (a6, .inl (g.2 0, 5, .inl f5))] := hD
  generalize (upd f53 ((12 : Int32).toNatClampNeg) (vp_nar .byte z56) : Nat → Int32) = f57 at hP hD
  refine lv_iinc (v := 13) (lv' := [(6, .int 13), (0, .ref h0), (1, .int p1), (2, .int p2), (3, .int p3), (4, .int p4), (5, .int p5)]) hx hb dX12_feed_95 hl (k := 0) rfl (by decide) (by decide) rfl (fun ls hl => ?_)
  refine lv_goto (tgt := 55) hx hb dX12_feed_98 (by decide) ?_
  refine lv_iload hx hb dX12_feed_55 (lv_at hl 0 rfl) ?_
  refine lv_bipush (v := 20) hx hb dX12_feed_57 (by decide) ?_
  refine lv_icmp_ge (tgt := 101) hx hb dX12_feed_59 (by decide) (fun h => absurd h (by decide)) (fun _ => ?_)
  refine lv_aload_n hx hb dX12_feed_62 rfl (lv_at hl 1 rfl) ?_
  refine g_get (C := RX12) (T := TX12) (N := 29) (ci := 12) (v := .ref a4) FC hKn hP i_X12 0 rfl rfl 4 (by decide) b_448 rfl dX12_feed_63 ?_
  refine lv_aload_n hx hb dX12_feed_66 rfl (lv_at hl 1 rfl) ?_
  refine g_get (C := RX12) (T := TX12) (N := 29) (ci := 12) (v := .int 0) FC hKn hP i_X12 0 rfl rfl 5 (by decide) b_439 rfl dX12_feed_67 ?_
  refine lv_iload hx hb dX12_feed_70 (lv_at hl 0 rfl) ?_
  refine lv_iadd hx hb dX12_feed_72 ?_
  refine tp_i (v := 13) (by decide) ?_
  refine lv_aload_n hx hb dX12_feed_73 rfl (lv_at hl 1 rfl) ?_
  refine g_get (C := RX12) (T := TX12) (N := 29) (ci := 12) (v := .ref a6) FC hKn hP i_X12 0 rfl rfl 6 (by decide) b_447 rfl dX12_feed_74 ?_
  refine lv_iload hx hb dX12_feed_77 (lv_at hl 0 rfl) ?_
  refine lv_iconst (v := 4) hx hb dX12_feed_79 (by decide) ?_
  refine lv_idiv hx hb dX12_feed_80 (by decide) ?_
  refine tp_i (v := 3) (by decide) ?_
  refine va_iald hx hb hKn.1 hP 2 0 rfl rfl (by unfold vp_in; decide) dX12_feed_81 ?_
  refine lv_topi (fun z58 e_z58 => ?_)
  refine lv_bipush (v := 24) hx hb dX12_feed_82 (by decide) ?_
  refine lv_bipush (v := 8) hx hb dX12_feed_84 (by decide) ?_
  refine lv_iload hx hb dX12_feed_86 (lv_at hl 0 rfl) ?_
  refine lv_iconst (v := 4) hx hb dX12_feed_88 (by decide) ?_
  refine lv_irem hx hb dX12_feed_89 (by decide) ?_
  refine tp_i (v := 1) (by decide) ?_
  refine lv_imul hx hb dX12_feed_90 ?_
  refine tp_i (v := 8) (by decide) ?_
  refine lv_isub hx hb dX12_feed_91 ?_
  refine tp_i (v := 16) (by decide) ?_
  refine lv_ishr hx hb dX12_feed_92 ?_
  refine lv_topi (fun z59 e_z59 => ?_)
  refine lv_i2b hx hb dX12_feed_93 rfl ?_
  refine lv_topi (fun z60 e_z60 => ?_)
  refine va_bast hx hb hKn.1 hP hD hS 1 1 rfl rfl (by unfold vp_in; decide) dX12_feed_94 (fun H locs hP hD hS => ?_)
  have hP : va_P g.1 vwCl [(h0, .inr (12, [.int 0, .ref a1, .ref a2, .ref a3, .ref a4, .int 0, .ref a6, .int 0, .int 0, .int 0, .int 0, .int 0, .int 0, .int (-1), .ref a14, .ref a15, .int 0, .int 0, .int 0, .ref a19, .ref a20, .int 0, .int 0, .ref a23, .ref a24, .ref a25, .ref a26, .ref a27, .ref a28])), (a4, .inl (g.2 1, 900, .inl (upd f57 ((13 : Int32).toNatClampNeg) (vp_nar .byte z60)))), (a6, .inl (g.2 0, 5, .inl f5))] H := hP
  have hD : va_D A [(h0, .inr (12, [.int 0, .ref a1, .ref a2, .ref a3, .ref a4, .int 0, .ref a6, .int 0, .int 0, .int 0, .int 0, .int 0, .int 0, .int (-1), .ref a14, .ref a15, .int 0, .int 0, .int 0, .ref a19, .ref a20, .int 0, .int 0, .ref a23, .ref a24, .ref a25, .ref a26, .ref a27, .ref a28])), (a4, .inl (g.2 1, 900, .inl (upd f57 ((13 : Int32).toNatClampNeg) (vp_nar .byte z60)))), (a6, .inl (g.2 0, 5, .inl f5))] := hD
  generalize (upd f57 ((13 : Int32).toNatClampNeg) (vp_nar .byte z60) : Nat → Int32) = f61 at hP hD
  refine lv_iinc (v := 14) (lv' := [(6, .int 14), (0, .ref h0), (1, .int p1), (2, .int p2), (3, .int p3), (4, .int p4), (5, .int p5)]) hx hb dX12_feed_95 hl (k := 0) rfl (by decide) (by decide) rfl (fun ls hl => ?_)
  refine lv_goto (tgt := 55) hx hb dX12_feed_98 (by decide) ?_
  refine lv_iload hx hb dX12_feed_55 (lv_at hl 0 rfl) ?_
  refine lv_bipush (v := 20) hx hb dX12_feed_57 (by decide) ?_
  refine lv_icmp_ge (tgt := 101) hx hb dX12_feed_59 (by decide) (fun h => absurd h (by decide)) (fun _ => ?_)
  refine lv_aload_n hx hb dX12_feed_62 rfl (lv_at hl 1 rfl) ?_
  refine g_get (C := RX12) (T := TX12) (N := 29) (ci := 12) (v := .ref a4) FC hKn hP i_X12 0 rfl rfl 4 (by decide) b_448 rfl dX12_feed_63 ?_
  refine lv_aload_n hx hb dX12_feed_66 rfl (lv_at hl 1 rfl) ?_
  refine g_get (C := RX12) (T := TX12) (N := 29) (ci := 12) (v := .int 0) FC hKn hP i_X12 0 rfl rfl 5 (by decide) b_439 rfl dX12_feed_67 ?_
  refine lv_iload hx hb dX12_feed_70 (lv_at hl 0 rfl) ?_
  refine lv_iadd hx hb dX12_feed_72 ?_
  refine tp_i (v := 14) (by decide) ?_
  refine lv_aload_n hx hb dX12_feed_73 rfl (lv_at hl 1 rfl) ?_
  refine g_get (C := RX12) (T := TX12) (N := 29) (ci := 12) (v := .ref a6) FC hKn hP i_X12 0 rfl rfl 6 (by decide) b_447 rfl dX12_feed_74 ?_
  refine lv_iload hx hb dX12_feed_77 (lv_at hl 0 rfl) ?_
  refine lv_iconst (v := 4) hx hb dX12_feed_79 (by decide) ?_
  refine lv_idiv hx hb dX12_feed_80 (by decide) ?_
  refine tp_i (v := 3) (by decide) ?_
  refine va_iald hx hb hKn.1 hP 2 0 rfl rfl (by unfold vp_in; decide) dX12_feed_81 ?_
  refine lv_topi (fun z62 e_z62 => ?_)
  refine lv_bipush (v := 24) hx hb dX12_feed_82 (by decide) ?_
  refine lv_bipush (v := 8) hx hb dX12_feed_84 (by decide) ?_
  refine lv_iload hx hb dX12_feed_86 (lv_at hl 0 rfl) ?_
  refine lv_iconst (v := 4) hx hb dX12_feed_88 (by decide) ?_
  refine lv_irem hx hb dX12_feed_89 (by decide) ?_
  refine tp_i (v := 2) (by decide) ?_
  refine lv_imul hx hb dX12_feed_90 ?_
  refine tp_i (v := 16) (by decide) ?_
  refine lv_isub hx hb dX12_feed_91 ?_
  refine tp_i (v := 8) (by decide) ?_
  refine lv_ishr hx hb dX12_feed_92 ?_
  refine lv_topi (fun z63 e_z63 => ?_)
  refine lv_i2b hx hb dX12_feed_93 rfl ?_
  refine lv_topi (fun z64 e_z64 => ?_)
  refine va_bast hx hb hKn.1 hP hD hS 1 1 rfl rfl (by unfold vp_in; decide) dX12_feed_94 (fun H locs hP hD hS => ?_)
  have hP : va_P g.1 vwCl [(h0, .inr (12, [.int 0, .ref a1, .ref a2, .ref a3, .ref a4, .int 0, .ref a6, .int 0, .int 0, .int 0, .int 0, .int 0, .int 0, .int (-1), .ref a14, .ref a15, .int 0, .int 0, .int 0, .ref a19, .ref a20, .int 0, .int 0, .ref a23, .ref a24, .ref a25, .ref a26, .ref a27, .ref a28])), (a4, .inl (g.2 1, 900, .inl (upd f61 ((14 : Int32).toNatClampNeg) (vp_nar .byte z64)))), (a6, .inl (g.2 0, 5, .inl f5))] H := hP
  have hD : va_D A [(h0, .inr (12, [.int 0, .ref a1, .ref a2, .ref a3, .ref a4, .int 0, .ref a6, .int 0, .int 0, .int 0, .int 0, .int 0, .int 0, .int (-1), .ref a14, .ref a15, .int 0, .int 0, .int 0, .ref a19, .ref a20, .int 0, .int 0, .ref a23, .ref a24, .ref a25, .ref a26, .ref a27, .ref a28])), (a4, .inl (g.2 1, 900, .inl (upd f61 ((14 : Int32).toNatClampNeg) (vp_nar .byte z64)))), (a6, .inl (g.2 0, 5, .inl f5))] := hD
  generalize (upd f61 ((14 : Int32).toNatClampNeg) (vp_nar .byte z64) : Nat → Int32) = f65 at hP hD
  refine lv_iinc (v := 15) (lv' := [(6, .int 15), (0, .ref h0), (1, .int p1), (2, .int p2), (3, .int p3), (4, .int p4), (5, .int p5)]) hx hb dX12_feed_95 hl (k := 0) rfl (by decide) (by decide) rfl (fun ls hl => ?_)
  refine lv_goto (tgt := 55) hx hb dX12_feed_98 (by decide) ?_
  refine lv_iload hx hb dX12_feed_55 (lv_at hl 0 rfl) ?_
  refine lv_bipush (v := 20) hx hb dX12_feed_57 (by decide) ?_
  refine lv_icmp_ge (tgt := 101) hx hb dX12_feed_59 (by decide) (fun h => absurd h (by decide)) (fun _ => ?_)
  refine lv_aload_n hx hb dX12_feed_62 rfl (lv_at hl 1 rfl) ?_
  refine g_get (C := RX12) (T := TX12) (N := 29) (ci := 12) (v := .ref a4) FC hKn hP i_X12 0 rfl rfl 4 (by decide) b_448 rfl dX12_feed_63 ?_
  refine lv_aload_n hx hb dX12_feed_66 rfl (lv_at hl 1 rfl) ?_
  refine g_get (C := RX12) (T := TX12) (N := 29) (ci := 12) (v := .int 0) FC hKn hP i_X12 0 rfl rfl 5 (by decide) b_439 rfl dX12_feed_67 ?_
  refine lv_iload hx hb dX12_feed_70 (lv_at hl 0 rfl) ?_
  refine lv_iadd hx hb dX12_feed_72 ?_
  refine tp_i (v := 15) (by decide) ?_
  refine lv_aload_n hx hb dX12_feed_73 rfl (lv_at hl 1 rfl) ?_
  refine g_get (C := RX12) (T := TX12) (N := 29) (ci := 12) (v := .ref a6) FC hKn hP i_X12 0 rfl rfl 6 (by decide) b_447 rfl dX12_feed_74 ?_
  refine lv_iload hx hb dX12_feed_77 (lv_at hl 0 rfl) ?_
  refine lv_iconst (v := 4) hx hb dX12_feed_79 (by decide) ?_
  refine lv_idiv hx hb dX12_feed_80 (by decide) ?_
  refine tp_i (v := 3) (by decide) ?_
  refine va_iald hx hb hKn.1 hP 2 0 rfl rfl (by unfold vp_in; decide) dX12_feed_81 ?_
  refine lv_topi (fun z66 e_z66 => ?_)
  refine lv_bipush (v := 24) hx hb dX12_feed_82 (by decide) ?_
  refine lv_bipush (v := 8) hx hb dX12_feed_84 (by decide) ?_
  refine lv_iload hx hb dX12_feed_86 (lv_at hl 0 rfl) ?_
  refine lv_iconst (v := 4) hx hb dX12_feed_88 (by decide) ?_
  refine lv_irem hx hb dX12_feed_89 (by decide) ?_
  refine tp_i (v := 3) (by decide) ?_
  refine lv_imul hx hb dX12_feed_90 ?_
  refine tp_i (v := 24) (by decide) ?_
  refine lv_isub hx hb dX12_feed_91 ?_
  refine tp_i (v := 0) (by decide) ?_
  refine lv_ishr hx hb dX12_feed_92 ?_
  refine lv_topi (fun z67 e_z67 => ?_)
  refine lv_i2b hx hb dX12_feed_93 rfl ?_
  refine lv_topi (fun z68 e_z68 => ?_)
  refine va_bast hx hb hKn.1 hP hD hS 1 1 rfl rfl (by unfold vp_in; decide) dX12_feed_94 (fun H locs hP hD hS => ?_)
  have hP : va_P g.1 vwCl [(h0, .inr (12, [.int 0, .ref a1, .ref a2, .ref a3, .ref a4, .int 0, .ref a6, .int 0, .int 0, .int 0, .int 0, .int 0, .int 0, .int (-1), .ref a14, .ref a15, .int 0, .int 0, .int 0, .ref a19, .ref a20, .int 0, .int 0, .ref a23, .ref a24, .ref a25, .ref a26, .ref a27, .ref a28])), (a4, .inl (g.2 1, 900, .inl (upd f65 ((15 : Int32).toNatClampNeg) (vp_nar .byte z68)))), (a6, .inl (g.2 0, 5, .inl f5))] H := hP
  have hD : va_D A [(h0, .inr (12, [.int 0, .ref a1, .ref a2, .ref a3, .ref a4, .int 0, .ref a6, .int 0, .int 0, .int 0, .int 0, .int 0, .int 0, .int (-1), .ref a14, .ref a15, .int 0, .int 0, .int 0, .ref a19, .ref a20, .int 0, .int 0, .ref a23, .ref a24, .ref a25, .ref a26, .ref a27, .ref a28])), (a4, .inl (g.2 1, 900, .inl (upd f65 ((15 : Int32).toNatClampNeg) (vp_nar .byte z68)))), (a6, .inl (g.2 0, 5, .inl f5))] := hD
  generalize (upd f65 ((15 : Int32).toNatClampNeg) (vp_nar .byte z68) : Nat → Int32) = f69 at hP hD
  refine lv_iinc (v := 16) (lv' := [(6, .int 16), (0, .ref h0), (1, .int p1), (2, .int p2), (3, .int p3), (4, .int p4), (5, .int p5)]) hx hb dX12_feed_95 hl (k := 0) rfl (by decide) (by decide) rfl (fun ls hl => ?_)
  refine lv_goto (tgt := 55) hx hb dX12_feed_98 (by decide) ?_
  refine lv_iload hx hb dX12_feed_55 (lv_at hl 0 rfl) ?_
  refine lv_bipush (v := 20) hx hb dX12_feed_57 (by decide) ?_
  refine lv_icmp_ge (tgt := 101) hx hb dX12_feed_59 (by decide) (fun h => absurd h (by decide)) (fun _ => ?_)
  refine lv_aload_n hx hb dX12_feed_62 rfl (lv_at hl 1 rfl) ?_
  refine g_get (C := RX12) (T := TX12) (N := 29) (ci := 12) (v := .ref a4) FC hKn hP i_X12 0 rfl rfl 4 (by decide) b_448 rfl dX12_feed_63 ?_
  refine lv_aload_n hx hb dX12_feed_66 rfl (lv_at hl 1 rfl) ?_
  refine g_get (C := RX12) (T := TX12) (N := 29) (ci := 12) (v := .int 0) FC hKn hP i_X12 0 rfl rfl 5 (by decide) b_439 rfl dX12_feed_67 ?_
  refine lv_iload hx hb dX12_feed_70 (lv_at hl 0 rfl) ?_
  refine lv_iadd hx hb dX12_feed_72 ?_
  refine tp_i (v := 16) (by decide) ?_
  refine lv_aload_n hx hb dX12_feed_73 rfl (lv_at hl 1 rfl) ?_
  refine g_get (C := RX12) (T := TX12) (N := 29) (ci := 12) (v := .ref a6) FC hKn hP i_X12 0 rfl rfl 6 (by decide) b_447 rfl dX12_feed_74 ?_
  refine lv_iload hx hb dX12_feed_77 (lv_at hl 0 rfl) ?_
  refine lv_iconst (v := 4) hx hb dX12_feed_79 (by decide) ?_
  refine lv_idiv hx hb dX12_feed_80 (by decide) ?_
  refine tp_i (v := 4) (by decide) ?_
  refine va_iald hx hb hKn.1 hP 2 0 rfl rfl (by unfold vp_in; decide) dX12_feed_81 ?_
  refine lv_topi (fun z70 e_z70 => ?_)
  refine lv_bipush (v := 24) hx hb dX12_feed_82 (by decide) ?_
  refine lv_bipush (v := 8) hx hb dX12_feed_84 (by decide) ?_
  refine lv_iload hx hb dX12_feed_86 (lv_at hl 0 rfl) ?_
  refine lv_iconst (v := 4) hx hb dX12_feed_88 (by decide) ?_
  refine lv_irem hx hb dX12_feed_89 (by decide) ?_
  refine tp_i (v := 0) (by decide) ?_
  refine lv_imul hx hb dX12_feed_90 ?_
  refine tp_i (v := 0) (by decide) ?_
  refine lv_isub hx hb dX12_feed_91 ?_
  refine tp_i (v := 24) (by decide) ?_
  refine lv_ishr hx hb dX12_feed_92 ?_
  refine lv_topi (fun z71 e_z71 => ?_)
  refine lv_i2b hx hb dX12_feed_93 rfl ?_
  refine lv_topi (fun z72 e_z72 => ?_)
  refine va_bast hx hb hKn.1 hP hD hS 1 1 rfl rfl (by unfold vp_in; decide) dX12_feed_94 (fun H locs hP hD hS => ?_)
  have hP : va_P g.1 vwCl [(h0, .inr (12, [.int 0, .ref a1, .ref a2, .ref a3, .ref a4, .int 0, .ref a6, .int 0, .int 0, .int 0, .int 0, .int 0, .int 0, .int (-1), .ref a14, .ref a15, .int 0, .int 0, .int 0, .ref a19, .ref a20, .int 0, .int 0, .ref a23, .ref a24, .ref a25, .ref a26, .ref a27, .ref a28])), (a4, .inl (g.2 1, 900, .inl (upd f69 ((16 : Int32).toNatClampNeg) (vp_nar .byte z72)))), (a6, .inl (g.2 0, 5, .inl f5))] H := hP
  have hD : va_D A [(h0, .inr (12, [.int 0, .ref a1, .ref a2, .ref a3, .ref a4, .int 0, .ref a6, .int 0, .int 0, .int 0, .int 0, .int 0, .int 0, .int (-1), .ref a14, .ref a15, .int 0, .int 0, .int 0, .ref a19, .ref a20, .int 0, .int 0, .ref a23, .ref a24, .ref a25, .ref a26, .ref a27, .ref a28])), (a4, .inl (g.2 1, 900, .inl (upd f69 ((16 : Int32).toNatClampNeg) (vp_nar .byte z72)))), (a6, .inl (g.2 0, 5, .inl f5))] := hD
  generalize (upd f69 ((16 : Int32).toNatClampNeg) (vp_nar .byte z72) : Nat → Int32) = f73 at hP hD
  refine lv_iinc (v := 17) (lv' := [(6, .int 17), (0, .ref h0), (1, .int p1), (2, .int p2), (3, .int p3), (4, .int p4), (5, .int p5)]) hx hb dX12_feed_95 hl (k := 0) rfl (by decide) (by decide) rfl (fun ls hl => ?_)
  refine lv_goto (tgt := 55) hx hb dX12_feed_98 (by decide) ?_
  refine lv_iload hx hb dX12_feed_55 (lv_at hl 0 rfl) ?_
  refine lv_bipush (v := 20) hx hb dX12_feed_57 (by decide) ?_
  refine lv_icmp_ge (tgt := 101) hx hb dX12_feed_59 (by decide) (fun h => absurd h (by decide)) (fun _ => ?_)
  refine lv_aload_n hx hb dX12_feed_62 rfl (lv_at hl 1 rfl) ?_
  refine g_get (C := RX12) (T := TX12) (N := 29) (ci := 12) (v := .ref a4) FC hKn hP i_X12 0 rfl rfl 4 (by decide) b_448 rfl dX12_feed_63 ?_
  refine lv_aload_n hx hb dX12_feed_66 rfl (lv_at hl 1 rfl) ?_
  refine g_get (C := RX12) (T := TX12) (N := 29) (ci := 12) (v := .int 0) FC hKn hP i_X12 0 rfl rfl 5 (by decide) b_439 rfl dX12_feed_67 ?_
  refine lv_iload hx hb dX12_feed_70 (lv_at hl 0 rfl) ?_
  refine lv_iadd hx hb dX12_feed_72 ?_
  refine tp_i (v := 17) (by decide) ?_
  refine lv_aload_n hx hb dX12_feed_73 rfl (lv_at hl 1 rfl) ?_
  refine g_get (C := RX12) (T := TX12) (N := 29) (ci := 12) (v := .ref a6) FC hKn hP i_X12 0 rfl rfl 6 (by decide) b_447 rfl dX12_feed_74 ?_
  refine lv_iload hx hb dX12_feed_77 (lv_at hl 0 rfl) ?_
  refine lv_iconst (v := 4) hx hb dX12_feed_79 (by decide) ?_
  refine lv_idiv hx hb dX12_feed_80 (by decide) ?_
  refine tp_i (v := 4) (by decide) ?_
  refine va_iald hx hb hKn.1 hP 2 0 rfl rfl (by unfold vp_in; decide) dX12_feed_81 ?_
  refine lv_topi (fun z74 e_z74 => ?_)
  refine lv_bipush (v := 24) hx hb dX12_feed_82 (by decide) ?_
  refine lv_bipush (v := 8) hx hb dX12_feed_84 (by decide) ?_
  refine lv_iload hx hb dX12_feed_86 (lv_at hl 0 rfl) ?_
  refine lv_iconst (v := 4) hx hb dX12_feed_88 (by decide) ?_
  refine lv_irem hx hb dX12_feed_89 (by decide) ?_
  refine tp_i (v := 1) (by decide) ?_
  refine lv_imul hx hb dX12_feed_90 ?_
  refine tp_i (v := 8) (by decide) ?_
  refine lv_isub hx hb dX12_feed_91 ?_
  refine tp_i (v := 16) (by decide) ?_
  refine lv_ishr hx hb dX12_feed_92 ?_
  refine lv_topi (fun z75 e_z75 => ?_)
  refine lv_i2b hx hb dX12_feed_93 rfl ?_
  refine lv_topi (fun z76 e_z76 => ?_)
  refine va_bast hx hb hKn.1 hP hD hS 1 1 rfl rfl (by unfold vp_in; decide) dX12_feed_94 (fun H locs hP hD hS => ?_)
  have hP : va_P g.1 vwCl [(h0, .inr (12, [.int 0, .ref a1, .ref a2, .ref a3, .ref a4, .int 0, .ref a6, .int 0, .int 0, .int 0, .int 0, .int 0, .int 0, .int (-1), .ref a14, .ref a15, .int 0, .int 0, .int 0, .ref a19, .ref a20, .int 0, .int 0, .ref a23, .ref a24, .ref a25, .ref a26, .ref a27, .ref a28])), (a4, .inl (g.2 1, 900, .inl (upd f73 ((17 : Int32).toNatClampNeg) (vp_nar .byte z76)))), (a6, .inl (g.2 0, 5, .inl f5))] H := hP
  have hD : va_D A [(h0, .inr (12, [.int 0, .ref a1, .ref a2, .ref a3, .ref a4, .int 0, .ref a6, .int 0, .int 0, .int 0, .int 0, .int 0, .int 0, .int (-1), .ref a14, .ref a15, .int 0, .int 0, .int 0, .ref a19, .ref a20, .int 0, .int 0, .ref a23, .ref a24, .ref a25, .ref a26, .ref a27, .ref a28])), (a4, .inl (g.2 1, 900, .inl (upd f73 ((17 : Int32).toNatClampNeg) (vp_nar .byte z76)))), (a6, .inl (g.2 0, 5, .inl f5))] := hD
  generalize (upd f73 ((17 : Int32).toNatClampNeg) (vp_nar .byte z76) : Nat → Int32) = f77 at hP hD
  refine lv_iinc (v := 18) (lv' := [(6, .int 18), (0, .ref h0), (1, .int p1), (2, .int p2), (3, .int p3), (4, .int p4), (5, .int p5)]) hx hb dX12_feed_95 hl (k := 0) rfl (by decide) (by decide) rfl (fun ls hl => ?_)
  refine lv_goto (tgt := 55) hx hb dX12_feed_98 (by decide) ?_
  refine lv_iload hx hb dX12_feed_55 (lv_at hl 0 rfl) ?_
  refine lv_bipush (v := 20) hx hb dX12_feed_57 (by decide) ?_
  refine lv_icmp_ge (tgt := 101) hx hb dX12_feed_59 (by decide) (fun h => absurd h (by decide)) (fun _ => ?_)
  refine lv_aload_n hx hb dX12_feed_62 rfl (lv_at hl 1 rfl) ?_
  refine g_get (C := RX12) (T := TX12) (N := 29) (ci := 12) (v := .ref a4) FC hKn hP i_X12 0 rfl rfl 4 (by decide) b_448 rfl dX12_feed_63 ?_
  refine lv_aload_n hx hb dX12_feed_66 rfl (lv_at hl 1 rfl) ?_
  refine g_get (C := RX12) (T := TX12) (N := 29) (ci := 12) (v := .int 0) FC hKn hP i_X12 0 rfl rfl 5 (by decide) b_439 rfl dX12_feed_67 ?_
  refine lv_iload hx hb dX12_feed_70 (lv_at hl 0 rfl) ?_
  refine lv_iadd hx hb dX12_feed_72 ?_
  refine tp_i (v := 18) (by decide) ?_
  refine lv_aload_n hx hb dX12_feed_73 rfl (lv_at hl 1 rfl) ?_
  refine g_get (C := RX12) (T := TX12) (N := 29) (ci := 12) (v := .ref a6) FC hKn hP i_X12 0 rfl rfl 6 (by decide) b_447 rfl dX12_feed_74 ?_
  refine lv_iload hx hb dX12_feed_77 (lv_at hl 0 rfl) ?_
  refine lv_iconst (v := 4) hx hb dX12_feed_79 (by decide) ?_
  refine lv_idiv hx hb dX12_feed_80 (by decide) ?_
  refine tp_i (v := 4) (by decide) ?_
  refine va_iald hx hb hKn.1 hP 2 0 rfl rfl (by unfold vp_in; decide) dX12_feed_81 ?_
  refine lv_topi (fun z78 e_z78 => ?_)
  refine lv_bipush (v := 24) hx hb dX12_feed_82 (by decide) ?_
  refine lv_bipush (v := 8) hx hb dX12_feed_84 (by decide) ?_
  refine lv_iload hx hb dX12_feed_86 (lv_at hl 0 rfl) ?_
  refine lv_iconst (v := 4) hx hb dX12_feed_88 (by decide) ?_
  refine lv_irem hx hb dX12_feed_89 (by decide) ?_
  refine tp_i (v := 2) (by decide) ?_
  refine lv_imul hx hb dX12_feed_90 ?_
  refine tp_i (v := 16) (by decide) ?_
  refine lv_isub hx hb dX12_feed_91 ?_
  refine tp_i (v := 8) (by decide) ?_
  refine lv_ishr hx hb dX12_feed_92 ?_
  refine lv_topi (fun z79 e_z79 => ?_)
  refine lv_i2b hx hb dX12_feed_93 rfl ?_
  refine lv_topi (fun z80 e_z80 => ?_)
  refine va_bast hx hb hKn.1 hP hD hS 1 1 rfl rfl (by unfold vp_in; decide) dX12_feed_94 (fun H locs hP hD hS => ?_)
  have hP : va_P g.1 vwCl [(h0, .inr (12, [.int 0, .ref a1, .ref a2, .ref a3, .ref a4, .int 0, .ref a6, .int 0, .int 0, .int 0, .int 0, .int 0, .int 0, .int (-1), .ref a14, .ref a15, .int 0, .int 0, .int 0, .ref a19, .ref a20, .int 0, .int 0, .ref a23, .ref a24, .ref a25, .ref a26, .ref a27, .ref a28])), (a4, .inl (g.2 1, 900, .inl (upd f77 ((18 : Int32).toNatClampNeg) (vp_nar .byte z80)))), (a6, .inl (g.2 0, 5, .inl f5))] H := hP
  have hD : va_D A [(h0, .inr (12, [.int 0, .ref a1, .ref a2, .ref a3, .ref a4, .int 0, .ref a6, .int 0, .int 0, .int 0, .int 0, .int 0, .int 0, .int (-1), .ref a14, .ref a15, .int 0, .int 0, .int 0, .ref a19, .ref a20, .int 0, .int 0, .ref a23, .ref a24, .ref a25, .ref a26, .ref a27, .ref a28])), (a4, .inl (g.2 1, 900, .inl (upd f77 ((18 : Int32).toNatClampNeg) (vp_nar .byte z80)))), (a6, .inl (g.2 0, 5, .inl f5))] := hD
  generalize (upd f77 ((18 : Int32).toNatClampNeg) (vp_nar .byte z80) : Nat → Int32) = f81 at hP hD
  refine lv_iinc (v := 19) (lv' := [(6, .int 19), (0, .ref h0), (1, .int p1), (2, .int p2), (3, .int p3), (4, .int p4), (5, .int p5)]) hx hb dX12_feed_95 hl (k := 0) rfl (by decide) (by decide) rfl (fun ls hl => ?_)
  refine lv_goto (tgt := 55) hx hb dX12_feed_98 (by decide) ?_
  refine lv_iload hx hb dX12_feed_55 (lv_at hl 0 rfl) ?_
  refine lv_bipush (v := 20) hx hb dX12_feed_57 (by decide) ?_
  refine lv_icmp_ge (tgt := 101) hx hb dX12_feed_59 (by decide) (fun h => absurd h (by decide)) (fun _ => ?_)
  refine lv_aload_n hx hb dX12_feed_62 rfl (lv_at hl 1 rfl) ?_
  refine g_get (C := RX12) (T := TX12) (N := 29) (ci := 12) (v := .ref a4) FC hKn hP i_X12 0 rfl rfl 4 (by decide) b_448 rfl dX12_feed_63 ?_
  refine lv_aload_n hx hb dX12_feed_66 rfl (lv_at hl 1 rfl) ?_
  refine g_get (C := RX12) (T := TX12) (N := 29) (ci := 12) (v := .int 0) FC hKn hP i_X12 0 rfl rfl 5 (by decide) b_439 rfl dX12_feed_67 ?_
  refine lv_iload hx hb dX12_feed_70 (lv_at hl 0 rfl) ?_
  refine lv_iadd hx hb dX12_feed_72 ?_
  refine tp_i (v := 19) (by decide) ?_
  refine lv_aload_n hx hb dX12_feed_73 rfl (lv_at hl 1 rfl) ?_
  refine g_get (C := RX12) (T := TX12) (N := 29) (ci := 12) (v := .ref a6) FC hKn hP i_X12 0 rfl rfl 6 (by decide) b_447 rfl dX12_feed_74 ?_
  refine lv_iload hx hb dX12_feed_77 (lv_at hl 0 rfl) ?_
  refine lv_iconst (v := 4) hx hb dX12_feed_79 (by decide) ?_
  refine lv_idiv hx hb dX12_feed_80 (by decide) ?_
  refine tp_i (v := 4) (by decide) ?_
  refine va_iald hx hb hKn.1 hP 2 0 rfl rfl (by unfold vp_in; decide) dX12_feed_81 ?_
  refine lv_topi (fun z82 e_z82 => ?_)
  refine lv_bipush (v := 24) hx hb dX12_feed_82 (by decide) ?_
  refine lv_bipush (v := 8) hx hb dX12_feed_84 (by decide) ?_
  refine lv_iload hx hb dX12_feed_86 (lv_at hl 0 rfl) ?_
  refine lv_iconst (v := 4) hx hb dX12_feed_88 (by decide) ?_
  refine lv_irem hx hb dX12_feed_89 (by decide) ?_
  refine tp_i (v := 3) (by decide) ?_
  refine lv_imul hx hb dX12_feed_90 ?_
  refine tp_i (v := 24) (by decide) ?_
  refine lv_isub hx hb dX12_feed_91 ?_
  refine tp_i (v := 0) (by decide) ?_
  refine lv_ishr hx hb dX12_feed_92 ?_
  refine lv_topi (fun z83 e_z83 => ?_)
  refine lv_i2b hx hb dX12_feed_93 rfl ?_
  refine lv_topi (fun z84 e_z84 => ?_)
  refine va_bast hx hb hKn.1 hP hD hS 1 1 rfl rfl (by unfold vp_in; decide) dX12_feed_94 (fun H locs hP hD hS => ?_)
  have hP : va_P g.1 vwCl [(h0, .inr (12, [.int 0, .ref a1, .ref a2, .ref a3, .ref a4, .int 0, .ref a6, .int 0, .int 0, .int 0, .int 0, .int 0, .int 0, .int (-1), .ref a14, .ref a15, .int 0, .int 0, .int 0, .ref a19, .ref a20, .int 0, .int 0, .ref a23, .ref a24, .ref a25, .ref a26, .ref a27, .ref a28])), (a4, .inl (g.2 1, 900, .inl (upd f81 ((19 : Int32).toNatClampNeg) (vp_nar .byte z84)))), (a6, .inl (g.2 0, 5, .inl f5))] H := hP
  have hD : va_D A [(h0, .inr (12, [.int 0, .ref a1, .ref a2, .ref a3, .ref a4, .int 0, .ref a6, .int 0, .int 0, .int 0, .int 0, .int 0, .int 0, .int (-1), .ref a14, .ref a15, .int 0, .int 0, .int 0, .ref a19, .ref a20, .int 0, .int 0, .ref a23, .ref a24, .ref a25, .ref a26, .ref a27, .ref a28])), (a4, .inl (g.2 1, 900, .inl (upd f81 ((19 : Int32).toNatClampNeg) (vp_nar .byte z84)))), (a6, .inl (g.2 0, 5, .inl f5))] := hD
  generalize (upd f81 ((19 : Int32).toNatClampNeg) (vp_nar .byte z84) : Nat → Int32) = f85 at hP hD
  refine lv_iinc (v := 20) (lv' := [(6, .int 20), (0, .ref h0), (1, .int p1), (2, .int p2), (3, .int p3), (4, .int p4), (5, .int p5)]) hx hb dX12_feed_95 hl (k := 0) rfl (by decide) (by decide) rfl (fun ls hl => ?_)
  refine lv_goto (tgt := 55) hx hb dX12_feed_98 (by decide) ?_
  refine lv_iload hx hb dX12_feed_55 (lv_at hl 0 rfl) ?_
  refine lv_bipush (v := 20) hx hb dX12_feed_57 (by decide) ?_
  refine lv_icmp_ge (tgt := 101) hx hb dX12_feed_59 (by decide) (fun _ => ?_) (fun h => absurd h (by decide))
  refine lv_aload_n hx hb dX12_feed_101 rfl (lv_at hl 1 rfl) ?_
  refine lv_dup hx hb dX12_feed_102 rfl ?_
  refine g_get (C := RX12) (T := TX12) (N := 29) (ci := 12) (v := .int 0) FC hKn hP i_X12 0 rfl rfl 5 (by decide) b_439 rfl dX12_feed_103 ?_
  refine lv_bipush (v := 20) hx hb dX12_feed_106 (by decide) ?_
  refine lv_iadd hx hb dX12_feed_108 ?_
  refine tp_i (v := 20) (by decide) ?_
  refine g_put (C := RX12) (T := TX12) (N := 29) (ci := 12) (v := .int 20) FC hKn hP hD hS i_X12 tyX12 tyX12_ok nmX12 0 rfl rfl 5 (by decide) b_439 rfl rfl rfl (Nat.le_of_ble_eq_true rfl) dX12_feed_109 (fun H locs hP hD hS => ?_)
  have hP : va_P g.1 vwCl [(h0, .inr (12, [.int 0, .ref a1, .ref a2, .ref a3, .ref a4, .int 20, .ref a6, .int 0, .int 0, .int 0, .int 0, .int 0, .int 0, .int (-1), .ref a14, .ref a15, .int 0, .int 0, .int 0, .ref a19, .ref a20, .int 0, .int 0, .ref a23, .ref a24, .ref a25, .ref a26, .ref a27, .ref a28])), (a4, .inl (g.2 1, 900, .inl f85)), (a6, .inl (g.2 0, 5, .inl f5))] H := hP
  have hD : va_D A [(h0, .inr (12, [.int 0, .ref a1, .ref a2, .ref a3, .ref a4, .int 20, .ref a6, .int 0, .int 0, .int 0, .int 0, .int 0, .int 0, .int (-1), .ref a14, .ref a15, .int 0, .int 0, .int 0, .ref a19, .ref a20, .int 0, .int 0, .ref a23, .ref a24, .ref a25, .ref a26, .ref a27, .ref a28])), (a4, .inl (g.2 1, 900, .inl f85)), (a6, .inl (g.2 0, 5, .inl f5))] := hD
  refine lv_aload_n hx hb dX12_feed_112 rfl (lv_at hl 1 rfl) ?_
  refine g_get (C := RX12) (T := TX12) (N := 29) (ci := 12) (v := .int 20) FC hKn hP i_X12 0 rfl rfl 5 (by decide) b_439 rfl dX12_feed_113 ?_
  exact rt_i FX () rfl trivial (hP.sub [] rfl) (hD.sub [] (by decide) rfl) hS (Nat.le_of_ble_eq_true rfl) (Nat.le_of_ble_eq_true rfl) dX12_feed_116
set_option maxRecDepth 100000 in
set_option maxHeartbeats 4000000 in
theorem c_X12_see (l : Launch) (g : GG) (h0 : Nat) (a1 : Nat) (a2 : Nat) (a3 : Nat) (a4 : Nat) (a6 : Nat) (a14 : Nat) (a15 : Nat) (a19 : Nat) (a20 : Nat) (a23 : Nat) (a24 : Nat) (a25 : Nat) (a26 : Nat) (a27 : Nat) (a28 : Nat) : Ct l g yX12_see cX12_see 2 (some .int) { frames := 0, cells := 0, slots := 0, locals := 0 } [.ref h0, .int 0] [(h0, .inr (12, [.int 0, .ref a1, .ref a2, .ref a3, .ref a4, .int 0, .ref a6, .int 0, .int 0, .int 0, .int 0, .int 0, .int 0, .int (-1), .ref a14, .ref a15, .int 0, .int 0, .int 0, .ref a19, .ref a20, .int 0, .int 0, .ref a23, .ref a24, .ref a25, .ref a26, .ref a27, .ref a28]))] (S := Unit) (fun _ => some (.int (-1))) (fun _ => True) (fun u => [(h0, .inr (12, [.int 0, .ref a1, .ref a2, .ref a3, .ref a4, .int 0, .ref a6, .int 0, .int 0, .int 0, .int 0, .int 0, .int 0, .int (-1), .ref a14, .ref a15, .int 0, .int 0, .int 0, .ref a19, .ref a20, .int 0, .int 0, .ref a23, .ref a24, .ref a25, .ref a26, .ref a27, .ref a28]))]) := by
  refine Ct.of (by decide) (Nat.le_of_ble_eq_true rfl) ?_
  intro p e s m below meth c A ls FX hP hD hS hl
  obtain ⟨FC, hr, hlk, hKn, hA, hnm⟩ := id FX
  have FC : CallFix p m c cX12_see 2 s _ BIG RX12 := FC
  obtain ⟨hx, hb, hml, hown, hB⟩ := id FC
  have hl : lv_has ls 2 [(0, .ref h0), (1, .int 0)] := hl
  refine lv_iload_n hx hb dX12_see_0 rfl (lv_at hl 1 rfl) ?_
  refine lv_aload_n hx hb dX12_see_1 rfl (lv_at hl 0 rfl) ?_
  refine g_get (C := RX12) (T := TX12) (N := 29) (ci := 12) (v := .int 0) FC hKn hP i_X12 0 rfl rfl 7 (by decide) b_449 rfl dX12_see_2 ?_
  refine lv_icmp_ge (tgt := 21) hx hb dX12_see_5 (by decide) (fun _ => ?_) (fun h => absurd h (by decide))
  refine lv_iconst (v := -1) hx hb dX12_see_21 (by decide) ?_
  exact rt_i FX () rfl trivial (hP.sub [0] rfl) (hD.sub [0] (by decide) rfl) hS (Nat.le_of_ble_eq_true rfl) (Nat.le_of_ble_eq_true rfl) dX12_see_22
set_option maxRecDepth 100000 in
set_option maxHeartbeats 4000000 in
theorem c_X12_good (l : Launch) (g : GG) (h0 : Nat) (a1 : Nat) (a2 : Nat) (a3 : Nat) (a4 : Nat) (a6 : Nat) (a14 : Nat) (a15 : Nat) (a19 : Nat) (a20 : Nat) (a23 : Nat) (a24 : Nat) (a25 : Nat) (a26 : Nat) (a27 : Nat) (a28 : Nat) : Ct l g yX12_good cX12_good 1 (some .boolean) { frames := 0, cells := 0, slots := 0, locals := 0 } [.ref h0] [(h0, .inr (12, [.int 0, .ref a1, .ref a2, .ref a3, .ref a4, .int 0, .ref a6, .int 0, .int 0, .int 0, .int 0, .int 0, .int 0, .int (-1), .ref a14, .ref a15, .int 0, .int 0, .int 0, .ref a19, .ref a20, .int 0, .int 0, .ref a23, .ref a24, .ref a25, .ref a26, .ref a27, .ref a28]))] (S := Unit) (fun _ => some (.int 1)) (fun _ => True) (fun u => [(h0, .inr (12, [.int 0, .ref a1, .ref a2, .ref a3, .ref a4, .int 0, .ref a6, .int 0, .int 0, .int 0, .int 0, .int 0, .int 0, .int (-1), .ref a14, .ref a15, .int 0, .int 0, .int 0, .ref a19, .ref a20, .int 0, .int 0, .ref a23, .ref a24, .ref a25, .ref a26, .ref a27, .ref a28]))]) := by
  refine Ct.of (by decide) (Nat.le_of_ble_eq_true rfl) ?_
  intro p e s m below meth c A ls FX hP hD hS hl
  obtain ⟨FC, hr, hlk, hKn, hA, hnm⟩ := id FX
  have FC : CallFix p m c cX12_good 1 s _ BIG RX12 := FC
  obtain ⟨hx, hb, hml, hown, hB⟩ := id FC
  have hl : lv_has ls 1 [(0, .ref h0)] := hl
  refine lv_aload_n hx hb dX12_good_0 rfl (lv_at hl 0 rfl) ?_
  refine g_get (C := RX12) (T := TX12) (N := 29) (ci := 12) (v := .int 0) FC hKn hP i_X12 0 rfl rfl 12 (by decide) b_438 rfl dX12_good_1 ?_
  refine lv_if_ne (tgt := 11) hx hb dX12_good_4 (by decide) (fun h => absurd h (by decide)) (fun _ => ?_)
  refine lv_iconst (v := 1) hx hb dX12_good_7 (by decide) ?_
  refine lv_goto (tgt := 12) hx hb dX12_good_8 (by decide) ?_
  exact rt_z FX rfl () rfl trivial (hP.sub [0] rfl) (hD.sub [0] (by decide) rfl) hS (Nat.le_of_ble_eq_true rfl) (Nat.le_of_ble_eq_true rfl) dX12_good_12
set_option maxRecDepth 100000 in
set_option maxHeartbeats 4000000 in
theorem c_X12_advance (l : Launch) (g : GG) (h0 : Nat) (a1 : Nat) (a2 : Nat) (a3 : Nat) (a4 : Nat) (a6 : Nat) (a14 : Nat) (a15 : Nat) (a19 : Nat) (a20 : Nat) (a23 : Nat) (a24 : Nat) (a25 : Nat) (a26 : Nat) (a27 : Nat) (a28 : Nat) : Ct l g yX12_advance cX12_advance 2 none { frames := 1, cells := 0, slots := 0, locals := 21 } [.ref h0] [(h0, .inr (12, [.int 0, .ref a1, .ref a2, .ref a3, .ref a4, .int 0, .ref a6, .int 0, .int 0, .int 0, .int 0, .int 0, .int 0, .int (-1), .ref a14, .ref a15, .int 0, .int 0, .int 0, .ref a19, .ref a20, .int 0, .int 0, .ref a23, .ref a24, .ref a25, .ref a26, .ref a27, .ref a28]))] (S := Unit) (fun _ => none) (fun _ => True) (fun u => [(h0, .inr (12, [.int 0, .ref a1, .ref a2, .ref a3, .ref a4, .int 0, .ref a6, .int 0, .int 0, .int 0, .int 0, .int 0, .int 0, .int (-1), .ref a14, .ref a15, .int 0, .int 0, .int 0, .ref a19, .ref a20, .int 0, .int 0, .ref a23, .ref a24, .ref a25, .ref a26, .ref a27, .ref a28]))]) := by
  refine Ct.of (by decide) (Nat.le_of_ble_eq_true rfl) ?_
  intro p e s m below meth c A ls FX hP hD hS hl
  obtain ⟨FC, hr, hlk, hKn, hA, hnm⟩ := id FX
  have FC : CallFix p m c cX12_advance 2 s _ BIG RX12 := FC
  obtain ⟨hx, hb, hml, hown, hB⟩ := id FC
  have hl : lv_has ls 2 [(0, .ref h0)] := hl
  refine lv_aload_n hx hb dX12_advance_0 rfl (lv_at hl 0 rfl) ?_
  refine lv_aload_n hx hb dX12_advance_1 rfl (lv_at hl 0 rfl) ?_
  refine g_get (C := RX12) (T := TX12) (N := 29) (ci := 12) (v := .int 0) FC hKn hP i_X12 0 rfl rfl 8 (by decide) b_450 rfl dX12_advance_2 ?_
  refine call_V (As := [.int 0]) (rest := []) (wr := []) FC hKn (c_X12_see l g h0 a1 a2 a3 a4 a6 a14 a15 a19 a20 a23 a24 a25 a26 a27 a28) m_yX12_see b_451 (ci := 12) rfl rfl rfl hP hD hS hA [0] [] rfl (by decide) rfl (by decide) (by decide) rfl hl.1 rfl (Nat.le_of_ble_eq_true rfl) dX12_advance_5 ⟨(Nat.le_of_ble_eq_true rfl), (Nat.le_of_ble_eq_true rfl)⟩ ⟨(Nat.le_of_ble_eq_true rfl), (Nat.le_of_ble_eq_true rfl)⟩ (fun u1 H locs _ hP hD hS => ?_)
  have hP : va_P g.1 vwCl [(h0, .inr (12, [.int 0, .ref a1, .ref a2, .ref a3, .ref a4, .int 0, .ref a6, .int 0, .int 0, .int 0, .int 0, .int 0, .int 0, .int (-1), .ref a14, .ref a15, .int 0, .int 0, .int 0, .ref a19, .ref a20, .int 0, .int 0, .ref a23, .ref a24, .ref a25, .ref a26, .ref a27, .ref a28]))] H := hP
  have hD : va_D A [(h0, .inr (12, [.int 0, .ref a1, .ref a2, .ref a3, .ref a4, .int 0, .ref a6, .int 0, .int 0, .int 0, .int 0, .int 0, .int 0, .int (-1), .ref a14, .ref a15, .int 0, .int 0, .int 0, .ref a19, .ref a20, .int 0, .int 0, .ref a23, .ref a24, .ref a25, .ref a26, .ref a27, .ref a28]))] := hD
  refine W.eq (g2 := F0 m 8 ls [.int (-1)]) rfl ?_
  refine lv_bipush (v := 32) hx hb dX12_advance_8 (by decide) ?_
  refine lv_icmp_eq (tgt := 26) hx hb dX12_advance_10 (by decide) (fun h => absurd h (by decide)) (fun _ => ?_)
  refine lv_aload_n hx hb dX12_advance_13 rfl (lv_at hl 0 rfl) ?_
  refine lv_aload_n hx hb dX12_advance_14 rfl (lv_at hl 0 rfl) ?_
  refine g_get (C := RX12) (T := TX12) (N := 29) (ci := 12) (v := .int 0) FC hKn hP i_X12 0 rfl rfl 8 (by decide) b_450 rfl dX12_advance_15 ?_
  refine call_V (As := [.int 0]) (rest := []) (wr := []) FC hKn (c_X12_see l g h0 a1 a2 a3 a4 a6 a14 a15 a19 a20 a23 a24 a25 a26 a27 a28) m_yX12_see b_451 (ci := 12) rfl rfl rfl hP hD hS hA [0] [] rfl (by decide) rfl (by decide) (by decide) rfl hl.1 rfl (Nat.le_of_ble_eq_true rfl) dX12_advance_18 ⟨(Nat.le_of_ble_eq_true rfl), (Nat.le_of_ble_eq_true rfl)⟩ ⟨(Nat.le_of_ble_eq_true rfl), (Nat.le_of_ble_eq_true rfl)⟩ (fun u2 H locs _ hP hD hS => ?_)
  have hP : va_P g.1 vwCl [(h0, .inr (12, [.int 0, .ref a1, .ref a2, .ref a3, .ref a4, .int 0, .ref a6, .int 0, .int 0, .int 0, .int 0, .int 0, .int 0, .int (-1), .ref a14, .ref a15, .int 0, .int 0, .int 0, .ref a19, .ref a20, .int 0, .int 0, .ref a23, .ref a24, .ref a25, .ref a26, .ref a27, .ref a28]))] H := hP
  have hD : va_D A [(h0, .inr (12, [.int 0, .ref a1, .ref a2, .ref a3, .ref a4, .int 0, .ref a6, .int 0, .int 0, .int 0, .int 0, .int 0, .int 0, .int (-1), .ref a14, .ref a15, .int 0, .int 0, .int 0, .ref a19, .ref a20, .int 0, .int 0, .ref a23, .ref a24, .ref a25, .ref a26, .ref a27, .ref a28]))] := hD
  refine W.eq (g2 := F0 m 21 ls [.int (-1)]) rfl ?_
  refine lv_bipush (v := 10) hx hb dX12_advance_21 (by decide) ?_
  refine lv_icmp_ne (tgt := 39) hx hb dX12_advance_23 (by decide) (fun _ => ?_) (fun h => absurd h (by decide))
  refine lv_aload_n hx hb dX12_advance_39 rfl (lv_at hl 0 rfl) ?_
  refine lv_aload_n hx hb dX12_advance_40 rfl (lv_at hl 0 rfl) ?_
  refine g_get (C := RX12) (T := TX12) (N := 29) (ci := 12) (v := .int 0) FC hKn hP i_X12 0 rfl rfl 8 (by decide) b_450 rfl dX12_advance_41 ?_
  refine g_put (C := RX12) (T := TX12) (N := 29) (ci := 12) (v := .int 0) FC hKn hP hD hS i_X12 tyX12 tyX12_ok nmX12 0 rfl rfl 9 (by decide) b_452 rfl rfl rfl (Nat.le_of_ble_eq_true rfl) dX12_advance_44 (fun H locs hP hD hS => ?_)
  have hP : va_P g.1 vwCl [(h0, .inr (12, [.int 0, .ref a1, .ref a2, .ref a3, .ref a4, .int 0, .ref a6, .int 0, .int 0, .int 0, .int 0, .int 0, .int 0, .int (-1), .ref a14, .ref a15, .int 0, .int 0, .int 0, .ref a19, .ref a20, .int 0, .int 0, .ref a23, .ref a24, .ref a25, .ref a26, .ref a27, .ref a28]))] H := hP
  have hD : va_D A [(h0, .inr (12, [.int 0, .ref a1, .ref a2, .ref a3, .ref a4, .int 0, .ref a6, .int 0, .int 0, .int 0, .int 0, .int 0, .int 0, .int (-1), .ref a14, .ref a15, .int 0, .int 0, .int 0, .ref a19, .ref a20, .int 0, .int 0, .ref a23, .ref a24, .ref a25, .ref a26, .ref a27, .ref a28]))] := hD
  refine lv_aload_n hx hb dX12_advance_47 rfl (lv_at hl 0 rfl) ?_
  refine lv_aload_n hx hb dX12_advance_48 rfl (lv_at hl 0 rfl) ?_
  refine g_get (C := RX12) (T := TX12) (N := 29) (ci := 12) (v := .int 0) FC hKn hP i_X12 0 rfl rfl 8 (by decide) b_450 rfl dX12_advance_49 ?_
  refine call_V (As := [.int 0]) (rest := []) (wr := []) FC hKn (c_X12_see l g h0 a1 a2 a3 a4 a6 a14 a15 a19 a20 a23 a24 a25 a26 a27 a28) m_yX12_see b_451 (ci := 12) rfl rfl rfl hP hD hS hA [0] [] rfl (by decide) rfl (by decide) (by decide) rfl hl.1 rfl (Nat.le_of_ble_eq_true rfl) dX12_advance_52 ⟨(Nat.le_of_ble_eq_true rfl), (Nat.le_of_ble_eq_true rfl)⟩ ⟨(Nat.le_of_ble_eq_true rfl), (Nat.le_of_ble_eq_true rfl)⟩ (fun u3 H locs _ hP hD hS => ?_)
  have hP : va_P g.1 vwCl [(h0, .inr (12, [.int 0, .ref a1, .ref a2, .ref a3, .ref a4, .int 0, .ref a6, .int 0, .int 0, .int 0, .int 0, .int 0, .int 0, .int (-1), .ref a14, .ref a15, .int 0, .int 0, .int 0, .ref a19, .ref a20, .int 0, .int 0, .ref a23, .ref a24, .ref a25, .ref a26, .ref a27, .ref a28]))] H := hP
  have hD : va_D A [(h0, .inr (12, [.int 0, .ref a1, .ref a2, .ref a3, .ref a4, .int 0, .ref a6, .int 0, .int 0, .int 0, .int 0, .int 0, .int 0, .int (-1), .ref a14, .ref a15, .int 0, .int 0, .int 0, .ref a19, .ref a20, .int 0, .int 0, .ref a23, .ref a24, .ref a25, .ref a26, .ref a27, .ref a28]))] := hD
  refine W.eq (g2 := F0 m 55 ls [.int (-1)]) rfl ?_
  refine lv_istore_n (lv' := [(1, .int (-1)), (0, .ref h0)]) hx hb dX12_advance_55 rfl hl (by decide) rfl (fun ls hl => ?_)
  refine lv_iload_n hx hb dX12_advance_56 rfl (lv_at hl 0 rfl) ?_
  refine lv_iconst (v := -1) hx hb dX12_advance_57 (by decide) ?_
  refine lv_icmp_ne (tgt := 69) hx hb dX12_advance_58 (by decide) (fun h => absurd h (by decide)) (fun _ => ?_)
  refine lv_aload_n hx hb dX12_advance_61 rfl (lv_at hl 1 rfl) ?_
  refine lv_iconst (v := 0) hx hb dX12_advance_62 (by decide) ?_
  refine g_put (C := RX12) (T := TX12) (N := 29) (ci := 12) (v := .int 0) FC hKn hP hD hS i_X12 tyX12 tyX12_ok nmX12 0 rfl rfl 10 (by decide) b_453 rfl rfl rfl (Nat.le_of_ble_eq_true rfl) dX12_advance_63 (fun H locs hP hD hS => ?_)
  have hP : va_P g.1 vwCl [(h0, .inr (12, [.int 0, .ref a1, .ref a2, .ref a3, .ref a4, .int 0, .ref a6, .int 0, .int 0, .int 0, .int 0, .int 0, .int 0, .int (-1), .ref a14, .ref a15, .int 0, .int 0, .int 0, .ref a19, .ref a20, .int 0, .int 0, .ref a23, .ref a24, .ref a25, .ref a26, .ref a27, .ref a28]))] H := hP
  have hD : va_D A [(h0, .inr (12, [.int 0, .ref a1, .ref a2, .ref a3, .ref a4, .int 0, .ref a6, .int 0, .int 0, .int 0, .int 0, .int 0, .int 0, .int (-1), .ref a14, .ref a15, .int 0, .int 0, .int 0, .ref a19, .ref a20, .int 0, .int 0, .ref a23, .ref a24, .ref a25, .ref a26, .ref a27, .ref a28]))] := hD
  refine lv_goto (tgt := 239) hx hb dX12_advance_66 (by decide) ?_
  exact rt_v FX () rfl trivial (hP.sub [0] rfl) (hD.sub [0] (by decide) rfl) hS (Nat.le_of_ble_eq_true rfl) (Nat.le_of_ble_eq_true rfl) dX12_advance_239
set_option maxRecDepth 100000 in
set_option maxHeartbeats 4000000 in
theorem c_X12_desk (l : Launch) (g : GG) (h0 : Nat) (a1 : Nat) (a2 : Nat) (a3 : Nat) (a4 : Nat) (a6 : Nat) (a14 : Nat) (a15 : Nat) (a19 : Nat) (a20 : Nat) (a23 : Nat) (a24 : Nat) (a25 : Nat) (a26 : Nat) (a27 : Nat) (a28 : Nat) : Ct l g yX12_desk cX12_desk 2 (some .int) { frames := 2, cells := 0, slots := 0, locals := 42 } [.ref h0] [(h0, .inr (12, [.int 0, .ref a1, .ref a2, .ref a3, .ref a4, .int 0, .ref a6, .int 0, .int 0, .int 0, .int 0, .int 0, .int 0, .int (-1), .ref a14, .ref a15, .int 0, .int 0, .int 0, .ref a19, .ref a20, .int 0, .int 0, .ref a23, .ref a24, .ref a25, .ref a26, .ref a27, .ref a28])), (a1, .inl (g.2 0, 225, .inl (fun _ => 0))), (a14, .inl (g.2 0, 225, .inl (fun _ => 0)))] (S := Unit) (fun _ => some (.int 0)) (fun _ => True) (fun u => []) := by
  refine Ct.of (by decide) (Nat.le_of_ble_eq_true rfl) ?_
  intro p e s m below meth c A ls FX hP hD hS hl
  obtain ⟨FC, hr, hlk, hKn, hA, hnm⟩ := id FX
  have FC : CallFix p m c cX12_desk 2 s _ BIG RX12 := FC
  obtain ⟨hx, hb, hml, hown, hB⟩ := id FC
  have hl : lv_has ls 2 [(0, .ref h0)] := hl
  refine lv_aload_n hx hb dX12_desk_0 rfl (lv_at hl 0 rfl) ?_
  refine lv_aload_n hx hb dX12_desk_1 rfl (lv_at hl 0 rfl) ?_
  refine g_get (C := RX12) (T := TX12) (N := 29) (ci := 12) (v := .int 0) FC hKn hP i_X12 0 rfl rfl 5 (by decide) b_439 rfl dX12_desk_2 ?_
  refine g_put (C := RX12) (T := TX12) (N := 29) (ci := 12) (v := .int 0) FC hKn hP hD hS i_X12 tyX12 tyX12_ok nmX12 0 rfl rfl 7 (by decide) b_449 rfl rfl rfl (Nat.le_of_ble_eq_true rfl) dX12_desk_5 (fun H locs hP hD hS => ?_)
  have hP : va_P g.1 vwCl [(h0, .inr (12, [.int 0, .ref a1, .ref a2, .ref a3, .ref a4, .int 0, .ref a6, .int 0, .int 0, .int 0, .int 0, .int 0, .int 0, .int (-1), .ref a14, .ref a15, .int 0, .int 0, .int 0, .ref a19, .ref a20, .int 0, .int 0, .ref a23, .ref a24, .ref a25, .ref a26, .ref a27, .ref a28])), (a1, .inl (g.2 0, 225, .inl (fun _ => 0))), (a14, .inl (g.2 0, 225, .inl (fun _ => 0)))] H := hP
  have hD : va_D A [(h0, .inr (12, [.int 0, .ref a1, .ref a2, .ref a3, .ref a4, .int 0, .ref a6, .int 0, .int 0, .int 0, .int 0, .int 0, .int 0, .int (-1), .ref a14, .ref a15, .int 0, .int 0, .int 0, .ref a19, .ref a20, .int 0, .int 0, .ref a23, .ref a24, .ref a25, .ref a26, .ref a27, .ref a28])), (a1, .inl (g.2 0, 225, .inl (fun _ => 0))), (a14, .inl (g.2 0, 225, .inl (fun _ => 0)))] := hD
  refine lv_aload_n hx hb dX12_desk_8 rfl (lv_at hl 0 rfl) ?_
  refine lv_iconst (v := 0) hx hb dX12_desk_9 (by decide) ?_
  refine g_put (C := RX12) (T := TX12) (N := 29) (ci := 12) (v := .int 0) FC hKn hP hD hS i_X12 tyX12 tyX12_ok nmX12 0 rfl rfl 5 (by decide) b_439 rfl rfl rfl (Nat.le_of_ble_eq_true rfl) dX12_desk_10 (fun H locs hP hD hS => ?_)
  have hP : va_P g.1 vwCl [(h0, .inr (12, [.int 0, .ref a1, .ref a2, .ref a3, .ref a4, .int 0, .ref a6, .int 0, .int 0, .int 0, .int 0, .int 0, .int 0, .int (-1), .ref a14, .ref a15, .int 0, .int 0, .int 0, .ref a19, .ref a20, .int 0, .int 0, .ref a23, .ref a24, .ref a25, .ref a26, .ref a27, .ref a28])), (a1, .inl (g.2 0, 225, .inl (fun _ => 0))), (a14, .inl (g.2 0, 225, .inl (fun _ => 0)))] H := hP
  have hD : va_D A [(h0, .inr (12, [.int 0, .ref a1, .ref a2, .ref a3, .ref a4, .int 0, .ref a6, .int 0, .int 0, .int 0, .int 0, .int 0, .int 0, .int (-1), .ref a14, .ref a15, .int 0, .int 0, .int 0, .ref a19, .ref a20, .int 0, .int 0, .ref a23, .ref a24, .ref a25, .ref a26, .ref a27, .ref a28])), (a1, .inl (g.2 0, 225, .inl (fun _ => 0))), (a14, .inl (g.2 0, 225, .inl (fun _ => 0)))] := hD
  refine lv_aload_n hx hb dX12_desk_13 rfl (lv_at hl 0 rfl) ?_
  refine lv_iconst (v := 0) hx hb dX12_desk_14 (by decide) ?_
  refine g_put (C := RX12) (T := TX12) (N := 29) (ci := 12) (v := .int 0) FC hKn hP hD hS i_X12 tyX12 tyX12_ok nmX12 0 rfl rfl 8 (by decide) b_450 rfl rfl rfl (Nat.le_of_ble_eq_true rfl) dX12_desk_15 (fun H locs hP hD hS => ?_)
  have hP : va_P g.1 vwCl [(h0, .inr (12, [.int 0, .ref a1, .ref a2, .ref a3, .ref a4, .int 0, .ref a6, .int 0, .int 0, .int 0, .int 0, .int 0, .int 0, .int (-1), .ref a14, .ref a15, .int 0, .int 0, .int 0, .ref a19, .ref a20, .int 0, .int 0, .ref a23, .ref a24, .ref a25, .ref a26, .ref a27, .ref a28])), (a1, .inl (g.2 0, 225, .inl (fun _ => 0))), (a14, .inl (g.2 0, 225, .inl (fun _ => 0)))] H := hP
  have hD : va_D A [(h0, .inr (12, [.int 0, .ref a1, .ref a2, .ref a3, .ref a4, .int 0, .ref a6, .int 0, .int 0, .int 0, .int 0, .int 0, .int 0, .int (-1), .ref a14, .ref a15, .int 0, .int 0, .int 0, .ref a19, .ref a20, .int 0, .int 0, .ref a23, .ref a24, .ref a25, .ref a26, .ref a27, .ref a28])), (a1, .inl (g.2 0, 225, .inl (fun _ => 0))), (a14, .inl (g.2 0, 225, .inl (fun _ => 0)))] := hD
  refine lv_aload_n hx hb dX12_desk_18 rfl (lv_at hl 0 rfl) ?_
  refine lv_iconst (v := 0) hx hb dX12_desk_19 (by decide) ?_
  refine g_put (C := RX12) (T := TX12) (N := 29) (ci := 12) (v := .int 0) FC hKn hP hD hS i_X12 tyX12 tyX12_ok nmX12 0 rfl rfl 12 (by decide) b_438 rfl rfl rfl (Nat.le_of_ble_eq_true rfl) dX12_desk_20 (fun H locs hP hD hS => ?_)
  have hP : va_P g.1 vwCl [(h0, .inr (12, [.int 0, .ref a1, .ref a2, .ref a3, .ref a4, .int 0, .ref a6, .int 0, .int 0, .int 0, .int 0, .int 0, .int 0, .int (-1), .ref a14, .ref a15, .int 0, .int 0, .int 0, .ref a19, .ref a20, .int 0, .int 0, .ref a23, .ref a24, .ref a25, .ref a26, .ref a27, .ref a28])), (a1, .inl (g.2 0, 225, .inl (fun _ => 0))), (a14, .inl (g.2 0, 225, .inl (fun _ => 0)))] H := hP
  have hD : va_D A [(h0, .inr (12, [.int 0, .ref a1, .ref a2, .ref a3, .ref a4, .int 0, .ref a6, .int 0, .int 0, .int 0, .int 0, .int 0, .int 0, .int (-1), .ref a14, .ref a15, .int 0, .int 0, .int 0, .ref a19, .ref a20, .int 0, .int 0, .ref a23, .ref a24, .ref a25, .ref a26, .ref a27, .ref a28])), (a1, .inl (g.2 0, 225, .inl (fun _ => 0))), (a14, .inl (g.2 0, 225, .inl (fun _ => 0)))] := hD
  refine lv_aload_n hx hb dX12_desk_23 rfl (lv_at hl 0 rfl) ?_
  refine lv_iconst (v := -1) hx hb dX12_desk_24 (by decide) ?_
  refine g_put (C := RX12) (T := TX12) (N := 29) (ci := 12) (v := .int (-1)) FC hKn hP hD hS i_X12 tyX12 tyX12_ok nmX12 0 rfl rfl 13 (by decide) b_437 rfl rfl rfl (Nat.le_of_ble_eq_true rfl) dX12_desk_25 (fun H locs hP hD hS => ?_)
  have hP : va_P g.1 vwCl [(h0, .inr (12, [.int 0, .ref a1, .ref a2, .ref a3, .ref a4, .int 0, .ref a6, .int 0, .int 0, .int 0, .int 0, .int 0, .int 0, .int (-1), .ref a14, .ref a15, .int 0, .int 0, .int 0, .ref a19, .ref a20, .int 0, .int 0, .ref a23, .ref a24, .ref a25, .ref a26, .ref a27, .ref a28])), (a1, .inl (g.2 0, 225, .inl (fun _ => 0))), (a14, .inl (g.2 0, 225, .inl (fun _ => 0)))] H := hP
  have hD : va_D A [(h0, .inr (12, [.int 0, .ref a1, .ref a2, .ref a3, .ref a4, .int 0, .ref a6, .int 0, .int 0, .int 0, .int 0, .int 0, .int 0, .int (-1), .ref a14, .ref a15, .int 0, .int 0, .int 0, .ref a19, .ref a20, .int 0, .int 0, .ref a23, .ref a24, .ref a25, .ref a26, .ref a27, .ref a28])), (a1, .inl (g.2 0, 225, .inl (fun _ => 0))), (a14, .inl (g.2 0, 225, .inl (fun _ => 0)))] := hD
  refine lv_iconst (v := 0) hx hb dX12_desk_28 (by decide) ?_
  refine lv_istore_n (lv' := [(1, .int 0), (0, .ref h0)]) hx hb dX12_desk_29 rfl hl (by decide) rfl (fun ls hl => ?_)
  have lp : ∀ (n i : Nat)  (H : Heap) (locs : List Loc) (ls : Array Slot), i ≤ 225 → 225 < i + n → va_P g.1 vwCl [(h0, .inr (12, [.int 0, .ref a1, .ref a2, .ref a3, .ref a4, .int 0, .ref a6, .int 0, .int 0, .int 0, .int 0, .int 0, .int 0, .int (-1), .ref a14, .ref a15, .int 0, .int 0, .int 0, .ref a19, .ref a20, .int 0, .int 0, .ref a23, .ref a24, .ref a25, .ref a26, .ref a27, .ref a28])), (a1, .inl (g.2 0, 225, .inl (fun _ => 0))), (a14, .inl (g.2 0, 225, .inl (fun _ => 0)))] H → va_D A [(h0, .inr (12, [.int 0, .ref a1, .ref a2, .ref a3, .ref a4, .int 0, .ref a6, .int 0, .int 0, .int 0, .int 0, .int 0, .int 0, .int (-1), .ref a14, .ref a15, .int 0, .int 0, .int 0, .ref a19, .ref a20, .int 0, .int 0, .ref a23, .ref a24, .ref a25, .ref a26, .ref a27, .ref a28])), (a1, .inl (g.2 0, 225, .inl (fun _ => 0))), (a14, .inl (g.2 0, 225, .inl (fun _ => 0)))] → va_S A s.heap H locs → lv_has ls 2 [(1, .int (nI i)), (0, .ref h0)] → W p l e { frames := 2, cells := 0, slots := 0, locals := 42 } s m ([.ref h0].toArray) below meth c H locs 0 0 (MQ below (QX (S := Unit) (fun _ => some (.int 0)) (fun _ => True) g (fun u => []) A) ([.ref h0].toArray) s 0 0 A) (F0 m 30 ls []) := by
    intro n
    induction n with
    | zero =>
      intro i  H locs ls hi hn
      exact absurd hn (by omega)
    | succ n ih =>
      intro i  H locs ls hi hn hP hD hS hl
      refine lv_iload_n hx hb dX12_desk_30 rfl (lv_at hl 0 rfl) ?_
      refine lv_sipush (v := 225) hx hb dX12_desk_31 (by decide) ?_
      refine lv_icmp_ge (tgt := 50) hx hb dX12_desk_34 (by decide) (fun c1 => ?_) (fun c1 => ?_)
      · have c1 := k_le (a := 225) (b := ((i : Nat) : Int)) (by decide) (nI_toInt (by omega)) c1
        refine lv_aload_n hx hb dX12_desk_50 rfl (lv_at hl 1 rfl) ?_
        refine call_V (As := []) (rest := []) (wr := [(a1, .inl (g.2 0, 225, .inl (fun _ => 0))), (a14, .inl (g.2 0, 225, .inl (fun _ => 0)))]) FC hKn (c_X12_advance l g h0 a1 a2 a3 a4 a6 a14 a15 a19 a20 a23 a24 a25 a26 a27 a28) m_yX12_advance b_454 (ci := 12) rfl rfl rfl hP hD hS hA [0] [1, 2] rfl (by decide) rfl (by decide) (by decide) rfl hl.1 rfl (Nat.le_of_ble_eq_true rfl) dX12_desk_51 ⟨(Nat.le_of_ble_eq_true rfl), (Nat.le_of_ble_eq_true rfl)⟩ ⟨(Nat.le_of_ble_eq_true rfl), (Nat.le_of_ble_eq_true rfl)⟩ (fun u2 H locs _ hP hD hS => ?_)
        have hP : va_P g.1 vwCl [(a1, .inl (g.2 0, 225, .inl (fun _ => 0))), (a14, .inl (g.2 0, 225, .inl (fun _ => 0))), (h0, .inr (12, [.int 0, .ref a1, .ref a2, .ref a3, .ref a4, .int 0, .ref a6, .int 0, .int 0, .int 0, .int 0, .int 0, .int 0, .int (-1), .ref a14, .ref a15, .int 0, .int 0, .int 0, .ref a19, .ref a20, .int 0, .int 0, .ref a23, .ref a24, .ref a25, .ref a26, .ref a27, .ref a28]))] H := hP
        have hD : va_D A [(a1, .inl (g.2 0, 225, .inl (fun _ => 0))), (a14, .inl (g.2 0, 225, .inl (fun _ => 0))), (h0, .inr (12, [.int 0, .ref a1, .ref a2, .ref a3, .ref a4, .int 0, .ref a6, .int 0, .int 0, .int 0, .int 0, .int 0, .int 0, .int (-1), .ref a14, .ref a15, .int 0, .int 0, .int 0, .ref a19, .ref a20, .int 0, .int 0, .ref a23, .ref a24, .ref a25, .ref a26, .ref a27, .ref a28]))] := hD
        refine W.eq (g2 := F0 m 54 ls []) rfl ?_
        refine lv_aload_n hx hb dX12_desk_54 rfl (lv_at hl 1 rfl) ?_
        refine call_V (As := []) (rest := []) (wr := [(a1, .inl (g.2 0, 225, .inl (fun _ => 0))), (a14, .inl (g.2 0, 225, .inl (fun _ => 0)))]) FC hKn (c_X12_good l g h0 a1 a2 a3 a4 a6 a14 a15 a19 a20 a23 a24 a25 a26 a27 a28) m_yX12_good b_455 (ci := 12) rfl rfl rfl hP hD hS hA [2] [0, 1] rfl (by decide) rfl (by decide) (by decide) rfl hl.1 rfl (Nat.le_of_ble_eq_true rfl) dX12_desk_55 ⟨(Nat.le_of_ble_eq_true rfl), (Nat.le_of_ble_eq_true rfl)⟩ ⟨(Nat.le_of_ble_eq_true rfl), (Nat.le_of_ble_eq_true rfl)⟩ (fun u3 H locs _ hP hD hS => ?_)
        have hP : va_P g.1 vwCl [(a1, .inl (g.2 0, 225, .inl (fun _ => 0))), (a14, .inl (g.2 0, 225, .inl (fun _ => 0))), (h0, .inr (12, [.int 0, .ref a1, .ref a2, .ref a3, .ref a4, .int 0, .ref a6, .int 0, .int 0, .int 0, .int 0, .int 0, .int 0, .int (-1), .ref a14, .ref a15, .int 0, .int 0, .int 0, .ref a19, .ref a20, .int 0, .int 0, .ref a23, .ref a24, .ref a25, .ref a26, .ref a27, .ref a28]))] H := hP
        have hD : va_D A [(a1, .inl (g.2 0, 225, .inl (fun _ => 0))), (a14, .inl (g.2 0, 225, .inl (fun _ => 0))), (h0, .inr (12, [.int 0, .ref a1, .ref a2, .ref a3, .ref a4, .int 0, .ref a6, .int 0, .int 0, .int 0, .int 0, .int 0, .int 0, .int (-1), .ref a14, .ref a15, .int 0, .int 0, .int 0, .ref a19, .ref a20, .int 0, .int 0, .ref a23, .ref a24, .ref a25, .ref a26, .ref a27, .ref a28]))] := hD
        refine W.eq (g2 := F0 m 58 ls [.int 1]) rfl ?_
        refine lv_if_eq (tgt := 75) hx hb dX12_desk_58 (by decide) (fun h => absurd h (by decide)) (fun _ => ?_)
        refine lv_aload_n hx hb dX12_desk_61 rfl (lv_at hl 1 rfl) ?_
        refine g_get (C := RX12) (T := TX12) (N := 29) (ci := 12) (v := .int 0) FC hKn hP i_X12 2 rfl rfl 10 (by decide) b_453 rfl dX12_desk_62 ?_
        refine lv_if_eq (tgt := 75) hx hb dX12_desk_65 (by decide) (fun _ => ?_) (fun h => absurd h (by decide))
        refine lv_aload_n hx hb dX12_desk_75 rfl (lv_at hl 1 rfl) ?_
        refine call_V (As := []) (rest := []) (wr := [(a1, .inl (g.2 0, 225, .inl (fun _ => 0))), (a14, .inl (g.2 0, 225, .inl (fun _ => 0)))]) FC hKn (c_X12_good l g h0 a1 a2 a3 a4 a6 a14 a15 a19 a20 a23 a24 a25 a26 a27 a28) m_yX12_good b_455 (ci := 12) rfl rfl rfl hP hD hS hA [2] [0, 1] rfl (by decide) rfl (by decide) (by decide) rfl hl.1 rfl (Nat.le_of_ble_eq_true rfl) dX12_desk_76 ⟨(Nat.le_of_ble_eq_true rfl), (Nat.le_of_ble_eq_true rfl)⟩ ⟨(Nat.le_of_ble_eq_true rfl), (Nat.le_of_ble_eq_true rfl)⟩ (fun u4 H locs _ hP hD hS => ?_)
        have hP : va_P g.1 vwCl [(a1, .inl (g.2 0, 225, .inl (fun _ => 0))), (a14, .inl (g.2 0, 225, .inl (fun _ => 0))), (h0, .inr (12, [.int 0, .ref a1, .ref a2, .ref a3, .ref a4, .int 0, .ref a6, .int 0, .int 0, .int 0, .int 0, .int 0, .int 0, .int (-1), .ref a14, .ref a15, .int 0, .int 0, .int 0, .ref a19, .ref a20, .int 0, .int 0, .ref a23, .ref a24, .ref a25, .ref a26, .ref a27, .ref a28]))] H := hP
        have hD : va_D A [(a1, .inl (g.2 0, 225, .inl (fun _ => 0))), (a14, .inl (g.2 0, 225, .inl (fun _ => 0))), (h0, .inr (12, [.int 0, .ref a1, .ref a2, .ref a3, .ref a4, .int 0, .ref a6, .int 0, .int 0, .int 0, .int 0, .int 0, .int 0, .int (-1), .ref a14, .ref a15, .int 0, .int 0, .int 0, .ref a19, .ref a20, .int 0, .int 0, .ref a23, .ref a24, .ref a25, .ref a26, .ref a27, .ref a28]))] := hD
        refine W.eq (g2 := F0 m 79 ls [.int 1]) rfl ?_
        refine lv_if_ne (tgt := 85) hx hb dX12_desk_79 (by decide) (fun _ => ?_) (fun h => absurd h (by decide))
        refine lv_iconst (v := 0) hx hb dX12_desk_85 (by decide) ?_
        refine lv_istore_n (lv' := [(1, .int 0), (0, .ref h0)]) hx hb dX12_desk_86 rfl hl (by decide) rfl (fun ls hl => ?_)
        have lp : ∀ (n i : Nat)  (H : Heap) (locs : List Loc) (ls : Array Slot), i ≤ 225 → 225 < i + n → va_P g.1 vwCl [(a1, .inl (g.2 0, 225, .inl (fun _ => 0))), (a14, .inl (g.2 0, 225, .inl (fun _ => 0))), (h0, .inr (12, [.int 0, .ref a1, .ref a2, .ref a3, .ref a4, .int 0, .ref a6, .int 0, .int 0, .int 0, .int 0, .int 0, .int 0, .int (-1), .ref a14, .ref a15, .int 0, .int 0, .int 0, .ref a19, .ref a20, .int 0, .int 0, .ref a23, .ref a24, .ref a25, .ref a26, .ref a27, .ref a28]))] H → va_D A [(a1, .inl (g.2 0, 225, .inl (fun _ => 0))), (a14, .inl (g.2 0, 225, .inl (fun _ => 0))), (h0, .inr (12, [.int 0, .ref a1, .ref a2, .ref a3, .ref a4, .int 0, .ref a6, .int 0, .int 0, .int 0, .int 0, .int 0, .int 0, .int (-1), .ref a14, .ref a15, .int 0, .int 0, .int 0, .ref a19, .ref a20, .int 0, .int 0, .ref a23, .ref a24, .ref a25, .ref a26, .ref a27, .ref a28]))] → va_S A s.heap H locs → lv_has ls 2 [(1, .int (nI i)), (0, .ref h0)] → W p l e { frames := 2, cells := 0, slots := 0, locals := 42 } s m ([.ref h0].toArray) below meth c H locs 0 0 (MQ below (QX (S := Unit) (fun _ => some (.int 0)) (fun _ => True) g (fun u => []) A) ([.ref h0].toArray) s 0 0 A) (F0 m 87 ls []) := by
          intro n
          induction n with
          | zero =>
            intro i  H locs ls hi hn
            exact absurd hn (by omega)
          | succ n ih =>
            intro i  H locs ls hi hn hP hD hS hl
            refine lv_iload_n hx hb dX12_desk_87 rfl (lv_at hl 0 rfl) ?_
            refine lv_sipush (v := 225) hx hb dX12_desk_88 (by decide) ?_
            refine lv_icmp_ge (tgt := 112) hx hb dX12_desk_91 (by decide) (fun c5 => ?_) (fun c5 => ?_)
            · have c5 := k_le (a := 225) (b := ((i : Nat) : Int)) (by decide) (nI_toInt (by omega)) c5
              refine lv_aload_n hx hb dX12_desk_112 rfl (lv_at hl 1 rfl) ?_
              refine g_get (C := RX12) (T := TX12) (N := 29) (ci := 12) (v := .ref a1) FC hKn hP i_X12 2 rfl rfl 1 (by decide) b_362 rfl dX12_desk_113 ?_
              refine lv_bipush (v := 9) hx hb dX12_desk_116 (by decide) ?_
              refine va_iald hx hb hKn.1 hP 0 0 rfl rfl (by unfold vp_in; decide) dX12_desk_118 ?_
              refine tp_i (v := 0) rfl ?_
              exact rt_i FX () rfl trivial (hP.sub [] rfl) (hD.sub [] (by decide) rfl) hS (Nat.le_of_ble_eq_true rfl) (Nat.le_of_ble_eq_true rfl) dX12_desk_119
            · have c5 := k_nle (a := 225) (b := ((i : Nat) : Int)) (by decide) (nI_toInt (by omega)) c5
              refine lv_aload_n hx hb dX12_desk_94 rfl (lv_at hl 1 rfl) ?_
              refine g_get (C := RX12) (T := TX12) (N := 29) (ci := 12) (v := .ref a1) FC hKn hP i_X12 2 rfl rfl 1 (by decide) b_362 rfl dX12_desk_95 ?_
              refine lv_iload_n hx hb dX12_desk_98 rfl (lv_at hl 0 rfl) ?_
              refine lv_aload_n hx hb dX12_desk_99 rfl (lv_at hl 1 rfl) ?_
              refine g_get (C := RX12) (T := TX12) (N := 29) (ci := 12) (v := .ref a14) FC hKn hP i_X12 2 rfl rfl 14 (by decide) b_456 rfl dX12_desk_100 ?_
              refine lv_iload_n hx hb dX12_desk_103 rfl (lv_at hl 0 rfl) ?_
              refine va_iald hx hb hKn.1 hP 1 0 rfl rfl (vp_in_nI (by omega) (by decide)) dX12_desk_104 ?_
              refine tp_i (v := 0) rfl ?_
              refine va_iast hx hb hKn.1 hP hD hS 0 0 rfl rfl (vp_in_nI (by omega) (by decide)) dX12_desk_105 (fun H locs hP hD hS => ?_)
              have hP : va_P g.1 vwCl [(a1, .inl (g.2 0, 225, .inl (upd (fun _ => 0) ((nI i).toNatClampNeg) 0))), (a14, .inl (g.2 0, 225, .inl (fun _ => 0))), (h0, .inr (12, [.int 0, .ref a1, .ref a2, .ref a3, .ref a4, .int 0, .ref a6, .int 0, .int 0, .int 0, .int 0, .int 0, .int 0, .int (-1), .ref a14, .ref a15, .int 0, .int 0, .int 0, .ref a19, .ref a20, .int 0, .int 0, .ref a23, .ref a24, .ref a25, .ref a26, .ref a27, .ref a28]))] H := hP
              have hD : va_D A [(a1, .inl (g.2 0, 225, .inl (upd (fun _ => 0) ((nI i).toNatClampNeg) 0))), (a14, .inl (g.2 0, 225, .inl (fun _ => 0))), (h0, .inr (12, [.int 0, .ref a1, .ref a2, .ref a3, .ref a4, .int 0, .ref a6, .int 0, .int 0, .int 0, .int 0, .int 0, .int 0, .int (-1), .ref a14, .ref a15, .int 0, .int 0, .int 0, .ref a19, .ref a20, .int 0, .int 0, .ref a23, .ref a24, .ref a25, .ref a26, .ref a27, .ref a28]))] := hD
              rw [upd_z] at hP hD
              refine lv_iinc (v := nI (i + 1)) (lv' := [(1, .int (nI (i + 1))), (0, .ref h0)]) hx hb dX12_desk_106 hl (k := 0) rfl (nI_1 _) (by decide) rfl (fun ls hl => ?_)
              refine lv_goto (tgt := 87) hx hb dX12_desk_109 (by decide) ?_
              exact ih (i + 1)  H locs ls (by omega) (by omega) hP hD hS (lv_sub hl [0, 1] rfl)
        exact lp 226 0  _ _ ls (by omega) (by omega) hP hD hS hl
      · have c1 := k_nle (a := 225) (b := ((i : Nat) : Int)) (by decide) (nI_toInt (by omega)) c1
        refine lv_aload_n hx hb dX12_desk_37 rfl (lv_at hl 1 rfl) ?_
        refine g_get (C := RX12) (T := TX12) (N := 29) (ci := 12) (v := .ref a14) FC hKn hP i_X12 0 rfl rfl 14 (by decide) b_456 rfl dX12_desk_38 ?_
        refine lv_iload_n hx hb dX12_desk_41 rfl (lv_at hl 0 rfl) ?_
        refine lv_iconst (v := 0) hx hb dX12_desk_42 (by decide) ?_
        refine va_iast hx hb hKn.1 hP hD hS 2 0 rfl rfl (vp_in_nI (by omega) (by decide)) dX12_desk_43 (fun H locs hP hD hS => ?_)
        have hP : va_P g.1 vwCl [(h0, .inr (12, [.int 0, .ref a1, .ref a2, .ref a3, .ref a4, .int 0, .ref a6, .int 0, .int 0, .int 0, .int 0, .int 0, .int 0, .int (-1), .ref a14, .ref a15, .int 0, .int 0, .int 0, .ref a19, .ref a20, .int 0, .int 0, .ref a23, .ref a24, .ref a25, .ref a26, .ref a27, .ref a28])), (a1, .inl (g.2 0, 225, .inl (fun _ => 0))), (a14, .inl (g.2 0, 225, .inl (upd (fun _ => 0) ((nI i).toNatClampNeg) 0)))] H := hP
        have hD : va_D A [(h0, .inr (12, [.int 0, .ref a1, .ref a2, .ref a3, .ref a4, .int 0, .ref a6, .int 0, .int 0, .int 0, .int 0, .int 0, .int 0, .int (-1), .ref a14, .ref a15, .int 0, .int 0, .int 0, .ref a19, .ref a20, .int 0, .int 0, .ref a23, .ref a24, .ref a25, .ref a26, .ref a27, .ref a28])), (a1, .inl (g.2 0, 225, .inl (fun _ => 0))), (a14, .inl (g.2 0, 225, .inl (upd (fun _ => 0) ((nI i).toNatClampNeg) 0)))] := hD
        rw [upd_z] at hP hD
        refine lv_iinc (v := nI (i + 1)) (lv' := [(1, .int (nI (i + 1))), (0, .ref h0)]) hx hb dX12_desk_44 hl (k := 0) rfl (nI_1 _) (by decide) rfl (fun ls hl => ?_)
        refine lv_goto (tgt := 30) hx hb dX12_desk_47 (by decide) ?_
        exact ih (i + 1)  H locs ls (by omega) (by omega) hP hD hS (lv_sub hl [0, 1] rfl)
  exact lp 226 0  _ _ ls (by omega) (by omega) hP hD hS hl
set_option maxRecDepth 100000 in
set_option maxHeartbeats 4000000 in
theorem c_X12_init (l : Launch) (g : GG) (h0 : Nat) : Ct l g yX12_init cX12_init 1 none { frames := 1, cells := 15, slots := 5181, locals := 12 } [.ref h0] [(h0, .inr (12, [.int 0, .null, .null, .null, .null, .int 0, .null, .int 0, .int 0, .int 0, .int 0, .int 0, .int 0, .int 0, .null, .null, .int 0, .int 0, .int 0, .null, .null, .int 0, .int 0, .null, .null, .null, .null, .null, .null]))] (S := Nat → Nat) (fun _ => none) (fun _ => True) (fun u => [(h0, .inr (12, [.int 0, .ref (u 0), .ref (u 1), .ref (u 2), .ref (u 3), .int 0, .ref (u 4), .int 0, .int 0, .int 0, .int 0, .int 0, .int 0, .int (-1), .ref (u 5), .ref (u 6), .int 0, .int 0, .int 0, .ref (u 7), .ref (u 8), .int 0, .int 0, .ref (u 9), .ref (u 10), .ref (u 11), .ref (u 12), .ref (u 13), .ref (u 14)])), (u 0, .inl (g.2 0, 225, .inl (fun _ => 0))), (u 1, .inl (g.2 0, 675, .inl (fun _ => 0))), (u 2, .inl (g.2 2, 3, .inl (fun _ => 0))), (u 3, .inl (g.2 1, 900, .inl (fun _ => 0))), (u 4, .inl (g.2 0, 5, .inl (fun _ => 0))), (u 5, .inl (g.2 0, 225, .inl (fun _ => 0))), (u 11, .inl (g.2 0, 4, .inl mny)), (u 12, .inl (g.2 0, 4, .inl (fun _ => 0))), (u 13, .inl (g.2 3, 240, .inr (.inl (fun _ => 0))))]) := by
  refine Ct.of (by decide) (Nat.le_of_ble_eq_true rfl) ?_
  intro p e s m below meth c A ls FX hP hD hS hl
  obtain ⟨FC, hr, hlk, hKn, hA, hnm⟩ := id FX
  have FC : CallFix p m c cX12_init 1 s _ BIG RX12 := FC
  obtain ⟨hx, hb, hml, hown, hB⟩ := id FC
  have hl : lv_has ls 1 [(0, .ref h0)] := hl
  refine lv_aload_n hx hb dX12_init_0 rfl (lv_at hl 0 rfl) ?_
  refine W.objInit hx hb hown (hB _ b_457) (hB _ b_231) (hB _ b_232) rfl (by rw [hml]; exact hl.1) rfl dX12_init_1 (Nat.le_of_ble_eq_true rfl) (Nat.le_of_ble_eq_true rfl) ?_
  refine W.eq (g2 := F0 m 4 ls []) rfl ?_
  refine lv_aload_n hx hb dX12_init_4 rfl (lv_at hl 0 rfl) ?_
  refine lv_sipush (v := 225) hx hb dX12_init_5 (by decide) ?_
  refine g_newa FC hKn hP hD hS hA (atype := .int) b_233 rfl 0 rfl (fun _ h => by cases h) (a0 := (225, .inl (fun _ => 0))) (fun _ => rfl) (by decide) (by decide) (by decide) (Nat.le_of_ble_eq_true rfl) (Nat.le_of_ble_eq_true rfl) dX12_init_8 (fun q1 H hP hD hS => ?_)
  have hP : va_P g.1 vwCl [(h0, .inr (12, [.int 0, .null, .null, .null, .null, .int 0, .null, .int 0, .int 0, .int 0, .int 0, .int 0, .int 0, .int 0, .null, .null, .int 0, .int 0, .int 0, .null, .null, .int 0, .int 0, .null, .null, .null, .null, .null, .null])), (q1, .inl (g.2 0, 225, .inl (fun _ => 0)))] H := hP
  have hD : va_D A [(h0, .inr (12, [.int 0, .null, .null, .null, .null, .int 0, .null, .int 0, .int 0, .int 0, .int 0, .int 0, .int 0, .int 0, .null, .null, .int 0, .int 0, .int 0, .null, .null, .int 0, .int 0, .null, .null, .null, .null, .null, .null])), (q1, .inl (g.2 0, 225, .inl (fun _ => 0)))] := hD
  refine g_putF (C := RX12) (T := TX12) (N := 29) (ci := 12) (v := .ref q1) FC hKn hP hD hS i_X12 tyX12 tyX12_ok nmX12 0 rfl rfl 1 (by decide) b_362 rfl hnm rfl rfl rfl (Nat.le_of_ble_eq_true rfl) dX12_init_10 (fun H locs hP hD hS => ?_)
  have hP : va_P g.1 vwCl [(h0, .inr (12, [.int 0, .ref q1, .null, .null, .null, .int 0, .null, .int 0, .int 0, .int 0, .int 0, .int 0, .int 0, .int 0, .null, .null, .int 0, .int 0, .int 0, .null, .null, .int 0, .int 0, .null, .null, .null, .null, .null, .null])), (q1, .inl (g.2 0, 225, .inl (fun _ => 0)))] H := hP
  have hD : va_D A [(h0, .inr (12, [.int 0, .ref q1, .null, .null, .null, .int 0, .null, .int 0, .int 0, .int 0, .int 0, .int 0, .int 0, .int 0, .null, .null, .int 0, .int 0, .int 0, .null, .null, .int 0, .int 0, .null, .null, .null, .null, .null, .null])), (q1, .inl (g.2 0, 225, .inl (fun _ => 0)))] := hD
  refine lv_aload_n hx hb dX12_init_13 rfl (lv_at hl 0 rfl) ?_
  refine lv_sipush (v := 675) hx hb dX12_init_14 (by decide) ?_
  refine g_newa FC hKn hP hD hS hA (atype := .int) b_233 rfl 0 rfl (fun _ h => by cases h) (a0 := (675, .inl (fun _ => 0))) (fun _ => rfl) (by decide) (by decide) (by decide) (Nat.le_of_ble_eq_true rfl) (Nat.le_of_ble_eq_true rfl) dX12_init_17 (fun q2 H hP hD hS => ?_)
  have hP : va_P g.1 vwCl [(h0, .inr (12, [.int 0, .ref q1, .null, .null, .null, .int 0, .null, .int 0, .int 0, .int 0, .int 0, .int 0, .int 0, .int 0, .null, .null, .int 0, .int 0, .int 0, .null, .null, .int 0, .int 0, .null, .null, .null, .null, .null, .null])), (q1, .inl (g.2 0, 225, .inl (fun _ => 0))), (q2, .inl (g.2 0, 675, .inl (fun _ => 0)))] H := hP
  have hD : va_D A [(h0, .inr (12, [.int 0, .ref q1, .null, .null, .null, .int 0, .null, .int 0, .int 0, .int 0, .int 0, .int 0, .int 0, .int 0, .null, .null, .int 0, .int 0, .int 0, .null, .null, .int 0, .int 0, .null, .null, .null, .null, .null, .null])), (q1, .inl (g.2 0, 225, .inl (fun _ => 0))), (q2, .inl (g.2 0, 675, .inl (fun _ => 0)))] := hD
  refine g_putF (C := RX12) (T := TX12) (N := 29) (ci := 12) (v := .ref q2) FC hKn hP hD hS i_X12 tyX12 tyX12_ok nmX12 0 rfl rfl 2 (by decide) b_443 rfl hnm rfl rfl rfl (Nat.le_of_ble_eq_true rfl) dX12_init_19 (fun H locs hP hD hS => ?_)
  have hP : va_P g.1 vwCl [(h0, .inr (12, [.int 0, .ref q1, .ref q2, .null, .null, .int 0, .null, .int 0, .int 0, .int 0, .int 0, .int 0, .int 0, .int 0, .null, .null, .int 0, .int 0, .int 0, .null, .null, .int 0, .int 0, .null, .null, .null, .null, .null, .null])), (q1, .inl (g.2 0, 225, .inl (fun _ => 0))), (q2, .inl (g.2 0, 675, .inl (fun _ => 0)))] H := hP
  have hD : va_D A [(h0, .inr (12, [.int 0, .ref q1, .ref q2, .null, .null, .int 0, .null, .int 0, .int 0, .int 0, .int 0, .int 0, .int 0, .int 0, .null, .null, .int 0, .int 0, .int 0, .null, .null, .int 0, .int 0, .null, .null, .null, .null, .null, .null])), (q1, .inl (g.2 0, 225, .inl (fun _ => 0))), (q2, .inl (g.2 0, 675, .inl (fun _ => 0)))] := hD
  refine lv_aload_n hx hb dX12_init_22 rfl (lv_at hl 0 rfl) ?_
  refine lv_iconst (v := 3) hx hb dX12_init_23 (by decide) ?_
  refine g_newa FC hKn hP hD hS hA (atype := .boolean) b_276 rfl 2 rfl (fun _ h => by cases h) (a0 := (3, .inl (fun _ => 0))) (fun _ => rfl) (by decide) (by decide) (by decide) (Nat.le_of_ble_eq_true rfl) (Nat.le_of_ble_eq_true rfl) dX12_init_24 (fun q3 H hP hD hS => ?_)
  have hP : va_P g.1 vwCl [(h0, .inr (12, [.int 0, .ref q1, .ref q2, .null, .null, .int 0, .null, .int 0, .int 0, .int 0, .int 0, .int 0, .int 0, .int 0, .null, .null, .int 0, .int 0, .int 0, .null, .null, .int 0, .int 0, .null, .null, .null, .null, .null, .null])), (q1, .inl (g.2 0, 225, .inl (fun _ => 0))), (q2, .inl (g.2 0, 675, .inl (fun _ => 0))), (q3, .inl (g.2 2, 3, .inl (fun _ => 0)))] H := hP
  have hD : va_D A [(h0, .inr (12, [.int 0, .ref q1, .ref q2, .null, .null, .int 0, .null, .int 0, .int 0, .int 0, .int 0, .int 0, .int 0, .int 0, .null, .null, .int 0, .int 0, .int 0, .null, .null, .int 0, .int 0, .null, .null, .null, .null, .null, .null])), (q1, .inl (g.2 0, 225, .inl (fun _ => 0))), (q2, .inl (g.2 0, 675, .inl (fun _ => 0))), (q3, .inl (g.2 2, 3, .inl (fun _ => 0)))] := hD
  refine g_putF (C := RX12) (T := TX12) (N := 29) (ci := 12) (v := .ref q3) FC hKn hP hD hS i_X12 tyX12 tyX12_ok nmX12 0 rfl rfl 3 (by decide) b_442 rfl hnm rfl rfl rfl (Nat.le_of_ble_eq_true rfl) dX12_init_26 (fun H locs hP hD hS => ?_)
  have hP : va_P g.1 vwCl [(h0, .inr (12, [.int 0, .ref q1, .ref q2, .ref q3, .null, .int 0, .null, .int 0, .int 0, .int 0, .int 0, .int 0, .int 0, .int 0, .null, .null, .int 0, .int 0, .int 0, .null, .null, .int 0, .int 0, .null, .null, .null, .null, .null, .null])), (q1, .inl (g.2 0, 225, .inl (fun _ => 0))), (q2, .inl (g.2 0, 675, .inl (fun _ => 0))), (q3, .inl (g.2 2, 3, .inl (fun _ => 0)))] H := hP
  have hD : va_D A [(h0, .inr (12, [.int 0, .ref q1, .ref q2, .ref q3, .null, .int 0, .null, .int 0, .int 0, .int 0, .int 0, .int 0, .int 0, .int 0, .null, .null, .int 0, .int 0, .int 0, .null, .null, .int 0, .int 0, .null, .null, .null, .null, .null, .null])), (q1, .inl (g.2 0, 225, .inl (fun _ => 0))), (q2, .inl (g.2 0, 675, .inl (fun _ => 0))), (q3, .inl (g.2 2, 3, .inl (fun _ => 0)))] := hD
  refine lv_aload_n hx hb dX12_init_29 rfl (lv_at hl 0 rfl) ?_
  refine lv_sipush (v := 900) hx hb dX12_init_30 (by decide) ?_
  refine g_newa FC hKn hP hD hS hA (atype := .byte) b_239 rfl 1 rfl (fun _ h => by cases h) (a0 := (900, .inl (fun _ => 0))) (fun _ => rfl) (by decide) (by decide) (by decide) (Nat.le_of_ble_eq_true rfl) (Nat.le_of_ble_eq_true rfl) dX12_init_33 (fun q4 H hP hD hS => ?_)
  have hP : va_P g.1 vwCl [(h0, .inr (12, [.int 0, .ref q1, .ref q2, .ref q3, .null, .int 0, .null, .int 0, .int 0, .int 0, .int 0, .int 0, .int 0, .int 0, .null, .null, .int 0, .int 0, .int 0, .null, .null, .int 0, .int 0, .null, .null, .null, .null, .null, .null])), (q1, .inl (g.2 0, 225, .inl (fun _ => 0))), (q2, .inl (g.2 0, 675, .inl (fun _ => 0))), (q3, .inl (g.2 2, 3, .inl (fun _ => 0))), (q4, .inl (g.2 1, 900, .inl (fun _ => 0)))] H := hP
  have hD : va_D A [(h0, .inr (12, [.int 0, .ref q1, .ref q2, .ref q3, .null, .int 0, .null, .int 0, .int 0, .int 0, .int 0, .int 0, .int 0, .int 0, .null, .null, .int 0, .int 0, .int 0, .null, .null, .int 0, .int 0, .null, .null, .null, .null, .null, .null])), (q1, .inl (g.2 0, 225, .inl (fun _ => 0))), (q2, .inl (g.2 0, 675, .inl (fun _ => 0))), (q3, .inl (g.2 2, 3, .inl (fun _ => 0))), (q4, .inl (g.2 1, 900, .inl (fun _ => 0)))] := hD
  refine g_putF (C := RX12) (T := TX12) (N := 29) (ci := 12) (v := .ref q4) FC hKn hP hD hS i_X12 tyX12 tyX12_ok nmX12 0 rfl rfl 4 (by decide) b_448 rfl hnm rfl rfl rfl (Nat.le_of_ble_eq_true rfl) dX12_init_35 (fun H locs hP hD hS => ?_)
  have hP : va_P g.1 vwCl [(h0, .inr (12, [.int 0, .ref q1, .ref q2, .ref q3, .ref q4, .int 0, .null, .int 0, .int 0, .int 0, .int 0, .int 0, .int 0, .int 0, .null, .null, .int 0, .int 0, .int 0, .null, .null, .int 0, .int 0, .null, .null, .null, .null, .null, .null])), (q1, .inl (g.2 0, 225, .inl (fun _ => 0))), (q2, .inl (g.2 0, 675, .inl (fun _ => 0))), (q3, .inl (g.2 2, 3, .inl (fun _ => 0))), (q4, .inl (g.2 1, 900, .inl (fun _ => 0)))] H := hP
  have hD : va_D A [(h0, .inr (12, [.int 0, .ref q1, .ref q2, .ref q3, .ref q4, .int 0, .null, .int 0, .int 0, .int 0, .int 0, .int 0, .int 0, .int 0, .null, .null, .int 0, .int 0, .int 0, .null, .null, .int 0, .int 0, .null, .null, .null, .null, .null, .null])), (q1, .inl (g.2 0, 225, .inl (fun _ => 0))), (q2, .inl (g.2 0, 675, .inl (fun _ => 0))), (q3, .inl (g.2 2, 3, .inl (fun _ => 0))), (q4, .inl (g.2 1, 900, .inl (fun _ => 0)))] := hD
  refine lv_aload_n hx hb dX12_init_38 rfl (lv_at hl 0 rfl) ?_
  refine lv_iconst (v := 5) hx hb dX12_init_39 (by decide) ?_
  refine g_newa FC hKn hP hD hS hA (atype := .int) b_233 rfl 0 rfl (fun _ h => by cases h) (a0 := (5, .inl (fun _ => 0))) (fun _ => rfl) (by decide) (by decide) (by decide) (Nat.le_of_ble_eq_true rfl) (Nat.le_of_ble_eq_true rfl) dX12_init_40 (fun q5 H hP hD hS => ?_)
  have hP : va_P g.1 vwCl [(h0, .inr (12, [.int 0, .ref q1, .ref q2, .ref q3, .ref q4, .int 0, .null, .int 0, .int 0, .int 0, .int 0, .int 0, .int 0, .int 0, .null, .null, .int 0, .int 0, .int 0, .null, .null, .int 0, .int 0, .null, .null, .null, .null, .null, .null])), (q1, .inl (g.2 0, 225, .inl (fun _ => 0))), (q2, .inl (g.2 0, 675, .inl (fun _ => 0))), (q3, .inl (g.2 2, 3, .inl (fun _ => 0))), (q4, .inl (g.2 1, 900, .inl (fun _ => 0))), (q5, .inl (g.2 0, 5, .inl (fun _ => 0)))] H := hP
  have hD : va_D A [(h0, .inr (12, [.int 0, .ref q1, .ref q2, .ref q3, .ref q4, .int 0, .null, .int 0, .int 0, .int 0, .int 0, .int 0, .int 0, .int 0, .null, .null, .int 0, .int 0, .int 0, .null, .null, .int 0, .int 0, .null, .null, .null, .null, .null, .null])), (q1, .inl (g.2 0, 225, .inl (fun _ => 0))), (q2, .inl (g.2 0, 675, .inl (fun _ => 0))), (q3, .inl (g.2 2, 3, .inl (fun _ => 0))), (q4, .inl (g.2 1, 900, .inl (fun _ => 0))), (q5, .inl (g.2 0, 5, .inl (fun _ => 0)))] := hD
  refine g_putF (C := RX12) (T := TX12) (N := 29) (ci := 12) (v := .ref q5) FC hKn hP hD hS i_X12 tyX12 tyX12_ok nmX12 0 rfl rfl 6 (by decide) b_447 rfl hnm rfl rfl rfl (Nat.le_of_ble_eq_true rfl) dX12_init_42 (fun H locs hP hD hS => ?_)
  have hP : va_P g.1 vwCl [(h0, .inr (12, [.int 0, .ref q1, .ref q2, .ref q3, .ref q4, .int 0, .ref q5, .int 0, .int 0, .int 0, .int 0, .int 0, .int 0, .int 0, .null, .null, .int 0, .int 0, .int 0, .null, .null, .int 0, .int 0, .null, .null, .null, .null, .null, .null])), (q1, .inl (g.2 0, 225, .inl (fun _ => 0))), (q2, .inl (g.2 0, 675, .inl (fun _ => 0))), (q3, .inl (g.2 2, 3, .inl (fun _ => 0))), (q4, .inl (g.2 1, 900, .inl (fun _ => 0))), (q5, .inl (g.2 0, 5, .inl (fun _ => 0)))] H := hP
  have hD : va_D A [(h0, .inr (12, [.int 0, .ref q1, .ref q2, .ref q3, .ref q4, .int 0, .ref q5, .int 0, .int 0, .int 0, .int 0, .int 0, .int 0, .int 0, .null, .null, .int 0, .int 0, .int 0, .null, .null, .int 0, .int 0, .null, .null, .null, .null, .null, .null])), (q1, .inl (g.2 0, 225, .inl (fun _ => 0))), (q2, .inl (g.2 0, 675, .inl (fun _ => 0))), (q3, .inl (g.2 2, 3, .inl (fun _ => 0))), (q4, .inl (g.2 1, 900, .inl (fun _ => 0))), (q5, .inl (g.2 0, 5, .inl (fun _ => 0)))] := hD
  refine lv_aload_n hx hb dX12_init_45 rfl (lv_at hl 0 rfl) ?_
  refine lv_iconst (v := -1) hx hb dX12_init_46 (by decide) ?_
  refine g_put (C := RX12) (T := TX12) (N := 29) (ci := 12) (v := .int (-1)) FC hKn hP hD hS i_X12 tyX12 tyX12_ok nmX12 0 rfl rfl 13 (by decide) b_437 rfl rfl rfl (Nat.le_of_ble_eq_true rfl) dX12_init_47 (fun H locs hP hD hS => ?_)
  have hP : va_P g.1 vwCl [(h0, .inr (12, [.int 0, .ref q1, .ref q2, .ref q3, .ref q4, .int 0, .ref q5, .int 0, .int 0, .int 0, .int 0, .int 0, .int 0, .int (-1), .null, .null, .int 0, .int 0, .int 0, .null, .null, .int 0, .int 0, .null, .null, .null, .null, .null, .null])), (q1, .inl (g.2 0, 225, .inl (fun _ => 0))), (q2, .inl (g.2 0, 675, .inl (fun _ => 0))), (q3, .inl (g.2 2, 3, .inl (fun _ => 0))), (q4, .inl (g.2 1, 900, .inl (fun _ => 0))), (q5, .inl (g.2 0, 5, .inl (fun _ => 0)))] H := hP
  have hD : va_D A [(h0, .inr (12, [.int 0, .ref q1, .ref q2, .ref q3, .ref q4, .int 0, .ref q5, .int 0, .int 0, .int 0, .int 0, .int 0, .int 0, .int (-1), .null, .null, .int 0, .int 0, .int 0, .null, .null, .int 0, .int 0, .null, .null, .null, .null, .null, .null])), (q1, .inl (g.2 0, 225, .inl (fun _ => 0))), (q2, .inl (g.2 0, 675, .inl (fun _ => 0))), (q3, .inl (g.2 2, 3, .inl (fun _ => 0))), (q4, .inl (g.2 1, 900, .inl (fun _ => 0))), (q5, .inl (g.2 0, 5, .inl (fun _ => 0)))] := hD
  refine lv_aload_n hx hb dX12_init_50 rfl (lv_at hl 0 rfl) ?_
  refine lv_sipush (v := 225) hx hb dX12_init_51 (by decide) ?_
  refine g_newa FC hKn hP hD hS hA (atype := .int) b_233 rfl 0 rfl (fun _ h => by cases h) (a0 := (225, .inl (fun _ => 0))) (fun _ => rfl) (by decide) (by decide) (by decide) (Nat.le_of_ble_eq_true rfl) (Nat.le_of_ble_eq_true rfl) dX12_init_54 (fun q6 H hP hD hS => ?_)
  have hP : va_P g.1 vwCl [(h0, .inr (12, [.int 0, .ref q1, .ref q2, .ref q3, .ref q4, .int 0, .ref q5, .int 0, .int 0, .int 0, .int 0, .int 0, .int 0, .int (-1), .null, .null, .int 0, .int 0, .int 0, .null, .null, .int 0, .int 0, .null, .null, .null, .null, .null, .null])), (q1, .inl (g.2 0, 225, .inl (fun _ => 0))), (q2, .inl (g.2 0, 675, .inl (fun _ => 0))), (q3, .inl (g.2 2, 3, .inl (fun _ => 0))), (q4, .inl (g.2 1, 900, .inl (fun _ => 0))), (q5, .inl (g.2 0, 5, .inl (fun _ => 0))), (q6, .inl (g.2 0, 225, .inl (fun _ => 0)))] H := hP
  have hD : va_D A [(h0, .inr (12, [.int 0, .ref q1, .ref q2, .ref q3, .ref q4, .int 0, .ref q5, .int 0, .int 0, .int 0, .int 0, .int 0, .int 0, .int (-1), .null, .null, .int 0, .int 0, .int 0, .null, .null, .int 0, .int 0, .null, .null, .null, .null, .null, .null])), (q1, .inl (g.2 0, 225, .inl (fun _ => 0))), (q2, .inl (g.2 0, 675, .inl (fun _ => 0))), (q3, .inl (g.2 2, 3, .inl (fun _ => 0))), (q4, .inl (g.2 1, 900, .inl (fun _ => 0))), (q5, .inl (g.2 0, 5, .inl (fun _ => 0))), (q6, .inl (g.2 0, 225, .inl (fun _ => 0)))] := hD
  refine g_putF (C := RX12) (T := TX12) (N := 29) (ci := 12) (v := .ref q6) FC hKn hP hD hS i_X12 tyX12 tyX12_ok nmX12 0 rfl rfl 14 (by decide) b_456 rfl hnm rfl rfl rfl (Nat.le_of_ble_eq_true rfl) dX12_init_56 (fun H locs hP hD hS => ?_)
  have hP : va_P g.1 vwCl [(h0, .inr (12, [.int 0, .ref q1, .ref q2, .ref q3, .ref q4, .int 0, .ref q5, .int 0, .int 0, .int 0, .int 0, .int 0, .int 0, .int (-1), .ref q6, .null, .int 0, .int 0, .int 0, .null, .null, .int 0, .int 0, .null, .null, .null, .null, .null, .null])), (q1, .inl (g.2 0, 225, .inl (fun _ => 0))), (q2, .inl (g.2 0, 675, .inl (fun _ => 0))), (q3, .inl (g.2 2, 3, .inl (fun _ => 0))), (q4, .inl (g.2 1, 900, .inl (fun _ => 0))), (q5, .inl (g.2 0, 5, .inl (fun _ => 0))), (q6, .inl (g.2 0, 225, .inl (fun _ => 0)))] H := hP
  have hD : va_D A [(h0, .inr (12, [.int 0, .ref q1, .ref q2, .ref q3, .ref q4, .int 0, .ref q5, .int 0, .int 0, .int 0, .int 0, .int 0, .int 0, .int (-1), .ref q6, .null, .int 0, .int 0, .int 0, .null, .null, .int 0, .int 0, .null, .null, .null, .null, .null, .null])), (q1, .inl (g.2 0, 225, .inl (fun _ => 0))), (q2, .inl (g.2 0, 675, .inl (fun _ => 0))), (q3, .inl (g.2 2, 3, .inl (fun _ => 0))), (q4, .inl (g.2 1, 900, .inl (fun _ => 0))), (q5, .inl (g.2 0, 5, .inl (fun _ => 0))), (q6, .inl (g.2 0, 225, .inl (fun _ => 0)))] := hD
  refine lv_aload_n hx hb dX12_init_59 rfl (lv_at hl 0 rfl) ?_
  refine lv_sipush (v := 2816) hx hb dX12_init_60 (by decide) ?_
  refine g_newa FC hKn hP hD hS hA (atype := .int) b_233 rfl 0 rfl (fun _ h => by cases h) (a0 := (2816, .inl (fun _ => 0))) (fun _ => rfl) (by decide) (by decide) (by decide) (Nat.le_of_ble_eq_true rfl) (Nat.le_of_ble_eq_true rfl) dX12_init_63 (fun q7 H hP hD hS => ?_)
  have hP : va_P g.1 vwCl [(h0, .inr (12, [.int 0, .ref q1, .ref q2, .ref q3, .ref q4, .int 0, .ref q5, .int 0, .int 0, .int 0, .int 0, .int 0, .int 0, .int (-1), .ref q6, .null, .int 0, .int 0, .int 0, .null, .null, .int 0, .int 0, .null, .null, .null, .null, .null, .null])), (q1, .inl (g.2 0, 225, .inl (fun _ => 0))), (q2, .inl (g.2 0, 675, .inl (fun _ => 0))), (q3, .inl (g.2 2, 3, .inl (fun _ => 0))), (q4, .inl (g.2 1, 900, .inl (fun _ => 0))), (q5, .inl (g.2 0, 5, .inl (fun _ => 0))), (q6, .inl (g.2 0, 225, .inl (fun _ => 0))), (q7, .inl (g.2 0, 2816, .inl (fun _ => 0)))] H := hP
  have hD : va_D A [(h0, .inr (12, [.int 0, .ref q1, .ref q2, .ref q3, .ref q4, .int 0, .ref q5, .int 0, .int 0, .int 0, .int 0, .int 0, .int 0, .int (-1), .ref q6, .null, .int 0, .int 0, .int 0, .null, .null, .int 0, .int 0, .null, .null, .null, .null, .null, .null])), (q1, .inl (g.2 0, 225, .inl (fun _ => 0))), (q2, .inl (g.2 0, 675, .inl (fun _ => 0))), (q3, .inl (g.2 2, 3, .inl (fun _ => 0))), (q4, .inl (g.2 1, 900, .inl (fun _ => 0))), (q5, .inl (g.2 0, 5, .inl (fun _ => 0))), (q6, .inl (g.2 0, 225, .inl (fun _ => 0))), (q7, .inl (g.2 0, 2816, .inl (fun _ => 0)))] := hD
  refine g_putF (C := RX12) (T := TX12) (N := 29) (ci := 12) (v := .ref q7) FC hKn hP hD hS i_X12 tyX12 tyX12_ok nmX12 0 rfl rfl 15 (by decide) b_458 rfl hnm rfl rfl rfl (Nat.le_of_ble_eq_true rfl) dX12_init_65 (fun H locs hP hD hS => ?_)
  have hP : va_P g.1 vwCl [(h0, .inr (12, [.int 0, .ref q1, .ref q2, .ref q3, .ref q4, .int 0, .ref q5, .int 0, .int 0, .int 0, .int 0, .int 0, .int 0, .int (-1), .ref q6, .ref q7, .int 0, .int 0, .int 0, .null, .null, .int 0, .int 0, .null, .null, .null, .null, .null, .null])), (q1, .inl (g.2 0, 225, .inl (fun _ => 0))), (q2, .inl (g.2 0, 675, .inl (fun _ => 0))), (q3, .inl (g.2 2, 3, .inl (fun _ => 0))), (q4, .inl (g.2 1, 900, .inl (fun _ => 0))), (q5, .inl (g.2 0, 5, .inl (fun _ => 0))), (q6, .inl (g.2 0, 225, .inl (fun _ => 0))), (q7, .inl (g.2 0, 2816, .inl (fun _ => 0)))] H := hP
  have hD : va_D A [(h0, .inr (12, [.int 0, .ref q1, .ref q2, .ref q3, .ref q4, .int 0, .ref q5, .int 0, .int 0, .int 0, .int 0, .int 0, .int 0, .int (-1), .ref q6, .ref q7, .int 0, .int 0, .int 0, .null, .null, .int 0, .int 0, .null, .null, .null, .null, .null, .null])), (q1, .inl (g.2 0, 225, .inl (fun _ => 0))), (q2, .inl (g.2 0, 675, .inl (fun _ => 0))), (q3, .inl (g.2 2, 3, .inl (fun _ => 0))), (q4, .inl (g.2 1, 900, .inl (fun _ => 0))), (q5, .inl (g.2 0, 5, .inl (fun _ => 0))), (q6, .inl (g.2 0, 225, .inl (fun _ => 0))), (q7, .inl (g.2 0, 2816, .inl (fun _ => 0)))] := hD
  refine lv_aload_n hx hb dX12_init_68 rfl (lv_at hl 0 rfl) ?_
  refine lv_bipush (v := 6) hx hb dX12_init_69 (by decide) ?_
  refine g_newa FC hKn hP hD hS hA (atype := .int) b_233 rfl 0 rfl (fun _ h => by cases h) (a0 := (6, .inl (fun _ => 0))) (fun _ => rfl) (by decide) (by decide) (by decide) (Nat.le_of_ble_eq_true rfl) (Nat.le_of_ble_eq_true rfl) dX12_init_71 (fun q8 H hP hD hS => ?_)
  have hP : va_P g.1 vwCl [(h0, .inr (12, [.int 0, .ref q1, .ref q2, .ref q3, .ref q4, .int 0, .ref q5, .int 0, .int 0, .int 0, .int 0, .int 0, .int 0, .int (-1), .ref q6, .ref q7, .int 0, .int 0, .int 0, .null, .null, .int 0, .int 0, .null, .null, .null, .null, .null, .null])), (q1, .inl (g.2 0, 225, .inl (fun _ => 0))), (q2, .inl (g.2 0, 675, .inl (fun _ => 0))), (q3, .inl (g.2 2, 3, .inl (fun _ => 0))), (q4, .inl (g.2 1, 900, .inl (fun _ => 0))), (q5, .inl (g.2 0, 5, .inl (fun _ => 0))), (q6, .inl (g.2 0, 225, .inl (fun _ => 0))), (q7, .inl (g.2 0, 2816, .inl (fun _ => 0))), (q8, .inl (g.2 0, 6, .inl (fun _ => 0)))] H := hP
  have hD : va_D A [(h0, .inr (12, [.int 0, .ref q1, .ref q2, .ref q3, .ref q4, .int 0, .ref q5, .int 0, .int 0, .int 0, .int 0, .int 0, .int 0, .int (-1), .ref q6, .ref q7, .int 0, .int 0, .int 0, .null, .null, .int 0, .int 0, .null, .null, .null, .null, .null, .null])), (q1, .inl (g.2 0, 225, .inl (fun _ => 0))), (q2, .inl (g.2 0, 675, .inl (fun _ => 0))), (q3, .inl (g.2 2, 3, .inl (fun _ => 0))), (q4, .inl (g.2 1, 900, .inl (fun _ => 0))), (q5, .inl (g.2 0, 5, .inl (fun _ => 0))), (q6, .inl (g.2 0, 225, .inl (fun _ => 0))), (q7, .inl (g.2 0, 2816, .inl (fun _ => 0))), (q8, .inl (g.2 0, 6, .inl (fun _ => 0)))] := hD
  refine g_putF (C := RX12) (T := TX12) (N := 29) (ci := 12) (v := .ref q8) FC hKn hP hD hS i_X12 tyX12 tyX12_ok nmX12 0 rfl rfl 19 (by decide) b_459 rfl hnm rfl rfl rfl (Nat.le_of_ble_eq_true rfl) dX12_init_73 (fun H locs hP hD hS => ?_)
  have hP : va_P g.1 vwCl [(h0, .inr (12, [.int 0, .ref q1, .ref q2, .ref q3, .ref q4, .int 0, .ref q5, .int 0, .int 0, .int 0, .int 0, .int 0, .int 0, .int (-1), .ref q6, .ref q7, .int 0, .int 0, .int 0, .ref q8, .null, .int 0, .int 0, .null, .null, .null, .null, .null, .null])), (q1, .inl (g.2 0, 225, .inl (fun _ => 0))), (q2, .inl (g.2 0, 675, .inl (fun _ => 0))), (q3, .inl (g.2 2, 3, .inl (fun _ => 0))), (q4, .inl (g.2 1, 900, .inl (fun _ => 0))), (q5, .inl (g.2 0, 5, .inl (fun _ => 0))), (q6, .inl (g.2 0, 225, .inl (fun _ => 0))), (q7, .inl (g.2 0, 2816, .inl (fun _ => 0))), (q8, .inl (g.2 0, 6, .inl (fun _ => 0)))] H := hP
  have hD : va_D A [(h0, .inr (12, [.int 0, .ref q1, .ref q2, .ref q3, .ref q4, .int 0, .ref q5, .int 0, .int 0, .int 0, .int 0, .int 0, .int 0, .int (-1), .ref q6, .ref q7, .int 0, .int 0, .int 0, .ref q8, .null, .int 0, .int 0, .null, .null, .null, .null, .null, .null])), (q1, .inl (g.2 0, 225, .inl (fun _ => 0))), (q2, .inl (g.2 0, 675, .inl (fun _ => 0))), (q3, .inl (g.2 2, 3, .inl (fun _ => 0))), (q4, .inl (g.2 1, 900, .inl (fun _ => 0))), (q5, .inl (g.2 0, 5, .inl (fun _ => 0))), (q6, .inl (g.2 0, 225, .inl (fun _ => 0))), (q7, .inl (g.2 0, 2816, .inl (fun _ => 0))), (q8, .inl (g.2 0, 6, .inl (fun _ => 0)))] := hD
  refine lv_aload_n hx hb dX12_init_76 rfl (lv_at hl 0 rfl) ?_
  refine lv_bipush (v := 6) hx hb dX12_init_77 (by decide) ?_
  refine g_newa FC hKn hP hD hS hA (atype := .int) b_233 rfl 0 rfl (fun _ h => by cases h) (a0 := (6, .inl (fun _ => 0))) (fun _ => rfl) (by decide) (by decide) (by decide) (Nat.le_of_ble_eq_true rfl) (Nat.le_of_ble_eq_true rfl) dX12_init_79 (fun q9 H hP hD hS => ?_)
  have hP : va_P g.1 vwCl [(h0, .inr (12, [.int 0, .ref q1, .ref q2, .ref q3, .ref q4, .int 0, .ref q5, .int 0, .int 0, .int 0, .int 0, .int 0, .int 0, .int (-1), .ref q6, .ref q7, .int 0, .int 0, .int 0, .ref q8, .null, .int 0, .int 0, .null, .null, .null, .null, .null, .null])), (q1, .inl (g.2 0, 225, .inl (fun _ => 0))), (q2, .inl (g.2 0, 675, .inl (fun _ => 0))), (q3, .inl (g.2 2, 3, .inl (fun _ => 0))), (q4, .inl (g.2 1, 900, .inl (fun _ => 0))), (q5, .inl (g.2 0, 5, .inl (fun _ => 0))), (q6, .inl (g.2 0, 225, .inl (fun _ => 0))), (q7, .inl (g.2 0, 2816, .inl (fun _ => 0))), (q8, .inl (g.2 0, 6, .inl (fun _ => 0))), (q9, .inl (g.2 0, 6, .inl (fun _ => 0)))] H := hP
  have hD : va_D A [(h0, .inr (12, [.int 0, .ref q1, .ref q2, .ref q3, .ref q4, .int 0, .ref q5, .int 0, .int 0, .int 0, .int 0, .int 0, .int 0, .int (-1), .ref q6, .ref q7, .int 0, .int 0, .int 0, .ref q8, .null, .int 0, .int 0, .null, .null, .null, .null, .null, .null])), (q1, .inl (g.2 0, 225, .inl (fun _ => 0))), (q2, .inl (g.2 0, 675, .inl (fun _ => 0))), (q3, .inl (g.2 2, 3, .inl (fun _ => 0))), (q4, .inl (g.2 1, 900, .inl (fun _ => 0))), (q5, .inl (g.2 0, 5, .inl (fun _ => 0))), (q6, .inl (g.2 0, 225, .inl (fun _ => 0))), (q7, .inl (g.2 0, 2816, .inl (fun _ => 0))), (q8, .inl (g.2 0, 6, .inl (fun _ => 0))), (q9, .inl (g.2 0, 6, .inl (fun _ => 0)))] := hD
  refine g_putF (C := RX12) (T := TX12) (N := 29) (ci := 12) (v := .ref q9) FC hKn hP hD hS i_X12 tyX12 tyX12_ok nmX12 0 rfl rfl 20 (by decide) b_460 rfl hnm rfl rfl rfl (Nat.le_of_ble_eq_true rfl) dX12_init_81 (fun H locs hP hD hS => ?_)
  have hP : va_P g.1 vwCl [(h0, .inr (12, [.int 0, .ref q1, .ref q2, .ref q3, .ref q4, .int 0, .ref q5, .int 0, .int 0, .int 0, .int 0, .int 0, .int 0, .int (-1), .ref q6, .ref q7, .int 0, .int 0, .int 0, .ref q8, .ref q9, .int 0, .int 0, .null, .null, .null, .null, .null, .null])), (q1, .inl (g.2 0, 225, .inl (fun _ => 0))), (q2, .inl (g.2 0, 675, .inl (fun _ => 0))), (q3, .inl (g.2 2, 3, .inl (fun _ => 0))), (q4, .inl (g.2 1, 900, .inl (fun _ => 0))), (q5, .inl (g.2 0, 5, .inl (fun _ => 0))), (q6, .inl (g.2 0, 225, .inl (fun _ => 0))), (q7, .inl (g.2 0, 2816, .inl (fun _ => 0))), (q8, .inl (g.2 0, 6, .inl (fun _ => 0))), (q9, .inl (g.2 0, 6, .inl (fun _ => 0)))] H := hP
  have hD : va_D A [(h0, .inr (12, [.int 0, .ref q1, .ref q2, .ref q3, .ref q4, .int 0, .ref q5, .int 0, .int 0, .int 0, .int 0, .int 0, .int 0, .int (-1), .ref q6, .ref q7, .int 0, .int 0, .int 0, .ref q8, .ref q9, .int 0, .int 0, .null, .null, .null, .null, .null, .null])), (q1, .inl (g.2 0, 225, .inl (fun _ => 0))), (q2, .inl (g.2 0, 675, .inl (fun _ => 0))), (q3, .inl (g.2 2, 3, .inl (fun _ => 0))), (q4, .inl (g.2 1, 900, .inl (fun _ => 0))), (q5, .inl (g.2 0, 5, .inl (fun _ => 0))), (q6, .inl (g.2 0, 225, .inl (fun _ => 0))), (q7, .inl (g.2 0, 2816, .inl (fun _ => 0))), (q8, .inl (g.2 0, 6, .inl (fun _ => 0))), (q9, .inl (g.2 0, 6, .inl (fun _ => 0)))] := hD
  refine lv_aload_n hx hb dX12_init_84 rfl (lv_at hl 0 rfl) ?_
  refine lv_bipush (v := 6) hx hb dX12_init_85 (by decide) ?_
  refine g_newa FC hKn hP hD hS hA (atype := .int) b_233 rfl 0 rfl (fun _ h => by cases h) (a0 := (6, .inl (fun _ => 0))) (fun _ => rfl) (by decide) (by decide) (by decide) (Nat.le_of_ble_eq_true rfl) (Nat.le_of_ble_eq_true rfl) dX12_init_87 (fun q10 H hP hD hS => ?_)
  have hP : va_P g.1 vwCl [(h0, .inr (12, [.int 0, .ref q1, .ref q2, .ref q3, .ref q4, .int 0, .ref q5, .int 0, .int 0, .int 0, .int 0, .int 0, .int 0, .int (-1), .ref q6, .ref q7, .int 0, .int 0, .int 0, .ref q8, .ref q9, .int 0, .int 0, .null, .null, .null, .null, .null, .null])), (q1, .inl (g.2 0, 225, .inl (fun _ => 0))), (q2, .inl (g.2 0, 675, .inl (fun _ => 0))), (q3, .inl (g.2 2, 3, .inl (fun _ => 0))), (q4, .inl (g.2 1, 900, .inl (fun _ => 0))), (q5, .inl (g.2 0, 5, .inl (fun _ => 0))), (q6, .inl (g.2 0, 225, .inl (fun _ => 0))), (q7, .inl (g.2 0, 2816, .inl (fun _ => 0))), (q8, .inl (g.2 0, 6, .inl (fun _ => 0))), (q9, .inl (g.2 0, 6, .inl (fun _ => 0))), (q10, .inl (g.2 0, 6, .inl (fun _ => 0)))] H := hP
  have hD : va_D A [(h0, .inr (12, [.int 0, .ref q1, .ref q2, .ref q3, .ref q4, .int 0, .ref q5, .int 0, .int 0, .int 0, .int 0, .int 0, .int 0, .int (-1), .ref q6, .ref q7, .int 0, .int 0, .int 0, .ref q8, .ref q9, .int 0, .int 0, .null, .null, .null, .null, .null, .null])), (q1, .inl (g.2 0, 225, .inl (fun _ => 0))), (q2, .inl (g.2 0, 675, .inl (fun _ => 0))), (q3, .inl (g.2 2, 3, .inl (fun _ => 0))), (q4, .inl (g.2 1, 900, .inl (fun _ => 0))), (q5, .inl (g.2 0, 5, .inl (fun _ => 0))), (q6, .inl (g.2 0, 225, .inl (fun _ => 0))), (q7, .inl (g.2 0, 2816, .inl (fun _ => 0))), (q8, .inl (g.2 0, 6, .inl (fun _ => 0))), (q9, .inl (g.2 0, 6, .inl (fun _ => 0))), (q10, .inl (g.2 0, 6, .inl (fun _ => 0)))] := hD
  refine g_putF (C := RX12) (T := TX12) (N := 29) (ci := 12) (v := .ref q10) FC hKn hP hD hS i_X12 tyX12 tyX12_ok nmX12 0 rfl rfl 23 (by decide) b_461 rfl hnm rfl rfl rfl (Nat.le_of_ble_eq_true rfl) dX12_init_89 (fun H locs hP hD hS => ?_)
  have hP : va_P g.1 vwCl [(h0, .inr (12, [.int 0, .ref q1, .ref q2, .ref q3, .ref q4, .int 0, .ref q5, .int 0, .int 0, .int 0, .int 0, .int 0, .int 0, .int (-1), .ref q6, .ref q7, .int 0, .int 0, .int 0, .ref q8, .ref q9, .int 0, .int 0, .ref q10, .null, .null, .null, .null, .null])), (q1, .inl (g.2 0, 225, .inl (fun _ => 0))), (q2, .inl (g.2 0, 675, .inl (fun _ => 0))), (q3, .inl (g.2 2, 3, .inl (fun _ => 0))), (q4, .inl (g.2 1, 900, .inl (fun _ => 0))), (q5, .inl (g.2 0, 5, .inl (fun _ => 0))), (q6, .inl (g.2 0, 225, .inl (fun _ => 0))), (q7, .inl (g.2 0, 2816, .inl (fun _ => 0))), (q8, .inl (g.2 0, 6, .inl (fun _ => 0))), (q9, .inl (g.2 0, 6, .inl (fun _ => 0))), (q10, .inl (g.2 0, 6, .inl (fun _ => 0)))] H := hP
  have hD : va_D A [(h0, .inr (12, [.int 0, .ref q1, .ref q2, .ref q3, .ref q4, .int 0, .ref q5, .int 0, .int 0, .int 0, .int 0, .int 0, .int 0, .int (-1), .ref q6, .ref q7, .int 0, .int 0, .int 0, .ref q8, .ref q9, .int 0, .int 0, .ref q10, .null, .null, .null, .null, .null])), (q1, .inl (g.2 0, 225, .inl (fun _ => 0))), (q2, .inl (g.2 0, 675, .inl (fun _ => 0))), (q3, .inl (g.2 2, 3, .inl (fun _ => 0))), (q4, .inl (g.2 1, 900, .inl (fun _ => 0))), (q5, .inl (g.2 0, 5, .inl (fun _ => 0))), (q6, .inl (g.2 0, 225, .inl (fun _ => 0))), (q7, .inl (g.2 0, 2816, .inl (fun _ => 0))), (q8, .inl (g.2 0, 6, .inl (fun _ => 0))), (q9, .inl (g.2 0, 6, .inl (fun _ => 0))), (q10, .inl (g.2 0, 6, .inl (fun _ => 0)))] := hD
  refine lv_aload_n hx hb dX12_init_92 rfl (lv_at hl 0 rfl) ?_
  refine lv_bipush (v := 6) hx hb dX12_init_93 (by decide) ?_
  refine g_newa FC hKn hP hD hS hA (atype := .int) b_233 rfl 0 rfl (fun _ h => by cases h) (a0 := (6, .inl (fun _ => 0))) (fun _ => rfl) (by decide) (by decide) (by decide) (Nat.le_of_ble_eq_true rfl) (Nat.le_of_ble_eq_true rfl) dX12_init_95 (fun q11 H hP hD hS => ?_)
  have hP : va_P g.1 vwCl [(h0, .inr (12, [.int 0, .ref q1, .ref q2, .ref q3, .ref q4, .int 0, .ref q5, .int 0, .int 0, .int 0, .int 0, .int 0, .int 0, .int (-1), .ref q6, .ref q7, .int 0, .int 0, .int 0, .ref q8, .ref q9, .int 0, .int 0, .ref q10, .null, .null, .null, .null, .null])), (q1, .inl (g.2 0, 225, .inl (fun _ => 0))), (q2, .inl (g.2 0, 675, .inl (fun _ => 0))), (q3, .inl (g.2 2, 3, .inl (fun _ => 0))), (q4, .inl (g.2 1, 900, .inl (fun _ => 0))), (q5, .inl (g.2 0, 5, .inl (fun _ => 0))), (q6, .inl (g.2 0, 225, .inl (fun _ => 0))), (q7, .inl (g.2 0, 2816, .inl (fun _ => 0))), (q8, .inl (g.2 0, 6, .inl (fun _ => 0))), (q9, .inl (g.2 0, 6, .inl (fun _ => 0))), (q10, .inl (g.2 0, 6, .inl (fun _ => 0))), (q11, .inl (g.2 0, 6, .inl (fun _ => 0)))] H := hP
  have hD : va_D A [(h0, .inr (12, [.int 0, .ref q1, .ref q2, .ref q3, .ref q4, .int 0, .ref q5, .int 0, .int 0, .int 0, .int 0, .int 0, .int 0, .int (-1), .ref q6, .ref q7, .int 0, .int 0, .int 0, .ref q8, .ref q9, .int 0, .int 0, .ref q10, .null, .null, .null, .null, .null])), (q1, .inl (g.2 0, 225, .inl (fun _ => 0))), (q2, .inl (g.2 0, 675, .inl (fun _ => 0))), (q3, .inl (g.2 2, 3, .inl (fun _ => 0))), (q4, .inl (g.2 1, 900, .inl (fun _ => 0))), (q5, .inl (g.2 0, 5, .inl (fun _ => 0))), (q6, .inl (g.2 0, 225, .inl (fun _ => 0))), (q7, .inl (g.2 0, 2816, .inl (fun _ => 0))), (q8, .inl (g.2 0, 6, .inl (fun _ => 0))), (q9, .inl (g.2 0, 6, .inl (fun _ => 0))), (q10, .inl (g.2 0, 6, .inl (fun _ => 0))), (q11, .inl (g.2 0, 6, .inl (fun _ => 0)))] := hD
  refine g_putF (C := RX12) (T := TX12) (N := 29) (ci := 12) (v := .ref q11) FC hKn hP hD hS i_X12 tyX12 tyX12_ok nmX12 0 rfl rfl 24 (by decide) b_462 rfl hnm rfl rfl rfl (Nat.le_of_ble_eq_true rfl) dX12_init_97 (fun H locs hP hD hS => ?_)
  have hP : va_P g.1 vwCl [(h0, .inr (12, [.int 0, .ref q1, .ref q2, .ref q3, .ref q4, .int 0, .ref q5, .int 0, .int 0, .int 0, .int 0, .int 0, .int 0, .int (-1), .ref q6, .ref q7, .int 0, .int 0, .int 0, .ref q8, .ref q9, .int 0, .int 0, .ref q10, .ref q11, .null, .null, .null, .null])), (q1, .inl (g.2 0, 225, .inl (fun _ => 0))), (q2, .inl (g.2 0, 675, .inl (fun _ => 0))), (q3, .inl (g.2 2, 3, .inl (fun _ => 0))), (q4, .inl (g.2 1, 900, .inl (fun _ => 0))), (q5, .inl (g.2 0, 5, .inl (fun _ => 0))), (q6, .inl (g.2 0, 225, .inl (fun _ => 0))), (q7, .inl (g.2 0, 2816, .inl (fun _ => 0))), (q8, .inl (g.2 0, 6, .inl (fun _ => 0))), (q9, .inl (g.2 0, 6, .inl (fun _ => 0))), (q10, .inl (g.2 0, 6, .inl (fun _ => 0))), (q11, .inl (g.2 0, 6, .inl (fun _ => 0)))] H := hP
  have hD : va_D A [(h0, .inr (12, [.int 0, .ref q1, .ref q2, .ref q3, .ref q4, .int 0, .ref q5, .int 0, .int 0, .int 0, .int 0, .int 0, .int 0, .int (-1), .ref q6, .ref q7, .int 0, .int 0, .int 0, .ref q8, .ref q9, .int 0, .int 0, .ref q10, .ref q11, .null, .null, .null, .null])), (q1, .inl (g.2 0, 225, .inl (fun _ => 0))), (q2, .inl (g.2 0, 675, .inl (fun _ => 0))), (q3, .inl (g.2 2, 3, .inl (fun _ => 0))), (q4, .inl (g.2 1, 900, .inl (fun _ => 0))), (q5, .inl (g.2 0, 5, .inl (fun _ => 0))), (q6, .inl (g.2 0, 225, .inl (fun _ => 0))), (q7, .inl (g.2 0, 2816, .inl (fun _ => 0))), (q8, .inl (g.2 0, 6, .inl (fun _ => 0))), (q9, .inl (g.2 0, 6, .inl (fun _ => 0))), (q10, .inl (g.2 0, 6, .inl (fun _ => 0))), (q11, .inl (g.2 0, 6, .inl (fun _ => 0)))] := hD
  refine lv_aload_n hx hb dX12_init_100 rfl (lv_at hl 0 rfl) ?_
  refine lv_iconst (v := 4) hx hb dX12_init_101 (by decide) ?_
  refine g_newa FC hKn hP hD hS hA (atype := .int) b_233 rfl 0 rfl (fun _ h => by cases h) (a0 := (4, .inl (fun _ => 0))) (fun _ => rfl) (by decide) (by decide) (by decide) (Nat.le_of_ble_eq_true rfl) (Nat.le_of_ble_eq_true rfl) dX12_init_102 (fun q12 H hP hD hS => ?_)
  have hP : va_P g.1 vwCl [(h0, .inr (12, [.int 0, .ref q1, .ref q2, .ref q3, .ref q4, .int 0, .ref q5, .int 0, .int 0, .int 0, .int 0, .int 0, .int 0, .int (-1), .ref q6, .ref q7, .int 0, .int 0, .int 0, .ref q8, .ref q9, .int 0, .int 0, .ref q10, .ref q11, .null, .null, .null, .null])), (q1, .inl (g.2 0, 225, .inl (fun _ => 0))), (q2, .inl (g.2 0, 675, .inl (fun _ => 0))), (q3, .inl (g.2 2, 3, .inl (fun _ => 0))), (q4, .inl (g.2 1, 900, .inl (fun _ => 0))), (q5, .inl (g.2 0, 5, .inl (fun _ => 0))), (q6, .inl (g.2 0, 225, .inl (fun _ => 0))), (q7, .inl (g.2 0, 2816, .inl (fun _ => 0))), (q8, .inl (g.2 0, 6, .inl (fun _ => 0))), (q9, .inl (g.2 0, 6, .inl (fun _ => 0))), (q10, .inl (g.2 0, 6, .inl (fun _ => 0))), (q11, .inl (g.2 0, 6, .inl (fun _ => 0))), (q12, .inl (g.2 0, 4, .inl (fun _ => 0)))] H := hP
  have hD : va_D A [(h0, .inr (12, [.int 0, .ref q1, .ref q2, .ref q3, .ref q4, .int 0, .ref q5, .int 0, .int 0, .int 0, .int 0, .int 0, .int 0, .int (-1), .ref q6, .ref q7, .int 0, .int 0, .int 0, .ref q8, .ref q9, .int 0, .int 0, .ref q10, .ref q11, .null, .null, .null, .null])), (q1, .inl (g.2 0, 225, .inl (fun _ => 0))), (q2, .inl (g.2 0, 675, .inl (fun _ => 0))), (q3, .inl (g.2 2, 3, .inl (fun _ => 0))), (q4, .inl (g.2 1, 900, .inl (fun _ => 0))), (q5, .inl (g.2 0, 5, .inl (fun _ => 0))), (q6, .inl (g.2 0, 225, .inl (fun _ => 0))), (q7, .inl (g.2 0, 2816, .inl (fun _ => 0))), (q8, .inl (g.2 0, 6, .inl (fun _ => 0))), (q9, .inl (g.2 0, 6, .inl (fun _ => 0))), (q10, .inl (g.2 0, 6, .inl (fun _ => 0))), (q11, .inl (g.2 0, 6, .inl (fun _ => 0))), (q12, .inl (g.2 0, 4, .inl (fun _ => 0)))] := hD
  refine lv_dup hx hb dX12_init_104 rfl ?_
  refine lv_iconst (v := 0) hx hb dX12_init_105 (by decide) ?_
  refine lv_iconst (v := -1) hx hb dX12_init_106 (by decide) ?_
  refine va_iast hx hb hKn.1 hP hD hS 12 0 rfl rfl (by unfold vp_in; decide) dX12_init_107 (fun H locs hP hD hS => ?_)
  have hP : va_P g.1 vwCl [(h0, .inr (12, [.int 0, .ref q1, .ref q2, .ref q3, .ref q4, .int 0, .ref q5, .int 0, .int 0, .int 0, .int 0, .int 0, .int 0, .int (-1), .ref q6, .ref q7, .int 0, .int 0, .int 0, .ref q8, .ref q9, .int 0, .int 0, .ref q10, .ref q11, .null, .null, .null, .null])), (q1, .inl (g.2 0, 225, .inl (fun _ => 0))), (q2, .inl (g.2 0, 675, .inl (fun _ => 0))), (q3, .inl (g.2 2, 3, .inl (fun _ => 0))), (q4, .inl (g.2 1, 900, .inl (fun _ => 0))), (q5, .inl (g.2 0, 5, .inl (fun _ => 0))), (q6, .inl (g.2 0, 225, .inl (fun _ => 0))), (q7, .inl (g.2 0, 2816, .inl (fun _ => 0))), (q8, .inl (g.2 0, 6, .inl (fun _ => 0))), (q9, .inl (g.2 0, 6, .inl (fun _ => 0))), (q10, .inl (g.2 0, 6, .inl (fun _ => 0))), (q11, .inl (g.2 0, 6, .inl (fun _ => 0))), (q12, .inl (g.2 0, 4, .inl (upd (fun _ => 0) 0 (-1))))] H := hP
  have hD : va_D A [(h0, .inr (12, [.int 0, .ref q1, .ref q2, .ref q3, .ref q4, .int 0, .ref q5, .int 0, .int 0, .int 0, .int 0, .int 0, .int 0, .int (-1), .ref q6, .ref q7, .int 0, .int 0, .int 0, .ref q8, .ref q9, .int 0, .int 0, .ref q10, .ref q11, .null, .null, .null, .null])), (q1, .inl (g.2 0, 225, .inl (fun _ => 0))), (q2, .inl (g.2 0, 675, .inl (fun _ => 0))), (q3, .inl (g.2 2, 3, .inl (fun _ => 0))), (q4, .inl (g.2 1, 900, .inl (fun _ => 0))), (q5, .inl (g.2 0, 5, .inl (fun _ => 0))), (q6, .inl (g.2 0, 225, .inl (fun _ => 0))), (q7, .inl (g.2 0, 2816, .inl (fun _ => 0))), (q8, .inl (g.2 0, 6, .inl (fun _ => 0))), (q9, .inl (g.2 0, 6, .inl (fun _ => 0))), (q10, .inl (g.2 0, 6, .inl (fun _ => 0))), (q11, .inl (g.2 0, 6, .inl (fun _ => 0))), (q12, .inl (g.2 0, 4, .inl (upd (fun _ => 0) 0 (-1))))] := hD
  refine lv_dup hx hb dX12_init_108 rfl ?_
  refine lv_iconst (v := 1) hx hb dX12_init_109 (by decide) ?_
  refine lv_iconst (v := -1) hx hb dX12_init_110 (by decide) ?_
  refine va_iast hx hb hKn.1 hP hD hS 12 0 rfl rfl (by unfold vp_in; decide) dX12_init_111 (fun H locs hP hD hS => ?_)
  have hP : va_P g.1 vwCl [(h0, .inr (12, [.int 0, .ref q1, .ref q2, .ref q3, .ref q4, .int 0, .ref q5, .int 0, .int 0, .int 0, .int 0, .int 0, .int 0, .int (-1), .ref q6, .ref q7, .int 0, .int 0, .int 0, .ref q8, .ref q9, .int 0, .int 0, .ref q10, .ref q11, .null, .null, .null, .null])), (q1, .inl (g.2 0, 225, .inl (fun _ => 0))), (q2, .inl (g.2 0, 675, .inl (fun _ => 0))), (q3, .inl (g.2 2, 3, .inl (fun _ => 0))), (q4, .inl (g.2 1, 900, .inl (fun _ => 0))), (q5, .inl (g.2 0, 5, .inl (fun _ => 0))), (q6, .inl (g.2 0, 225, .inl (fun _ => 0))), (q7, .inl (g.2 0, 2816, .inl (fun _ => 0))), (q8, .inl (g.2 0, 6, .inl (fun _ => 0))), (q9, .inl (g.2 0, 6, .inl (fun _ => 0))), (q10, .inl (g.2 0, 6, .inl (fun _ => 0))), (q11, .inl (g.2 0, 6, .inl (fun _ => 0))), (q12, .inl (g.2 0, 4, .inl (upd (upd (fun _ => 0) 0 (-1)) 1 (-1))))] H := hP
  have hD : va_D A [(h0, .inr (12, [.int 0, .ref q1, .ref q2, .ref q3, .ref q4, .int 0, .ref q5, .int 0, .int 0, .int 0, .int 0, .int 0, .int 0, .int (-1), .ref q6, .ref q7, .int 0, .int 0, .int 0, .ref q8, .ref q9, .int 0, .int 0, .ref q10, .ref q11, .null, .null, .null, .null])), (q1, .inl (g.2 0, 225, .inl (fun _ => 0))), (q2, .inl (g.2 0, 675, .inl (fun _ => 0))), (q3, .inl (g.2 2, 3, .inl (fun _ => 0))), (q4, .inl (g.2 1, 900, .inl (fun _ => 0))), (q5, .inl (g.2 0, 5, .inl (fun _ => 0))), (q6, .inl (g.2 0, 225, .inl (fun _ => 0))), (q7, .inl (g.2 0, 2816, .inl (fun _ => 0))), (q8, .inl (g.2 0, 6, .inl (fun _ => 0))), (q9, .inl (g.2 0, 6, .inl (fun _ => 0))), (q10, .inl (g.2 0, 6, .inl (fun _ => 0))), (q11, .inl (g.2 0, 6, .inl (fun _ => 0))), (q12, .inl (g.2 0, 4, .inl (upd (upd (fun _ => 0) 0 (-1)) 1 (-1))))] := hD
  refine lv_dup hx hb dX12_init_112 rfl ?_
  refine lv_iconst (v := 2) hx hb dX12_init_113 (by decide) ?_
  refine lv_iconst (v := -1) hx hb dX12_init_114 (by decide) ?_
  refine va_iast hx hb hKn.1 hP hD hS 12 0 rfl rfl (by unfold vp_in; decide) dX12_init_115 (fun H locs hP hD hS => ?_)
  have hP : va_P g.1 vwCl [(h0, .inr (12, [.int 0, .ref q1, .ref q2, .ref q3, .ref q4, .int 0, .ref q5, .int 0, .int 0, .int 0, .int 0, .int 0, .int 0, .int (-1), .ref q6, .ref q7, .int 0, .int 0, .int 0, .ref q8, .ref q9, .int 0, .int 0, .ref q10, .ref q11, .null, .null, .null, .null])), (q1, .inl (g.2 0, 225, .inl (fun _ => 0))), (q2, .inl (g.2 0, 675, .inl (fun _ => 0))), (q3, .inl (g.2 2, 3, .inl (fun _ => 0))), (q4, .inl (g.2 1, 900, .inl (fun _ => 0))), (q5, .inl (g.2 0, 5, .inl (fun _ => 0))), (q6, .inl (g.2 0, 225, .inl (fun _ => 0))), (q7, .inl (g.2 0, 2816, .inl (fun _ => 0))), (q8, .inl (g.2 0, 6, .inl (fun _ => 0))), (q9, .inl (g.2 0, 6, .inl (fun _ => 0))), (q10, .inl (g.2 0, 6, .inl (fun _ => 0))), (q11, .inl (g.2 0, 6, .inl (fun _ => 0))), (q12, .inl (g.2 0, 4, .inl (upd (upd (upd (fun _ => 0) 0 (-1)) 1 (-1)) 2 (-1))))] H := hP
  have hD : va_D A [(h0, .inr (12, [.int 0, .ref q1, .ref q2, .ref q3, .ref q4, .int 0, .ref q5, .int 0, .int 0, .int 0, .int 0, .int 0, .int 0, .int (-1), .ref q6, .ref q7, .int 0, .int 0, .int 0, .ref q8, .ref q9, .int 0, .int 0, .ref q10, .ref q11, .null, .null, .null, .null])), (q1, .inl (g.2 0, 225, .inl (fun _ => 0))), (q2, .inl (g.2 0, 675, .inl (fun _ => 0))), (q3, .inl (g.2 2, 3, .inl (fun _ => 0))), (q4, .inl (g.2 1, 900, .inl (fun _ => 0))), (q5, .inl (g.2 0, 5, .inl (fun _ => 0))), (q6, .inl (g.2 0, 225, .inl (fun _ => 0))), (q7, .inl (g.2 0, 2816, .inl (fun _ => 0))), (q8, .inl (g.2 0, 6, .inl (fun _ => 0))), (q9, .inl (g.2 0, 6, .inl (fun _ => 0))), (q10, .inl (g.2 0, 6, .inl (fun _ => 0))), (q11, .inl (g.2 0, 6, .inl (fun _ => 0))), (q12, .inl (g.2 0, 4, .inl (upd (upd (upd (fun _ => 0) 0 (-1)) 1 (-1)) 2 (-1))))] := hD
  refine lv_dup hx hb dX12_init_116 rfl ?_
  refine lv_iconst (v := 3) hx hb dX12_init_117 (by decide) ?_
  refine lv_iconst (v := -1) hx hb dX12_init_118 (by decide) ?_
  refine va_iast hx hb hKn.1 hP hD hS 12 0 rfl rfl (by unfold vp_in; decide) dX12_init_119 (fun H locs hP hD hS => ?_)
  have hP : va_P g.1 vwCl [(h0, .inr (12, [.int 0, .ref q1, .ref q2, .ref q3, .ref q4, .int 0, .ref q5, .int 0, .int 0, .int 0, .int 0, .int 0, .int 0, .int (-1), .ref q6, .ref q7, .int 0, .int 0, .int 0, .ref q8, .ref q9, .int 0, .int 0, .ref q10, .ref q11, .null, .null, .null, .null])), (q1, .inl (g.2 0, 225, .inl (fun _ => 0))), (q2, .inl (g.2 0, 675, .inl (fun _ => 0))), (q3, .inl (g.2 2, 3, .inl (fun _ => 0))), (q4, .inl (g.2 1, 900, .inl (fun _ => 0))), (q5, .inl (g.2 0, 5, .inl (fun _ => 0))), (q6, .inl (g.2 0, 225, .inl (fun _ => 0))), (q7, .inl (g.2 0, 2816, .inl (fun _ => 0))), (q8, .inl (g.2 0, 6, .inl (fun _ => 0))), (q9, .inl (g.2 0, 6, .inl (fun _ => 0))), (q10, .inl (g.2 0, 6, .inl (fun _ => 0))), (q11, .inl (g.2 0, 6, .inl (fun _ => 0))), (q12, .inl (g.2 0, 4, .inl (upd (upd (upd (upd (fun _ => 0) 0 (-1)) 1 (-1)) 2 (-1)) 3 (-1))))] H := hP
  have hD : va_D A [(h0, .inr (12, [.int 0, .ref q1, .ref q2, .ref q3, .ref q4, .int 0, .ref q5, .int 0, .int 0, .int 0, .int 0, .int 0, .int 0, .int (-1), .ref q6, .ref q7, .int 0, .int 0, .int 0, .ref q8, .ref q9, .int 0, .int 0, .ref q10, .ref q11, .null, .null, .null, .null])), (q1, .inl (g.2 0, 225, .inl (fun _ => 0))), (q2, .inl (g.2 0, 675, .inl (fun _ => 0))), (q3, .inl (g.2 2, 3, .inl (fun _ => 0))), (q4, .inl (g.2 1, 900, .inl (fun _ => 0))), (q5, .inl (g.2 0, 5, .inl (fun _ => 0))), (q6, .inl (g.2 0, 225, .inl (fun _ => 0))), (q7, .inl (g.2 0, 2816, .inl (fun _ => 0))), (q8, .inl (g.2 0, 6, .inl (fun _ => 0))), (q9, .inl (g.2 0, 6, .inl (fun _ => 0))), (q10, .inl (g.2 0, 6, .inl (fun _ => 0))), (q11, .inl (g.2 0, 6, .inl (fun _ => 0))), (q12, .inl (g.2 0, 4, .inl (upd (upd (upd (upd (fun _ => 0) 0 (-1)) 1 (-1)) 2 (-1)) 3 (-1))))] := hD
  refine g_putF (C := RX12) (T := TX12) (N := 29) (ci := 12) (v := .ref q12) FC hKn hP hD hS i_X12 tyX12 tyX12_ok nmX12 0 rfl rfl 25 (by decide) b_440 rfl hnm rfl rfl rfl (Nat.le_of_ble_eq_true rfl) dX12_init_120 (fun H locs hP hD hS => ?_)
  have hP : va_P g.1 vwCl [(h0, .inr (12, [.int 0, .ref q1, .ref q2, .ref q3, .ref q4, .int 0, .ref q5, .int 0, .int 0, .int 0, .int 0, .int 0, .int 0, .int (-1), .ref q6, .ref q7, .int 0, .int 0, .int 0, .ref q8, .ref q9, .int 0, .int 0, .ref q10, .ref q11, .ref q12, .null, .null, .null])), (q1, .inl (g.2 0, 225, .inl (fun _ => 0))), (q2, .inl (g.2 0, 675, .inl (fun _ => 0))), (q3, .inl (g.2 2, 3, .inl (fun _ => 0))), (q4, .inl (g.2 1, 900, .inl (fun _ => 0))), (q5, .inl (g.2 0, 5, .inl (fun _ => 0))), (q6, .inl (g.2 0, 225, .inl (fun _ => 0))), (q7, .inl (g.2 0, 2816, .inl (fun _ => 0))), (q8, .inl (g.2 0, 6, .inl (fun _ => 0))), (q9, .inl (g.2 0, 6, .inl (fun _ => 0))), (q10, .inl (g.2 0, 6, .inl (fun _ => 0))), (q11, .inl (g.2 0, 6, .inl (fun _ => 0))), (q12, .inl (g.2 0, 4, .inl (upd (upd (upd (upd (fun _ => 0) 0 (-1)) 1 (-1)) 2 (-1)) 3 (-1))))] H := hP
  have hD : va_D A [(h0, .inr (12, [.int 0, .ref q1, .ref q2, .ref q3, .ref q4, .int 0, .ref q5, .int 0, .int 0, .int 0, .int 0, .int 0, .int 0, .int (-1), .ref q6, .ref q7, .int 0, .int 0, .int 0, .ref q8, .ref q9, .int 0, .int 0, .ref q10, .ref q11, .ref q12, .null, .null, .null])), (q1, .inl (g.2 0, 225, .inl (fun _ => 0))), (q2, .inl (g.2 0, 675, .inl (fun _ => 0))), (q3, .inl (g.2 2, 3, .inl (fun _ => 0))), (q4, .inl (g.2 1, 900, .inl (fun _ => 0))), (q5, .inl (g.2 0, 5, .inl (fun _ => 0))), (q6, .inl (g.2 0, 225, .inl (fun _ => 0))), (q7, .inl (g.2 0, 2816, .inl (fun _ => 0))), (q8, .inl (g.2 0, 6, .inl (fun _ => 0))), (q9, .inl (g.2 0, 6, .inl (fun _ => 0))), (q10, .inl (g.2 0, 6, .inl (fun _ => 0))), (q11, .inl (g.2 0, 6, .inl (fun _ => 0))), (q12, .inl (g.2 0, 4, .inl (upd (upd (upd (upd (fun _ => 0) 0 (-1)) 1 (-1)) 2 (-1)) 3 (-1))))] := hD
  refine lv_aload_n hx hb dX12_init_123 rfl (lv_at hl 0 rfl) ?_
  refine lv_iconst (v := 4) hx hb dX12_init_124 (by decide) ?_
  refine g_newa FC hKn hP hD hS hA (atype := .int) b_233 rfl 0 rfl (fun _ h => by cases h) (a0 := (4, .inl (fun _ => 0))) (fun _ => rfl) (by decide) (by decide) (by decide) (Nat.le_of_ble_eq_true rfl) (Nat.le_of_ble_eq_true rfl) dX12_init_125 (fun q17 H hP hD hS => ?_)
  have hP : va_P g.1 vwCl [(h0, .inr (12, [.int 0, .ref q1, .ref q2, .ref q3, .ref q4, .int 0, .ref q5, .int 0, .int 0, .int 0, .int 0, .int 0, .int 0, .int (-1), .ref q6, .ref q7, .int 0, .int 0, .int 0, .ref q8, .ref q9, .int 0, .int 0, .ref q10, .ref q11, .ref q12, .null, .null, .null])), (q1, .inl (g.2 0, 225, .inl (fun _ => 0))), (q2, .inl (g.2 0, 675, .inl (fun _ => 0))), (q3, .inl (g.2 2, 3, .inl (fun _ => 0))), (q4, .inl (g.2 1, 900, .inl (fun _ => 0))), (q5, .inl (g.2 0, 5, .inl (fun _ => 0))), (q6, .inl (g.2 0, 225, .inl (fun _ => 0))), (q7, .inl (g.2 0, 2816, .inl (fun _ => 0))), (q8, .inl (g.2 0, 6, .inl (fun _ => 0))), (q9, .inl (g.2 0, 6, .inl (fun _ => 0))), (q10, .inl (g.2 0, 6, .inl (fun _ => 0))), (q11, .inl (g.2 0, 6, .inl (fun _ => 0))), (q12, .inl (g.2 0, 4, .inl (upd (upd (upd (upd (fun _ => 0) 0 (-1)) 1 (-1)) 2 (-1)) 3 (-1)))), (q17, .inl (g.2 0, 4, .inl (fun _ => 0)))] H := hP
  have hD : va_D A [(h0, .inr (12, [.int 0, .ref q1, .ref q2, .ref q3, .ref q4, .int 0, .ref q5, .int 0, .int 0, .int 0, .int 0, .int 0, .int 0, .int (-1), .ref q6, .ref q7, .int 0, .int 0, .int 0, .ref q8, .ref q9, .int 0, .int 0, .ref q10, .ref q11, .ref q12, .null, .null, .null])), (q1, .inl (g.2 0, 225, .inl (fun _ => 0))), (q2, .inl (g.2 0, 675, .inl (fun _ => 0))), (q3, .inl (g.2 2, 3, .inl (fun _ => 0))), (q4, .inl (g.2 1, 900, .inl (fun _ => 0))), (q5, .inl (g.2 0, 5, .inl (fun _ => 0))), (q6, .inl (g.2 0, 225, .inl (fun _ => 0))), (q7, .inl (g.2 0, 2816, .inl (fun _ => 0))), (q8, .inl (g.2 0, 6, .inl (fun _ => 0))), (q9, .inl (g.2 0, 6, .inl (fun _ => 0))), (q10, .inl (g.2 0, 6, .inl (fun _ => 0))), (q11, .inl (g.2 0, 6, .inl (fun _ => 0))), (q12, .inl (g.2 0, 4, .inl (upd (upd (upd (upd (fun _ => 0) 0 (-1)) 1 (-1)) 2 (-1)) 3 (-1)))), (q17, .inl (g.2 0, 4, .inl (fun _ => 0)))] := hD
  refine g_putF (C := RX12) (T := TX12) (N := 29) (ci := 12) (v := .ref q17) FC hKn hP hD hS i_X12 tyX12 tyX12_ok nmX12 0 rfl rfl 26 (by decide) b_444 rfl hnm rfl rfl rfl (Nat.le_of_ble_eq_true rfl) dX12_init_127 (fun H locs hP hD hS => ?_)
  have hP : va_P g.1 vwCl [(h0, .inr (12, [.int 0, .ref q1, .ref q2, .ref q3, .ref q4, .int 0, .ref q5, .int 0, .int 0, .int 0, .int 0, .int 0, .int 0, .int (-1), .ref q6, .ref q7, .int 0, .int 0, .int 0, .ref q8, .ref q9, .int 0, .int 0, .ref q10, .ref q11, .ref q12, .ref q17, .null, .null])), (q1, .inl (g.2 0, 225, .inl (fun _ => 0))), (q2, .inl (g.2 0, 675, .inl (fun _ => 0))), (q3, .inl (g.2 2, 3, .inl (fun _ => 0))), (q4, .inl (g.2 1, 900, .inl (fun _ => 0))), (q5, .inl (g.2 0, 5, .inl (fun _ => 0))), (q6, .inl (g.2 0, 225, .inl (fun _ => 0))), (q7, .inl (g.2 0, 2816, .inl (fun _ => 0))), (q8, .inl (g.2 0, 6, .inl (fun _ => 0))), (q9, .inl (g.2 0, 6, .inl (fun _ => 0))), (q10, .inl (g.2 0, 6, .inl (fun _ => 0))), (q11, .inl (g.2 0, 6, .inl (fun _ => 0))), (q12, .inl (g.2 0, 4, .inl (upd (upd (upd (upd (fun _ => 0) 0 (-1)) 1 (-1)) 2 (-1)) 3 (-1)))), (q17, .inl (g.2 0, 4, .inl (fun _ => 0)))] H := hP
  have hD : va_D A [(h0, .inr (12, [.int 0, .ref q1, .ref q2, .ref q3, .ref q4, .int 0, .ref q5, .int 0, .int 0, .int 0, .int 0, .int 0, .int 0, .int (-1), .ref q6, .ref q7, .int 0, .int 0, .int 0, .ref q8, .ref q9, .int 0, .int 0, .ref q10, .ref q11, .ref q12, .ref q17, .null, .null])), (q1, .inl (g.2 0, 225, .inl (fun _ => 0))), (q2, .inl (g.2 0, 675, .inl (fun _ => 0))), (q3, .inl (g.2 2, 3, .inl (fun _ => 0))), (q4, .inl (g.2 1, 900, .inl (fun _ => 0))), (q5, .inl (g.2 0, 5, .inl (fun _ => 0))), (q6, .inl (g.2 0, 225, .inl (fun _ => 0))), (q7, .inl (g.2 0, 2816, .inl (fun _ => 0))), (q8, .inl (g.2 0, 6, .inl (fun _ => 0))), (q9, .inl (g.2 0, 6, .inl (fun _ => 0))), (q10, .inl (g.2 0, 6, .inl (fun _ => 0))), (q11, .inl (g.2 0, 6, .inl (fun _ => 0))), (q12, .inl (g.2 0, 4, .inl (upd (upd (upd (upd (fun _ => 0) 0 (-1)) 1 (-1)) 2 (-1)) 3 (-1)))), (q17, .inl (g.2 0, 4, .inl (fun _ => 0)))] := hD
  refine lv_aload_n hx hb dX12_init_130 rfl (lv_at hl 0 rfl) ?_
  refine lv_sipush (v := 240) hx hb dX12_init_131 (by decide) ?_
  refine g_newa FC hKn hP hD hS hA (atype := .long) b_248 rfl 3 rfl (fun _ h => by cases h) (a0 := (240, .inr (.inl (fun _ => 0)))) (fun _ => rfl) (by decide) (by decide) (by decide) (Nat.le_of_ble_eq_true rfl) (Nat.le_of_ble_eq_true rfl) dX12_init_134 (fun q18 H hP hD hS => ?_)
  have hP : va_P g.1 vwCl [(h0, .inr (12, [.int 0, .ref q1, .ref q2, .ref q3, .ref q4, .int 0, .ref q5, .int 0, .int 0, .int 0, .int 0, .int 0, .int 0, .int (-1), .ref q6, .ref q7, .int 0, .int 0, .int 0, .ref q8, .ref q9, .int 0, .int 0, .ref q10, .ref q11, .ref q12, .ref q17, .null, .null])), (q1, .inl (g.2 0, 225, .inl (fun _ => 0))), (q2, .inl (g.2 0, 675, .inl (fun _ => 0))), (q3, .inl (g.2 2, 3, .inl (fun _ => 0))), (q4, .inl (g.2 1, 900, .inl (fun _ => 0))), (q5, .inl (g.2 0, 5, .inl (fun _ => 0))), (q6, .inl (g.2 0, 225, .inl (fun _ => 0))), (q7, .inl (g.2 0, 2816, .inl (fun _ => 0))), (q8, .inl (g.2 0, 6, .inl (fun _ => 0))), (q9, .inl (g.2 0, 6, .inl (fun _ => 0))), (q10, .inl (g.2 0, 6, .inl (fun _ => 0))), (q11, .inl (g.2 0, 6, .inl (fun _ => 0))), (q12, .inl (g.2 0, 4, .inl (upd (upd (upd (upd (fun _ => 0) 0 (-1)) 1 (-1)) 2 (-1)) 3 (-1)))), (q17, .inl (g.2 0, 4, .inl (fun _ => 0))), (q18, .inl (g.2 3, 240, .inr (.inl (fun _ => 0))))] H := hP
  have hD : va_D A [(h0, .inr (12, [.int 0, .ref q1, .ref q2, .ref q3, .ref q4, .int 0, .ref q5, .int 0, .int 0, .int 0, .int 0, .int 0, .int 0, .int (-1), .ref q6, .ref q7, .int 0, .int 0, .int 0, .ref q8, .ref q9, .int 0, .int 0, .ref q10, .ref q11, .ref q12, .ref q17, .null, .null])), (q1, .inl (g.2 0, 225, .inl (fun _ => 0))), (q2, .inl (g.2 0, 675, .inl (fun _ => 0))), (q3, .inl (g.2 2, 3, .inl (fun _ => 0))), (q4, .inl (g.2 1, 900, .inl (fun _ => 0))), (q5, .inl (g.2 0, 5, .inl (fun _ => 0))), (q6, .inl (g.2 0, 225, .inl (fun _ => 0))), (q7, .inl (g.2 0, 2816, .inl (fun _ => 0))), (q8, .inl (g.2 0, 6, .inl (fun _ => 0))), (q9, .inl (g.2 0, 6, .inl (fun _ => 0))), (q10, .inl (g.2 0, 6, .inl (fun _ => 0))), (q11, .inl (g.2 0, 6, .inl (fun _ => 0))), (q12, .inl (g.2 0, 4, .inl (upd (upd (upd (upd (fun _ => 0) 0 (-1)) 1 (-1)) 2 (-1)) 3 (-1)))), (q17, .inl (g.2 0, 4, .inl (fun _ => 0))), (q18, .inl (g.2 3, 240, .inr (.inl (fun _ => 0))))] := hD
  refine g_putF (C := RX12) (T := TX12) (N := 29) (ci := 12) (v := .ref q18) FC hKn hP hD hS i_X12 tyX12 tyX12_ok nmX12 0 rfl rfl 27 (by decide) b_445 rfl hnm rfl rfl rfl (Nat.le_of_ble_eq_true rfl) dX12_init_136 (fun H locs hP hD hS => ?_)
  have hP : va_P g.1 vwCl [(h0, .inr (12, [.int 0, .ref q1, .ref q2, .ref q3, .ref q4, .int 0, .ref q5, .int 0, .int 0, .int 0, .int 0, .int 0, .int 0, .int (-1), .ref q6, .ref q7, .int 0, .int 0, .int 0, .ref q8, .ref q9, .int 0, .int 0, .ref q10, .ref q11, .ref q12, .ref q17, .ref q18, .null])), (q1, .inl (g.2 0, 225, .inl (fun _ => 0))), (q2, .inl (g.2 0, 675, .inl (fun _ => 0))), (q3, .inl (g.2 2, 3, .inl (fun _ => 0))), (q4, .inl (g.2 1, 900, .inl (fun _ => 0))), (q5, .inl (g.2 0, 5, .inl (fun _ => 0))), (q6, .inl (g.2 0, 225, .inl (fun _ => 0))), (q7, .inl (g.2 0, 2816, .inl (fun _ => 0))), (q8, .inl (g.2 0, 6, .inl (fun _ => 0))), (q9, .inl (g.2 0, 6, .inl (fun _ => 0))), (q10, .inl (g.2 0, 6, .inl (fun _ => 0))), (q11, .inl (g.2 0, 6, .inl (fun _ => 0))), (q12, .inl (g.2 0, 4, .inl (upd (upd (upd (upd (fun _ => 0) 0 (-1)) 1 (-1)) 2 (-1)) 3 (-1)))), (q17, .inl (g.2 0, 4, .inl (fun _ => 0))), (q18, .inl (g.2 3, 240, .inr (.inl (fun _ => 0))))] H := hP
  have hD : va_D A [(h0, .inr (12, [.int 0, .ref q1, .ref q2, .ref q3, .ref q4, .int 0, .ref q5, .int 0, .int 0, .int 0, .int 0, .int 0, .int 0, .int (-1), .ref q6, .ref q7, .int 0, .int 0, .int 0, .ref q8, .ref q9, .int 0, .int 0, .ref q10, .ref q11, .ref q12, .ref q17, .ref q18, .null])), (q1, .inl (g.2 0, 225, .inl (fun _ => 0))), (q2, .inl (g.2 0, 675, .inl (fun _ => 0))), (q3, .inl (g.2 2, 3, .inl (fun _ => 0))), (q4, .inl (g.2 1, 900, .inl (fun _ => 0))), (q5, .inl (g.2 0, 5, .inl (fun _ => 0))), (q6, .inl (g.2 0, 225, .inl (fun _ => 0))), (q7, .inl (g.2 0, 2816, .inl (fun _ => 0))), (q8, .inl (g.2 0, 6, .inl (fun _ => 0))), (q9, .inl (g.2 0, 6, .inl (fun _ => 0))), (q10, .inl (g.2 0, 6, .inl (fun _ => 0))), (q11, .inl (g.2 0, 6, .inl (fun _ => 0))), (q12, .inl (g.2 0, 4, .inl (upd (upd (upd (upd (fun _ => 0) 0 (-1)) 1 (-1)) 2 (-1)) 3 (-1)))), (q17, .inl (g.2 0, 4, .inl (fun _ => 0))), (q18, .inl (g.2 3, 240, .inr (.inl (fun _ => 0))))] := hD
  refine lv_aload_n hx hb dX12_init_139 rfl (lv_at hl 0 rfl) ?_
  refine lv_bipush (v := 60) hx hb dX12_init_140 (by decide) ?_
  refine g_newa FC hKn hP hD hS hA (atype := .long) b_248 rfl 3 rfl (fun _ h => by cases h) (a0 := (60, .inr (.inl (fun _ => 0)))) (fun _ => rfl) (by decide) (by decide) (by decide) (Nat.le_of_ble_eq_true rfl) (Nat.le_of_ble_eq_true rfl) dX12_init_142 (fun q19 H hP hD hS => ?_)
  have hP : va_P g.1 vwCl [(h0, .inr (12, [.int 0, .ref q1, .ref q2, .ref q3, .ref q4, .int 0, .ref q5, .int 0, .int 0, .int 0, .int 0, .int 0, .int 0, .int (-1), .ref q6, .ref q7, .int 0, .int 0, .int 0, .ref q8, .ref q9, .int 0, .int 0, .ref q10, .ref q11, .ref q12, .ref q17, .ref q18, .null])), (q1, .inl (g.2 0, 225, .inl (fun _ => 0))), (q2, .inl (g.2 0, 675, .inl (fun _ => 0))), (q3, .inl (g.2 2, 3, .inl (fun _ => 0))), (q4, .inl (g.2 1, 900, .inl (fun _ => 0))), (q5, .inl (g.2 0, 5, .inl (fun _ => 0))), (q6, .inl (g.2 0, 225, .inl (fun _ => 0))), (q7, .inl (g.2 0, 2816, .inl (fun _ => 0))), (q8, .inl (g.2 0, 6, .inl (fun _ => 0))), (q9, .inl (g.2 0, 6, .inl (fun _ => 0))), (q10, .inl (g.2 0, 6, .inl (fun _ => 0))), (q11, .inl (g.2 0, 6, .inl (fun _ => 0))), (q12, .inl (g.2 0, 4, .inl (upd (upd (upd (upd (fun _ => 0) 0 (-1)) 1 (-1)) 2 (-1)) 3 (-1)))), (q17, .inl (g.2 0, 4, .inl (fun _ => 0))), (q18, .inl (g.2 3, 240, .inr (.inl (fun _ => 0)))), (q19, .inl (g.2 3, 60, .inr (.inl (fun _ => 0))))] H := hP
  have hD : va_D A [(h0, .inr (12, [.int 0, .ref q1, .ref q2, .ref q3, .ref q4, .int 0, .ref q5, .int 0, .int 0, .int 0, .int 0, .int 0, .int 0, .int (-1), .ref q6, .ref q7, .int 0, .int 0, .int 0, .ref q8, .ref q9, .int 0, .int 0, .ref q10, .ref q11, .ref q12, .ref q17, .ref q18, .null])), (q1, .inl (g.2 0, 225, .inl (fun _ => 0))), (q2, .inl (g.2 0, 675, .inl (fun _ => 0))), (q3, .inl (g.2 2, 3, .inl (fun _ => 0))), (q4, .inl (g.2 1, 900, .inl (fun _ => 0))), (q5, .inl (g.2 0, 5, .inl (fun _ => 0))), (q6, .inl (g.2 0, 225, .inl (fun _ => 0))), (q7, .inl (g.2 0, 2816, .inl (fun _ => 0))), (q8, .inl (g.2 0, 6, .inl (fun _ => 0))), (q9, .inl (g.2 0, 6, .inl (fun _ => 0))), (q10, .inl (g.2 0, 6, .inl (fun _ => 0))), (q11, .inl (g.2 0, 6, .inl (fun _ => 0))), (q12, .inl (g.2 0, 4, .inl (upd (upd (upd (upd (fun _ => 0) 0 (-1)) 1 (-1)) 2 (-1)) 3 (-1)))), (q17, .inl (g.2 0, 4, .inl (fun _ => 0))), (q18, .inl (g.2 3, 240, .inr (.inl (fun _ => 0)))), (q19, .inl (g.2 3, 60, .inr (.inl (fun _ => 0))))] := hD
  refine g_putF (C := RX12) (T := TX12) (N := 29) (ci := 12) (v := .ref q19) FC hKn hP hD hS i_X12 tyX12 tyX12_ok nmX12 0 rfl rfl 28 (by decide) b_463 rfl hnm rfl rfl rfl (Nat.le_of_ble_eq_true rfl) dX12_init_144 (fun H locs hP hD hS => ?_)
  have hP : va_P g.1 vwCl [(h0, .inr (12, [.int 0, .ref q1, .ref q2, .ref q3, .ref q4, .int 0, .ref q5, .int 0, .int 0, .int 0, .int 0, .int 0, .int 0, .int (-1), .ref q6, .ref q7, .int 0, .int 0, .int 0, .ref q8, .ref q9, .int 0, .int 0, .ref q10, .ref q11, .ref q12, .ref q17, .ref q18, .ref q19])), (q1, .inl (g.2 0, 225, .inl (fun _ => 0))), (q2, .inl (g.2 0, 675, .inl (fun _ => 0))), (q3, .inl (g.2 2, 3, .inl (fun _ => 0))), (q4, .inl (g.2 1, 900, .inl (fun _ => 0))), (q5, .inl (g.2 0, 5, .inl (fun _ => 0))), (q6, .inl (g.2 0, 225, .inl (fun _ => 0))), (q7, .inl (g.2 0, 2816, .inl (fun _ => 0))), (q8, .inl (g.2 0, 6, .inl (fun _ => 0))), (q9, .inl (g.2 0, 6, .inl (fun _ => 0))), (q10, .inl (g.2 0, 6, .inl (fun _ => 0))), (q11, .inl (g.2 0, 6, .inl (fun _ => 0))), (q12, .inl (g.2 0, 4, .inl (upd (upd (upd (upd (fun _ => 0) 0 (-1)) 1 (-1)) 2 (-1)) 3 (-1)))), (q17, .inl (g.2 0, 4, .inl (fun _ => 0))), (q18, .inl (g.2 3, 240, .inr (.inl (fun _ => 0)))), (q19, .inl (g.2 3, 60, .inr (.inl (fun _ => 0))))] H := hP
  have hD : va_D A [(h0, .inr (12, [.int 0, .ref q1, .ref q2, .ref q3, .ref q4, .int 0, .ref q5, .int 0, .int 0, .int 0, .int 0, .int 0, .int 0, .int (-1), .ref q6, .ref q7, .int 0, .int 0, .int 0, .ref q8, .ref q9, .int 0, .int 0, .ref q10, .ref q11, .ref q12, .ref q17, .ref q18, .ref q19])), (q1, .inl (g.2 0, 225, .inl (fun _ => 0))), (q2, .inl (g.2 0, 675, .inl (fun _ => 0))), (q3, .inl (g.2 2, 3, .inl (fun _ => 0))), (q4, .inl (g.2 1, 900, .inl (fun _ => 0))), (q5, .inl (g.2 0, 5, .inl (fun _ => 0))), (q6, .inl (g.2 0, 225, .inl (fun _ => 0))), (q7, .inl (g.2 0, 2816, .inl (fun _ => 0))), (q8, .inl (g.2 0, 6, .inl (fun _ => 0))), (q9, .inl (g.2 0, 6, .inl (fun _ => 0))), (q10, .inl (g.2 0, 6, .inl (fun _ => 0))), (q11, .inl (g.2 0, 6, .inl (fun _ => 0))), (q12, .inl (g.2 0, 4, .inl (upd (upd (upd (upd (fun _ => 0) 0 (-1)) 1 (-1)) 2 (-1)) 3 (-1)))), (q17, .inl (g.2 0, 4, .inl (fun _ => 0))), (q18, .inl (g.2 3, 240, .inr (.inl (fun _ => 0)))), (q19, .inl (g.2 3, 60, .inr (.inl (fun _ => 0))))] := hD
  exact rt_v FX (fun k => ([q1, q2, q3, q4, q5, q6, q7, q8, q9, q10, q11, q12, q17, q18, q19] : List Nat).getD k 0) rfl trivial (hP.sub [0, 1, 2, 3, 4, 5, 6, 12, 13, 14] rfl) (hD.sub [0, 1, 2, 3, 4, 5, 6, 12, 13, 14] (by decide) rfl) hS (Nat.le_of_ble_eq_true rfl) (Nat.le_of_ble_eq_true rfl) dX12_init_147
