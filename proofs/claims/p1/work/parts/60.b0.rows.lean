set_option maxRecDepth 100000 in
set_option maxHeartbeats 4000000 in
theorem c_X11_evenSquares (l : Launch) (g : GG) (p0 : Int32) (p1 : Int32) (hn : 1 ≤ p1.toInt) : Ct l g yX11_evenSquares cX11_evenSquares 4 (some .int) { frames := 0, cells := 0, slots := 0, locals := 0 } [.int p0, .int p1] [] (S := Unit) (fun _ => some (.int (evF p0 p1))) (fun _ => True) (fun u => []) := by
  refine Ct.of (by decide) (Nat.le_of_ble_eq_true rfl) ?_
  intro p e s m below meth c A ls FX hP hD hS hl
  obtain ⟨FC, hr, hlk, hKn, hA, hnm⟩ := id FX
  have FC : CallFix p m c cX11_evenSquares 4 s _ BIG RX11 := FC
  obtain ⟨hx, hb, hml, hown, hB⟩ := id FC
  have hl : lv_has ls 4 [(0, .int p0), (1, .int p1)] := hl
  have hne : ¬ p1 = 0 := fun q => by rw [q] at hn; exact absurd hn (by decide)
  refine lv_iload_n hx hb dX11_evenSquares_0 rfl (lv_at hl 1 rfl) ?_
  refine lv_iconst (v := 1) hx hb dX11_evenSquares_1 (by decide) ?_
  refine lv_icmp_ge (tgt := 7) hx hb dX11_evenSquares_2 (by decide) (fun c1 => ?_) (fun c1 => ?_)
  · have c1 := k_le (a := 1) (b := p1.toInt) (by decide) rfl c1
    refine lv_iload_n hx hb dX11_evenSquares_7 rfl (lv_at hl 0 rfl) ?_
    refine lv_iload_n hx hb dX11_evenSquares_8 rfl (lv_at hl 1 rfl) ?_
    refine lv_idiv hx hb dX11_evenSquares_9 hne ?_
    refine W.eq (g2 := F0 m 10 ls [.int (p0 / p1)]) rfl ?_
    refine lv_istore_n (lv' := [(2, .int (p0 / p1)), (0, .int p0), (1, .int p1)]) hx hb dX11_evenSquares_10 rfl hl (by decide) rfl (fun ls hl => ?_)
    refine lv_iload_n hx hb dX11_evenSquares_11 rfl (lv_at hl 1 rfl) ?_
    refine lv_iload_n hx hb dX11_evenSquares_12 rfl (lv_at hl 2 rfl) ?_
    refine lv_irem hx hb dX11_evenSquares_13 hne ?_
    refine W.eq (g2 := F0 m 14 ls [.int (p0 - p0 / p1 * p1)]) rfl ?_
    refine lv_istore_n (lv' := [(3, .int (p0 - p0 / p1 * p1)), (2, .int (p0 / p1)), (0, .int p0), (1, .int p1)]) hx hb dX11_evenSquares_14 rfl hl (by decide) rfl (fun ls hl => ?_)
    refine lv_iload_n hx hb dX11_evenSquares_15 rfl (lv_at hl 0 rfl) ?_
    refine lv_iload_n hx hb dX11_evenSquares_16 rfl (lv_at hl 1 rfl) ?_
    refine lv_iconst (v := 1) hx hb dX11_evenSquares_17 (by decide) ?_
    refine lv_iadd hx hb dX11_evenSquares_18 ?_
    refine lv_imul hx hb dX11_evenSquares_19 ?_
    refine lv_iload_n hx hb dX11_evenSquares_20 rfl (lv_at hl 1 rfl) ?_
    refine lv_iconst (v := 1) hx hb dX11_evenSquares_21 (by decide) ?_
    refine lv_iadd hx hb dX11_evenSquares_22 ?_
    refine lv_imul hx hb dX11_evenSquares_23 ?_
    refine lv_iload_n hx hb dX11_evenSquares_24 rfl (lv_at hl 3 rfl) ?_
    refine lv_iload_n hx hb dX11_evenSquares_25 rfl (lv_at hl 0 rfl) ?_
    refine lv_isub hx hb dX11_evenSquares_26 ?_
    refine lv_iload_n hx hb dX11_evenSquares_27 rfl (lv_at hl 1 rfl) ?_
    refine lv_imul hx hb dX11_evenSquares_28 ?_
    refine lv_iload_n hx hb dX11_evenSquares_29 rfl (lv_at hl 1 rfl) ?_
    refine lv_imul hx hb dX11_evenSquares_30 ?_
    refine lv_iadd hx hb dX11_evenSquares_31 ?_
    exact rt_i FX () (congrArg (fun z => some (Value.int z)) (show ((((p0 - p0 / p1 * p1) * ((p0 / p1) + 1)) * ((p0 / p1) + 1)) + (((p1 - (p0 - p0 / p1 * p1)) * (p0 / p1)) * (p0 / p1)) : Int32) = _ from rfl)) trivial (hP.sub [] rfl) (hD.sub [] (by decide) rfl) hS (Nat.le_of_ble_eq_true rfl) (Nat.le_of_ble_eq_true rfl) dX11_evenSquares_32
  · have c1 := k_nle (a := 1) (b := p1.toInt) (by decide) rfl c1
    exfalso; omega
set_option maxRecDepth 100000 in
set_option maxHeartbeats 4000000 in
theorem c_X12_evenOf (l : Launch) (g : GG) (p0 : Int32) (p1 : Int32) (hn : 1 ≤ p1.toInt) : Ct l g yX12_evenOf cX12_evenOf 4 (some .int) { frames := 0, cells := 0, slots := 0, locals := 0 } [.int p0, .int p1] [] (S := Unit) (fun _ => some (.int (evF p0 p1))) (fun _ => True) (fun u => []) := by
  refine Ct.of (by decide) (Nat.le_of_ble_eq_true rfl) ?_
  intro p e s m below meth c A ls FX hP hD hS hl
  obtain ⟨FC, hr, hlk, hKn, hA, hnm⟩ := id FX
  have FC : CallFix p m c cX12_evenOf 4 s _ BIG RX12 := FC
  obtain ⟨hx, hb, hml, hown, hB⟩ := id FC
  have hl : lv_has ls 4 [(0, .int p0), (1, .int p1)] := hl
  have hne : ¬ p1 = 0 := fun q => by rw [q] at hn; exact absurd hn (by decide)
  refine lv_iload_n hx hb dX12_evenOf_0 rfl (lv_at hl 0 rfl) ?_
  refine lv_iload_n hx hb dX12_evenOf_1 rfl (lv_at hl 1 rfl) ?_
  refine lv_idiv hx hb dX12_evenOf_2 hne ?_
  refine W.eq (g2 := F0 m 3 ls [.int (p0 / p1)]) rfl ?_
  refine lv_istore_n (lv' := [(2, .int (p0 / p1)), (0, .int p0), (1, .int p1)]) hx hb dX12_evenOf_3 rfl hl (by decide) rfl (fun ls hl => ?_)
  refine lv_iload_n hx hb dX12_evenOf_4 rfl (lv_at hl 1 rfl) ?_
  refine lv_iload_n hx hb dX12_evenOf_5 rfl (lv_at hl 2 rfl) ?_
  refine lv_irem hx hb dX12_evenOf_6 hne ?_
  refine W.eq (g2 := F0 m 7 ls [.int (p0 - p0 / p1 * p1)]) rfl ?_
  refine lv_istore_n (lv' := [(3, .int (p0 - p0 / p1 * p1)), (2, .int (p0 / p1)), (0, .int p0), (1, .int p1)]) hx hb dX12_evenOf_7 rfl hl (by decide) rfl (fun ls hl => ?_)
  refine lv_iload_n hx hb dX12_evenOf_8 rfl (lv_at hl 0 rfl) ?_
  refine lv_iload_n hx hb dX12_evenOf_9 rfl (lv_at hl 1 rfl) ?_
  refine lv_iconst (v := 1) hx hb dX12_evenOf_10 (by decide) ?_
  refine lv_iadd hx hb dX12_evenOf_11 ?_
  refine lv_imul hx hb dX12_evenOf_12 ?_
  refine lv_iload_n hx hb dX12_evenOf_13 rfl (lv_at hl 1 rfl) ?_
  refine lv_iconst (v := 1) hx hb dX12_evenOf_14 (by decide) ?_
  refine lv_iadd hx hb dX12_evenOf_15 ?_
  refine lv_imul hx hb dX12_evenOf_16 ?_
  refine lv_iload_n hx hb dX12_evenOf_17 rfl (lv_at hl 3 rfl) ?_
  refine lv_iload_n hx hb dX12_evenOf_18 rfl (lv_at hl 0 rfl) ?_
  refine lv_isub hx hb dX12_evenOf_19 ?_
  refine lv_iload_n hx hb dX12_evenOf_20 rfl (lv_at hl 1 rfl) ?_
  refine lv_imul hx hb dX12_evenOf_21 ?_
  refine lv_iload_n hx hb dX12_evenOf_22 rfl (lv_at hl 1 rfl) ?_
  refine lv_imul hx hb dX12_evenOf_23 ?_
  refine lv_iadd hx hb dX12_evenOf_24 ?_
  exact rt_i FX () (congrArg (fun z => some (Value.int z)) (show ((((p0 - p0 / p1 * p1) * ((p0 / p1) + 1)) * ((p0 / p1) + 1)) + (((p1 - (p0 - p0 / p1 * p1)) * (p0 / p1)) * (p0 / p1)) : Int32) = _ from rfl)) trivial (hP.sub [] rfl) (hD.sub [] (by decide) rfl) hS (Nat.le_of_ble_eq_true rfl) (Nat.le_of_ble_eq_true rfl) dX12_evenOf_25
set_option maxRecDepth 100000 in
set_option maxHeartbeats 4000000 in
theorem c_X11_even (l : Launch) (g : GG) (h0 : Nat) (h1 : Nat) (w0 : Nat) (w2 : Nat) (w3 : Nat) (w4 : Nat) (w5 : Nat) (w6 : Nat) (w7 : Nat) (w8 : Nat) (w9 : Nat) (w10 : Nat) (p1 : Int32) (p2 : Int32) : Ct l g yX11_even cX11_even 3 (some .int) { frames := 1, cells := 0, slots := 0, locals := 23 } [.ref h0, .int p1, .int p2] [(h0, .inr (11, [.ref w0, .ref h1, .ref w2, .ref w3, .ref w4, .ref w5, .ref w6, .ref w7, .ref w8, .ref w9, .ref w10]))] (S := Unit) (fun _ => some (.int (sp_even p1 p2))) (fun _ => True) (fun u => []) := by
  refine Ct.of (by decide) (Nat.le_of_ble_eq_true rfl) ?_
  intro p e s m below meth c A ls FX hP hD hS hl
  obtain ⟨FC, hr, hlk, hKn, hA, hnm⟩ := id FX
  have FC : CallFix p m c cX11_even 3 s _ BIG RX11 := FC
  obtain ⟨hx, hb, hml, hown, hB⟩ := id FC
  have hl : lv_has ls 3 [(0, .ref h0), (1, .int p1), (2, .int p2)] := hl
  refine lv_iload_n hx hb dX11_even_0 rfl (lv_at hl 1 rfl) ?_
  refine lv_if_lt (tgt := 22) hx hb dX11_even_1 (by decide) (fun c1 => ?_) (fun c1 => ?_)
  · have c1 := k_lt (a := p1.toInt) (b := 0) rfl (by decide) c1
    refine lv_bipush (v := -2) hx hb dX11_even_22 (by decide) ?_
    exact rt_i FX () (congrArg (fun z => some (Value.int z)) (show (-2 : Int32) = _ from by first | decide | (unfold sp_even; (repeat' split) <;> first | rfl | (exfalso; omega)))) trivial (hP.sub [] rfl) (hD.sub [] (by decide) rfl) hS (Nat.le_of_ble_eq_true rfl) (Nat.le_of_ble_eq_true rfl) dX11_even_24
  · have c1 := k_nlt (a := p1.toInt) (b := 0) rfl (by decide) c1
    refine lv_iload_n hx hb dX11_even_4 rfl (lv_at hl 1 rfl) ?_
    refine lv_sipush (v := 10000) hx hb dX11_even_5 (by decide) ?_
    refine lv_icmp_gt (tgt := 22) hx hb dX11_even_8 (by decide) (fun c2 => ?_) (fun c2 => ?_)
    · have c2 := k_lt (a := 10000) (b := p1.toInt) (by decide) rfl c2
      refine lv_bipush (v := -2) hx hb dX11_even_22 (by decide) ?_
      exact rt_i FX () (congrArg (fun z => some (Value.int z)) (show (-2 : Int32) = _ from by first | decide | (unfold sp_even; (repeat' split) <;> first | rfl | (exfalso; omega)))) trivial (hP.sub [] rfl) (hD.sub [] (by decide) rfl) hS (Nat.le_of_ble_eq_true rfl) (Nat.le_of_ble_eq_true rfl) dX11_even_24
    · have c2 := k_nlt (a := 10000) (b := p1.toInt) (by decide) rfl c2
      refine lv_iload_n hx hb dX11_even_11 rfl (lv_at hl 2 rfl) ?_
      refine lv_iconst (v := 1) hx hb dX11_even_12 (by decide) ?_
      refine lv_icmp_lt (tgt := 22) hx hb dX11_even_13 (by decide) (fun c3 => ?_) (fun c3 => ?_)
      · have c3 := k_lt (a := p2.toInt) (b := 1) rfl (by decide) c3
        refine lv_bipush (v := -2) hx hb dX11_even_22 (by decide) ?_
        exact rt_i FX () (congrArg (fun z => some (Value.int z)) (show (-2 : Int32) = _ from by first | decide | (unfold sp_even; (repeat' split) <;> first | rfl | (exfalso; omega)))) trivial (hP.sub [] rfl) (hD.sub [] (by decide) rfl) hS (Nat.le_of_ble_eq_true rfl) (Nat.le_of_ble_eq_true rfl) dX11_even_24
      · have c3 := k_nlt (a := p2.toInt) (b := 1) rfl (by decide) c3
        refine lv_iload_n hx hb dX11_even_16 rfl (lv_at hl 2 rfl) ?_
        refine lv_bipush (v := 100) hx hb dX11_even_17 (by decide) ?_
        refine lv_icmp_le (tgt := 25) hx hb dX11_even_19 (by decide) (fun c4 => ?_) (fun c4 => ?_)
        · have c4 := k_le (a := p2.toInt) (b := 100) rfl (by decide) c4
          refine lv_iload_n hx hb dX11_even_25 rfl (lv_at hl 1 rfl) ?_
          refine lv_iload_n hx hb dX11_even_26 rfl (lv_at hl 2 rfl) ?_
          refine call_S (As := [.int p1, .int p2]) (rest := []) (wr := [(h0, .inr (11, [.ref w0, .ref h1, .ref w2, .ref w3, .ref w4, .ref w5, .ref w6, .ref w7, .ref w8, .ref w9, .ref w10]))]) FC hKn (c_X11_evenSquares l g p1 p2 (show 1 ≤ p2.toInt by omega)) m_yX11_evenSquares b_473 hP hD hS hA [] [0] rfl (by decide) rfl (by decide) (by decide) rfl hl.1 rfl (Nat.le_of_ble_eq_true rfl) dX11_even_27 ⟨(Nat.le_of_ble_eq_true rfl), (Nat.le_of_ble_eq_true rfl)⟩ ⟨(Nat.le_of_ble_eq_true rfl), (Nat.le_of_ble_eq_true rfl)⟩ (fun u5 H locs _ hP hD hS => ?_)
          have hP : va_P g.1 vwCl [(h0, .inr (11, [.ref w0, .ref h1, .ref w2, .ref w3, .ref w4, .ref w5, .ref w6, .ref w7, .ref w8, .ref w9, .ref w10]))] H := hP
          have hD : va_D A [(h0, .inr (11, [.ref w0, .ref h1, .ref w2, .ref w3, .ref w4, .ref w5, .ref w6, .ref w7, .ref w8, .ref w9, .ref w10]))] := hD
          refine W.eq (g2 := F0 m 30 ls [.int (evF p1 p2)]) rfl ?_
          exact rt_i FX () (congrArg (fun z => some (Value.int z)) (show (evF p1 p2 : Int32) = _ from by first | decide | (unfold sp_even; (repeat' split) <;> first | rfl | (exfalso; omega)))) trivial (hP.sub [] rfl) (hD.sub [] (by decide) rfl) hS (Nat.le_of_ble_eq_true rfl) (Nat.le_of_ble_eq_true rfl) dX11_even_30
        · have c4 := k_nle (a := p2.toInt) (b := 100) rfl (by decide) c4
          refine lv_bipush (v := -2) hx hb dX11_even_22 (by decide) ?_
          exact rt_i FX () (congrArg (fun z => some (Value.int z)) (show (-2 : Int32) = _ from by first | decide | (unfold sp_even; (repeat' split) <;> first | rfl | (exfalso; omega)))) trivial (hP.sub [] rfl) (hD.sub [] (by decide) rfl) hS (Nat.le_of_ble_eq_true rfl) (Nat.le_of_ble_eq_true rfl) dX11_even_24
set_option maxRecDepth 100000 in
set_option maxHeartbeats 4000000 in
theorem c_X12_even (l : Launch) (g : GG) (h0 : Nat) (a1 : Nat) (a2 : Nat) (a3 : Nat) (a4 : Nat) (a6 : Nat) (a14 : Nat) (a15 : Nat) (a19 : Nat) (a20 : Nat) (a23 : Nat) (a24 : Nat) (a25 : Nat) (a26 : Nat) (a27 : Nat) (a28 : Nat) (p1 : Int32) (p2 : Int32) : Ct l g yX12_even cX12_even 3 (some .int) { frames := 1, cells := 0, slots := 0, locals := 25 } [.ref h0, .int p1, .int p2] [(h0, .inr (12, [.int 0, .ref a1, .ref a2, .ref a3, .ref a4, .int 0, .ref a6, .int 0, .int 0, .int 0, .int 0, .int 0, .int 0, .int (-1), .ref a14, .ref a15, .int 0, .int 0, .int 0, .ref a19, .ref a20, .int 0, .int 0, .ref a23, .ref a24, .ref a25, .ref a26, .ref a27, .ref a28]))] (S := Unit) (fun _ => some (.int (sp_even p1 p2))) (fun _ => True) (fun u => []) := by
  refine Ct.of (by decide) (Nat.le_of_ble_eq_true rfl) ?_
  intro p e s m below meth c A ls FX hP hD hS hl
  obtain ⟨FC, hr, hlk, hKn, hA, hnm⟩ := id FX
  have FC : CallFix p m c cX12_even 3 s _ BIG RX12 := FC
  obtain ⟨hx, hb, hml, hown, hB⟩ := id FC
  have hl : lv_has ls 3 [(0, .ref h0), (1, .int p1), (2, .int p2)] := hl
  refine lv_iload_n hx hb dX12_even_0 rfl (lv_at hl 1 rfl) ?_
  refine lv_i2l (v := p1.toInt64) hx hb dX12_even_1 rfl ?_
  refine lv_lconst (v := 0) hx hb dX12_even_2 (by decide) ?_
  refine lv_ldc2 hx hb hown (hB _ b_474) dX12_even_3 ?_
  refine call_S (As := [.long p1.toInt64, .long 0, .long 10000]) (rest := []) (wr := [(h0, .inr (12, [.int 0, .ref a1, .ref a2, .ref a3, .ref a4, .int 0, .ref a6, .int 0, .int 0, .int 0, .int 0, .int 0, .int 0, .int (-1), .ref a14, .ref a15, .int 0, .int 0, .int 0, .ref a19, .ref a20, .int 0, .int 0, .ref a23, .ref a24, .ref a25, .ref a26, .ref a27, .ref a28]))]) FC hKn (c_X12_in l g p1.toInt64 0 10000) m_yX12_in b_360 hP hD hS hA [] [0] rfl (by decide) rfl (by decide) (by decide) rfl hl.1 rfl (Nat.le_of_ble_eq_true rfl) dX12_even_6 ⟨(Nat.le_of_ble_eq_true rfl), (Nat.le_of_ble_eq_true rfl)⟩ ⟨(Nat.le_of_ble_eq_true rfl), (Nat.le_of_ble_eq_true rfl)⟩ (fun u1 H locs _ hP hD hS => ?_)
  have hP : va_P g.1 vwCl [(h0, .inr (12, [.int 0, .ref a1, .ref a2, .ref a3, .ref a4, .int 0, .ref a6, .int 0, .int 0, .int 0, .int 0, .int 0, .int 0, .int (-1), .ref a14, .ref a15, .int 0, .int 0, .int 0, .ref a19, .ref a20, .int 0, .int 0, .ref a23, .ref a24, .ref a25, .ref a26, .ref a27, .ref a28]))] H := hP
  have hD : va_D A [(h0, .inr (12, [.int 0, .ref a1, .ref a2, .ref a3, .ref a4, .int 0, .ref a6, .int 0, .int 0, .int 0, .int 0, .int 0, .int 0, .int (-1), .ref a14, .ref a15, .int 0, .int 0, .int 0, .ref a19, .ref a20, .int 0, .int 0, .ref a23, .ref a24, .ref a25, .ref a26, .ref a27, .ref a28]))] := hD
  refine W.eq (g2 := F0 m 9 ls [.int (inF p1.toInt64 0 10000)]) rfl ?_
  by_cases c2 : 0 ≤ p1.toInt ∧ p1.toInt ≤ 10000
  · refine tp_i (v := 1) (inF_yes (Int32.toInt_toInt64 _) (by decide) (by decide) c2) ?_
    refine lv_if_eq (tgt := 32) hx hb dX12_even_9 (by decide) (fun h => absurd h (by decide)) (fun _ => ?_)
    refine lv_iload_n hx hb dX12_even_12 rfl (lv_at hl 2 rfl) ?_
    refine lv_i2l (v := p2.toInt64) hx hb dX12_even_13 rfl ?_
    refine lv_lconst (v := 1) hx hb dX12_even_14 (by decide) ?_
    refine lv_ldc2 hx hb hown (hB _ b_475) dX12_even_15 ?_
    refine call_S (As := [.long p2.toInt64, .long 1, .long 100]) (rest := []) (wr := [(h0, .inr (12, [.int 0, .ref a1, .ref a2, .ref a3, .ref a4, .int 0, .ref a6, .int 0, .int 0, .int 0, .int 0, .int 0, .int 0, .int (-1), .ref a14, .ref a15, .int 0, .int 0, .int 0, .ref a19, .ref a20, .int 0, .int 0, .ref a23, .ref a24, .ref a25, .ref a26, .ref a27, .ref a28]))]) FC hKn (c_X12_in l g p2.toInt64 1 100) m_yX12_in b_360 hP hD hS hA [] [0] rfl (by decide) rfl (by decide) (by decide) rfl hl.1 rfl (Nat.le_of_ble_eq_true rfl) dX12_even_18 ⟨(Nat.le_of_ble_eq_true rfl), (Nat.le_of_ble_eq_true rfl)⟩ ⟨(Nat.le_of_ble_eq_true rfl), (Nat.le_of_ble_eq_true rfl)⟩ (fun u3 H locs _ hP hD hS => ?_)
    have hP : va_P g.1 vwCl [(h0, .inr (12, [.int 0, .ref a1, .ref a2, .ref a3, .ref a4, .int 0, .ref a6, .int 0, .int 0, .int 0, .int 0, .int 0, .int 0, .int (-1), .ref a14, .ref a15, .int 0, .int 0, .int 0, .ref a19, .ref a20, .int 0, .int 0, .ref a23, .ref a24, .ref a25, .ref a26, .ref a27, .ref a28]))] H := hP
    have hD : va_D A [(h0, .inr (12, [.int 0, .ref a1, .ref a2, .ref a3, .ref a4, .int 0, .ref a6, .int 0, .int 0, .int 0, .int 0, .int 0, .int 0, .int (-1), .ref a14, .ref a15, .int 0, .int 0, .int 0, .ref a19, .ref a20, .int 0, .int 0, .ref a23, .ref a24, .ref a25, .ref a26, .ref a27, .ref a28]))] := hD
    refine W.eq (g2 := F0 m 21 ls [.int (inF p2.toInt64 1 100)]) rfl ?_
    by_cases c4 : 1 ≤ p2.toInt ∧ p2.toInt ≤ 100
    · refine tp_i (v := 1) (inF_yes (Int32.toInt_toInt64 _) (by decide) (by decide) c4) ?_
      refine lv_if_eq (tgt := 32) hx hb dX12_even_21 (by decide) (fun h => absurd h (by decide)) (fun _ => ?_)
      refine lv_iload_n hx hb dX12_even_24 rfl (lv_at hl 1 rfl) ?_
      refine lv_iload_n hx hb dX12_even_25 rfl (lv_at hl 2 rfl) ?_
      refine call_S (As := [.int p1, .int p2]) (rest := []) (wr := [(h0, .inr (12, [.int 0, .ref a1, .ref a2, .ref a3, .ref a4, .int 0, .ref a6, .int 0, .int 0, .int 0, .int 0, .int 0, .int 0, .int (-1), .ref a14, .ref a15, .int 0, .int 0, .int 0, .ref a19, .ref a20, .int 0, .int 0, .ref a23, .ref a24, .ref a25, .ref a26, .ref a27, .ref a28]))]) FC hKn (c_X12_evenOf l g p1 p2 (show 1 ≤ p2.toInt by omega)) m_yX12_evenOf b_476 hP hD hS hA [] [0] rfl (by decide) rfl (by decide) (by decide) rfl hl.1 rfl (Nat.le_of_ble_eq_true rfl) dX12_even_26 ⟨(Nat.le_of_ble_eq_true rfl), (Nat.le_of_ble_eq_true rfl)⟩ ⟨(Nat.le_of_ble_eq_true rfl), (Nat.le_of_ble_eq_true rfl)⟩ (fun u5 H locs _ hP hD hS => ?_)
      have hP : va_P g.1 vwCl [(h0, .inr (12, [.int 0, .ref a1, .ref a2, .ref a3, .ref a4, .int 0, .ref a6, .int 0, .int 0, .int 0, .int 0, .int 0, .int 0, .int (-1), .ref a14, .ref a15, .int 0, .int 0, .int 0, .ref a19, .ref a20, .int 0, .int 0, .ref a23, .ref a24, .ref a25, .ref a26, .ref a27, .ref a28]))] H := hP
      have hD : va_D A [(h0, .inr (12, [.int 0, .ref a1, .ref a2, .ref a3, .ref a4, .int 0, .ref a6, .int 0, .int 0, .int 0, .int 0, .int 0, .int 0, .int (-1), .ref a14, .ref a15, .int 0, .int 0, .int 0, .ref a19, .ref a20, .int 0, .int 0, .ref a23, .ref a24, .ref a25, .ref a26, .ref a27, .ref a28]))] := hD
      refine W.eq (g2 := F0 m 29 ls [.int (evF p1 p2)]) rfl ?_
      refine lv_goto (tgt := 34) hx hb dX12_even_29 (by decide) ?_
      exact rt_i FX () (congrArg (fun z => some (Value.int z)) (show (evF p1 p2 : Int32) = _ from by first | decide | (unfold sp_even; (repeat' split) <;> first | rfl | (exfalso; omega)))) trivial (hP.sub [] rfl) (hD.sub [] (by decide) rfl) hS (Nat.le_of_ble_eq_true rfl) (Nat.le_of_ble_eq_true rfl) dX12_even_34
    · refine tp_i (v := 0) (inF_not (Int32.toInt_toInt64 _) (by decide) (by decide) c4) ?_
      refine lv_if_eq (tgt := 32) hx hb dX12_even_21 (by decide) (fun _ => ?_) (fun h => absurd h (by decide))
      refine lv_bipush (v := -2) hx hb dX12_even_32 (by decide) ?_
      exact rt_i FX () (congrArg (fun z => some (Value.int z)) (show (-2 : Int32) = _ from by first | decide | (unfold sp_even; (repeat' split) <;> first | rfl | (exfalso; omega)))) trivial (hP.sub [] rfl) (hD.sub [] (by decide) rfl) hS (Nat.le_of_ble_eq_true rfl) (Nat.le_of_ble_eq_true rfl) dX12_even_34
  · refine tp_i (v := 0) (inF_not (Int32.toInt_toInt64 _) (by decide) (by decide) c2) ?_
    refine lv_if_eq (tgt := 32) hx hb dX12_even_9 (by decide) (fun _ => ?_) (fun h => absurd h (by decide))
    refine lv_bipush (v := -2) hx hb dX12_even_32 (by decide) ?_
    exact rt_i FX () (congrArg (fun z => some (Value.int z)) (show (-2 : Int32) = _ from by first | decide | (unfold sp_even; (repeat' split) <;> first | rfl | (exfalso; omega)))) trivial (hP.sub [] rfl) (hD.sub [] (by decide) rfl) hS (Nat.le_of_ble_eq_true rfl) (Nat.le_of_ble_eq_true rfl) dX12_even_34
set_option maxRecDepth 100000 in
set_option maxHeartbeats 4000000 in
theorem c_X11_steps (l : Launch) (g : GG) (h0 : Nat) (h1 : Nat) (w0 : Nat) (w2 : Nat) (w3 : Nat) (w4 : Nat) (w5 : Nat) (w6 : Nat) (w7 : Nat) (w8 : Nat) (w9 : Nat) (w10 : Nat) (p1 : Int32) (p2 : Int32) : Ct l g yX11_steps cX11_steps 7 (some .int) { frames := 1, cells := 0, slots := 0, locals := 23 } [.ref h0, .int p1, .int p2] [(h0, .inr (11, [.ref w0, .ref h1, .ref w2, .ref w3, .ref w4, .ref w5, .ref w6, .ref w7, .ref w8, .ref w9, .ref w10]))] (S := Unit) (fun _ => some (.int (sp_steps p1 p2))) (fun _ => True) (fun u => []) := by
  refine Ct.of (by decide) (Nat.le_of_ble_eq_true rfl) ?_
  intro p e s m below meth c A ls FX hP hD hS hl
  obtain ⟨FC, hr, hlk, hKn, hA, hnm⟩ := id FX
  have FC : CallFix p m c cX11_steps 7 s _ BIG RX11 := FC
  obtain ⟨hx, hb, hml, hown, hB⟩ := id FC
  have hl : lv_has ls 7 [(0, .ref h0), (1, .int p1), (2, .int p2)] := hl
  refine lv_iload_n hx hb dX11_steps_0 rfl (lv_at hl 1 rfl) ?_
  refine lv_if_lt (tgt := 22) hx hb dX11_steps_1 (by decide) (fun c1 => ?_) (fun c1 => ?_)
  · have c1 := k_lt (a := p1.toInt) (b := 0) rfl (by decide) c1
    refine lv_bipush (v := -2) hx hb dX11_steps_22 (by decide) ?_
    exact rt_i FX () (congrArg (fun z => some (Value.int z)) (show (-2 : Int32) = sp_steps p1 p2 from (by unfold sp_steps; rw [if_neg (fun q => by omega)]))) trivial (hP.sub [] rfl) (hD.sub [] (by decide) rfl) hS (Nat.le_of_ble_eq_true rfl) (Nat.le_of_ble_eq_true rfl) dX11_steps_24
  · have c1 := k_nlt (a := p1.toInt) (b := 0) rfl (by decide) c1
    refine lv_iload_n hx hb dX11_steps_4 rfl (lv_at hl 1 rfl) ?_
    refine lv_sipush (v := 10000) hx hb dX11_steps_5 (by decide) ?_
    refine lv_icmp_gt (tgt := 22) hx hb dX11_steps_8 (by decide) (fun c2 => ?_) (fun c2 => ?_)
    · have c2 := k_lt (a := 10000) (b := p1.toInt) (by decide) rfl c2
      refine lv_bipush (v := -2) hx hb dX11_steps_22 (by decide) ?_
      exact rt_i FX () (congrArg (fun z => some (Value.int z)) (show (-2 : Int32) = sp_steps p1 p2 from (by unfold sp_steps; rw [if_neg (fun q => by omega)]))) trivial (hP.sub [] rfl) (hD.sub [] (by decide) rfl) hS (Nat.le_of_ble_eq_true rfl) (Nat.le_of_ble_eq_true rfl) dX11_steps_24
    · have c2 := k_nlt (a := 10000) (b := p1.toInt) (by decide) rfl c2
      refine lv_iload_n hx hb dX11_steps_11 rfl (lv_at hl 2 rfl) ?_
      refine lv_if_lt (tgt := 22) hx hb dX11_steps_12 (by decide) (fun c3 => ?_) (fun c3 => ?_)
      · have c3 := k_lt (a := p2.toInt) (b := 0) rfl (by decide) c3
        refine lv_bipush (v := -2) hx hb dX11_steps_22 (by decide) ?_
        exact rt_i FX () (congrArg (fun z => some (Value.int z)) (show (-2 : Int32) = sp_steps p1 p2 from (by unfold sp_steps; rw [if_neg (fun q => by omega)]))) trivial (hP.sub [] rfl) (hD.sub [] (by decide) rfl) hS (Nat.le_of_ble_eq_true rfl) (Nat.le_of_ble_eq_true rfl) dX11_steps_24
      · have c3 := k_nlt (a := p2.toInt) (b := 0) rfl (by decide) c3
        refine lv_iload_n hx hb dX11_steps_15 rfl (lv_at hl 2 rfl) ?_
        refine lv_ldcw hx hb hown (hB _ b_477) dX11_steps_16 ?_
        refine lv_icmp_le (tgt := 25) hx hb dX11_steps_19 (by decide) (fun c4 => ?_) (fun c4 => ?_)
        · have c4 := k_le (a := p2.toInt) (b := 100000) rfl (by decide) c4
          refine lv_iconst (v := 1) hx hb dX11_steps_25 (by decide) ?_
          refine lv_istore_n (lv' := [(3, .int 1), (0, .ref h0), (1, .int p1), (2, .int p2)]) hx hb dX11_steps_26 rfl hl (by decide) rfl (fun ls hl => ?_)
          refine lv_ldc hx hb hown (hB _ b_478) dX11_steps_27 ?_
          refine lv_istore (lv' := [(4, .int 1000000000), (3, .int 1), (0, .ref h0), (1, .int p1), (2, .int p2)]) hx hb dX11_steps_29 hl (by decide) rfl (fun ls hl => ?_)
          refine lv_iconst (v := 1) hx hb dX11_steps_31 (by decide) ?_
          refine lv_istore (lv' := [(5, .int 1), (4, .int 1000000000), (3, .int 1), (0, .ref h0), (1, .int p1), (2, .int p2)]) hx hb dX11_steps_32 hl (by decide) rfl (fun ls hl => ?_)
          refine lv_iload hx hb dX11_steps_34 (lv_at hl 0 rfl) ?_
          refine lv_bipush (v := 100) hx hb dX11_steps_36 (by decide) ?_
          refine lv_icmp_gt (tgt := 74) hx hb dX11_steps_38 (by decide) (fun h => absurd h (by decide)) (fun _ => ?_)
          refine lv_iload_n hx hb dX11_steps_41 rfl (lv_at hl 4 rfl) ?_
          refine lv_iload hx hb dX11_steps_42 (lv_at hl 0 rfl) ?_
          refine call_S (As := [.int p1, .int 1]) (rest := []) (wr := [(h0, .inr (11, [.ref w0, .ref h1, .ref w2, .ref w3, .ref w4, .ref w5, .ref w6, .ref w7, .ref w8, .ref w9, .ref w10]))]) FC hKn (c_X11_evenSquares l g p1 1 (by decide)) m_yX11_evenSquares b_473 hP hD hS hA [] [0] rfl (by decide) rfl (by decide) (by decide) rfl hl.1 rfl (Nat.le_of_ble_eq_true rfl) dX11_steps_44 ⟨(Nat.le_of_ble_eq_true rfl), (Nat.le_of_ble_eq_true rfl)⟩ ⟨(Nat.le_of_ble_eq_true rfl), (Nat.le_of_ble_eq_true rfl)⟩ (fun u5 H locs _ hP hD hS => ?_)
          have hP : va_P g.1 vwCl [(h0, .inr (11, [.ref w0, .ref h1, .ref w2, .ref w3, .ref w4, .ref w5, .ref w6, .ref w7, .ref w8, .ref w9, .ref w10]))] H := hP
          have hD : va_D A [(h0, .inr (11, [.ref w0, .ref h1, .ref w2, .ref w3, .ref w4, .ref w5, .ref w6, .ref w7, .ref w8, .ref w9, .ref w10]))] := hD
          refine W.eq (g2 := F0 m 47 ls [.int (evF p1 1)]) rfl ?_
          refine lv_iload_n hx hb dX11_steps_47 rfl (lv_at hl 5 rfl) ?_
          refine lv_iload hx hb dX11_steps_48 (lv_at hl 0 rfl) ?_
          refine lv_imul hx hb dX11_steps_50 ?_
          refine lv_iadd hx hb dX11_steps_51 ?_
          refine lv_istore (lv' := [(6, .int ((evF p1 1) + (p2 * 1))), (5, .int 1), (4, .int 1000000000), (3, .int 1), (0, .ref h0), (1, .int p1), (2, .int p2)]) hx hb dX11_steps_52 hl (by decide) rfl (fun ls hl => ?_)
          refine lv_iload hx hb dX11_steps_54 (lv_at hl 0 rfl) ?_
          refine lv_iload hx hb dX11_steps_56 (lv_at hl 2 rfl) ?_
          refine lv_icmp_ge (tgt := 68) hx hb dX11_steps_58 (by decide) (fun c6 => ?_) (fun c6 => ?_)
          · have c6 := k_le (a := 1000000000) (b := (cst p1 p2 1).toInt) (by decide) rfl c6
            have h9 := cst1 (a := p1) (q := p2) (by omega) (by omega) (by omega) (by omega)
            exfalso; omega
          · skip
            refine lv_iload hx hb dX11_steps_61 (lv_at hl 0 rfl) ?_
            refine lv_istore (lv' := [(4, .int ((evF p1 1) + (p2 * 1))), (6, .int ((evF p1 1) + (p2 * 1))), (5, .int 1), (3, .int 1), (0, .ref h0), (1, .int p1), (2, .int p2)]) hx hb dX11_steps_63 hl (by decide) rfl (fun ls hl => ?_)
            refine lv_iload hx hb dX11_steps_65 (lv_at hl 2 rfl) ?_
            refine lv_istore_n (lv' := [(3, .int 1), (4, .int ((evF p1 1) + (p2 * 1))), (6, .int ((evF p1 1) + (p2 * 1))), (5, .int 1), (0, .ref h0), (1, .int p1), (2, .int p2)]) hx hb dX11_steps_67 rfl hl (by decide) rfl (fun ls hl => ?_)
            refine lv_iinc (v := 2) (lv' := [(5, .int 2), (3, .int 1), (4, .int ((evF p1 1) + (p2 * 1))), (6, .int ((evF p1 1) + (p2 * 1))), (0, .ref h0), (1, .int p1), (2, .int p2)]) hx hb dX11_steps_68 hl (k := 3) rfl (by decide) (by decide) rfl (fun ls hl => ?_)
            refine lv_goto (tgt := 34) hx hb dX11_steps_71 (by decide) ?_
            have lp : ∀ (n k : Nat) (H : Heap) (locs : List Loc) (ls : Array Slot), k ≤ 99 → 99 < k + n → va_P g.1 vwCl [(h0, .inr (11, [.ref w0, .ref h1, .ref w2, .ref w3, .ref w4, .ref w5, .ref w6, .ref w7, .ref w8, .ref w9, .ref w10]))] H → va_D A [(h0, .inr (11, [.ref w0, .ref h1, .ref w2, .ref w3, .ref w4, .ref w5, .ref w6, .ref w7, .ref w8, .ref w9, .ref w10]))] → va_S A s.heap H locs → lv_has ls 7 [(5, .int (nI (k + 2))), (3, .int (bst p1 p2 k)), (4, .int (cst p1 p2 (bst p1 p2 k))), (0, .ref h0), (1, .int p1), (2, .int p2)] → W p l e { frames := 1, cells := 0, slots := 0, locals := 23 } s m ([.ref h0, .int p1, .int p2].toArray) below meth c H locs 0 0 (MQ below (QX (S := Unit) (fun _ => some (.int (sp_steps p1 p2))) (fun _ => True) g (fun u => []) A) ([.ref h0, .int p1, .int p2].toArray) s 0 0 A) (F0 m 34 ls []) := by
              intro n
              induction n with
              | zero =>
                intro k H locs ls hi hn
                exact absurd hn (by omega)
              | succ n ih =>
                intro k H locs ls hi hn hP hD hS hl
                refine lv_iload hx hb dX11_steps_34 (lv_at hl 0 rfl) ?_
                refine lv_bipush (v := 100) hx hb dX11_steps_36 (by decide) ?_
                refine lv_icmp_gt (tgt := 74) hx hb dX11_steps_38 (by decide) (fun c7 => ?_) (fun c7 => ?_)
                · have c7 := k_lt (a := 100) (b := ((k + 2 : Nat) : Int)) (by decide) (nI_toInt (by omega)) c7
                  refine lv_iload_n hx hb dX11_steps_74 rfl (lv_at hl 1 rfl) ?_
                  exact rt_i FX () (congrArg (fun z => some (Value.int z)) (show bst p1 p2 k = sp_steps p1 p2 from (by have hk9 : k = 99 := (by omega); rw [hk9]; unfold sp_steps; rw [if_pos ⟨⟨by omega, by omega⟩, by omega, by omega⟩]))) trivial (hP.sub [] rfl) (hD.sub [] (by decide) rfl) hS (Nat.le_of_ble_eq_true rfl) (Nat.le_of_ble_eq_true rfl) dX11_steps_75
                · have c7 := k_nlt (a := 100) (b := ((k + 2 : Nat) : Int)) (by decide) (nI_toInt (by omega)) c7
                  refine lv_iload_n hx hb dX11_steps_41 rfl (lv_at hl 4 rfl) ?_
                  refine lv_iload hx hb dX11_steps_42 (lv_at hl 0 rfl) ?_
                  refine call_S (As := [.int p1, .int (nI (k + 2))]) (rest := []) (wr := [(h0, .inr (11, [.ref w0, .ref h1, .ref w2, .ref w3, .ref w4, .ref w5, .ref w6, .ref w7, .ref w8, .ref w9, .ref w10]))]) FC hKn (c_X11_evenSquares l g p1 (nI (k + 2)) (show 1 ≤ (nI (k + 2)).toInt by rw [nI_toInt (by omega)]; omega)) m_yX11_evenSquares b_473 hP hD hS hA [] [0] rfl (by decide) rfl (by decide) (by decide) rfl hl.1 rfl (Nat.le_of_ble_eq_true rfl) dX11_steps_44 ⟨(Nat.le_of_ble_eq_true rfl), (Nat.le_of_ble_eq_true rfl)⟩ ⟨(Nat.le_of_ble_eq_true rfl), (Nat.le_of_ble_eq_true rfl)⟩ (fun u8 H locs _ hP hD hS => ?_)
                  have hP : va_P g.1 vwCl [(h0, .inr (11, [.ref w0, .ref h1, .ref w2, .ref w3, .ref w4, .ref w5, .ref w6, .ref w7, .ref w8, .ref w9, .ref w10]))] H := hP
                  have hD : va_D A [(h0, .inr (11, [.ref w0, .ref h1, .ref w2, .ref w3, .ref w4, .ref w5, .ref w6, .ref w7, .ref w8, .ref w9, .ref w10]))] := hD
                  refine W.eq (g2 := F0 m 47 ls [.int (evF p1 (nI (k + 2)))]) rfl ?_
                  refine lv_iload_n hx hb dX11_steps_47 rfl (lv_at hl 5 rfl) ?_
                  refine lv_iload hx hb dX11_steps_48 (lv_at hl 0 rfl) ?_
                  refine lv_imul hx hb dX11_steps_50 ?_
                  refine lv_iadd hx hb dX11_steps_51 ?_
                  refine lv_istore (lv' := [(6, .int ((evF p1 (nI (k + 2))) + (p2 * (nI (k + 2))))), (5, .int (nI (k + 2))), (3, .int (bst p1 p2 k)), (4, .int (cst p1 p2 (bst p1 p2 k))), (0, .ref h0), (1, .int p1), (2, .int p2)]) hx hb dX11_steps_52 hl (by decide) rfl (fun ls hl => ?_)
                  refine lv_iload hx hb dX11_steps_54 (lv_at hl 0 rfl) ?_
                  refine lv_iload hx hb dX11_steps_56 (lv_at hl 3 rfl) ?_
                  refine lv_icmp_ge (tgt := 68) hx hb dX11_steps_58 (by decide) (fun c9 => ?_) (fun c9 => ?_)
                  · have c9 := k_le (a := (cst p1 p2 (bst p1 p2 k)).toInt) (b := ((evF p1 (nI (k + 2))) + (p2 * (nI (k + 2)))).toInt) rfl rfl c9
                    refine lv_iinc (v := nI (k + 2 + 1)) (lv' := [(5, .int (nI (k + 2 + 1))), (6, .int ((evF p1 (nI (k + 2))) + (p2 * (nI (k + 2))))), (3, .int (bst p1 p2 k)), (4, .int (cst p1 p2 (bst p1 p2 k))), (0, .ref h0), (1, .int p1), (2, .int p2)]) hx hb dX11_steps_68 hl (k := 1) rfl (nI_1 _) (by decide) rfl (fun ls hl => ?_)
                    refine lv_goto (tgt := 34) hx hb dX11_steps_71 (by decide) ?_
                    have hb1 : bst p1 p2 (k + 1) = bst p1 p2 k := if_neg (show ¬ (evF p1 (nI (k + 2)) + p2 * nI (k + 2) < cst p1 p2 (bst p1 p2 k)) from fun z => by have z := Int32.lt_iff_toInt_lt.mp z; have c9 : (cst p1 p2 (bst p1 p2 k)).toInt ≤ (evF p1 (nI (k + 2)) + p2 * nI (k + 2)).toInt := c9; omega)
                    exact ih (k + 1) H locs ls (by omega) (by omega) hP hD hS (by rw [hb1]; exact lv_sub hl [0, 2, 3, 4, 5, 6] rfl)
                  · have c9 := k_nle (a := (cst p1 p2 (bst p1 p2 k)).toInt) (b := ((evF p1 (nI (k + 2))) + (p2 * (nI (k + 2)))).toInt) rfl rfl c9
                    refine lv_iload hx hb dX11_steps_61 (lv_at hl 0 rfl) ?_
                    refine lv_istore (lv' := [(4, .int ((evF p1 (nI (k + 2))) + (p2 * (nI (k + 2))))), (6, .int ((evF p1 (nI (k + 2))) + (p2 * (nI (k + 2))))), (5, .int (nI (k + 2))), (3, .int (bst p1 p2 k)), (0, .ref h0), (1, .int p1), (2, .int p2)]) hx hb dX11_steps_63 hl (by decide) rfl (fun ls hl => ?_)
                    refine lv_iload hx hb dX11_steps_65 (lv_at hl 2 rfl) ?_
                    refine lv_istore_n (lv' := [(3, .int (nI (k + 2))), (4, .int ((evF p1 (nI (k + 2))) + (p2 * (nI (k + 2))))), (6, .int ((evF p1 (nI (k + 2))) + (p2 * (nI (k + 2))))), (5, .int (nI (k + 2))), (0, .ref h0), (1, .int p1), (2, .int p2)]) hx hb dX11_steps_67 rfl hl (by decide) rfl (fun ls hl => ?_)
                    refine lv_iinc (v := nI (k + 2 + 1)) (lv' := [(5, .int (nI (k + 2 + 1))), (3, .int (nI (k + 2))), (4, .int ((evF p1 (nI (k + 2))) + (p2 * (nI (k + 2))))), (6, .int ((evF p1 (nI (k + 2))) + (p2 * (nI (k + 2))))), (0, .ref h0), (1, .int p1), (2, .int p2)]) hx hb dX11_steps_68 hl (k := 3) rfl (nI_1 _) (by decide) rfl (fun ls hl => ?_)
                    refine lv_goto (tgt := 34) hx hb dX11_steps_71 (by decide) ?_
                    have hb1 : bst p1 p2 (k + 1) = nI (k + 2) := if_pos (show evF p1 (nI (k + 2)) + p2 * nI (k + 2) < cst p1 p2 (bst p1 p2 k) from Int32.lt_iff_toInt_lt.mpr (by have c9 : (evF p1 (nI (k + 2)) + p2 * nI (k + 2)).toInt < (cst p1 p2 (bst p1 p2 k)).toInt := c9; omega))
                    exact ih (k + 1) H locs ls (by omega) (by omega) hP hD hS (by rw [hb1]; exact lv_sub hl [0, 1, 2, 4, 5, 6] rfl)
            exact lp 100 0 _ _ ls (by omega) (by omega) hP hD hS (lv_sub hl [0, 1, 2, 4, 5, 6] rfl)
        · have c4 := k_nle (a := p2.toInt) (b := 100000) rfl (by decide) c4
          refine lv_bipush (v := -2) hx hb dX11_steps_22 (by decide) ?_
          exact rt_i FX () (congrArg (fun z => some (Value.int z)) (show (-2 : Int32) = sp_steps p1 p2 from (by unfold sp_steps; rw [if_neg (fun q => by omega)]))) trivial (hP.sub [] rfl) (hD.sub [] (by decide) rfl) hS (Nat.le_of_ble_eq_true rfl) (Nat.le_of_ble_eq_true rfl) dX11_steps_24
set_option maxRecDepth 100000 in
set_option maxHeartbeats 4000000 in
theorem c_X12_steps (l : Launch) (g : GG) (h0 : Nat) (a1 : Nat) (a2 : Nat) (a3 : Nat) (a4 : Nat) (a6 : Nat) (a14 : Nat) (a15 : Nat) (a19 : Nat) (a20 : Nat) (a23 : Nat) (a24 : Nat) (a25 : Nat) (a26 : Nat) (a27 : Nat) (a28 : Nat) (p1 : Int32) (p2 : Int32) : Ct l g yX12_steps cX12_steps 5 (some .int) { frames := 1, cells := 0, slots := 0, locals := 25 } [.ref h0, .int p1, .int p2] [(h0, .inr (12, [.int 0, .ref a1, .ref a2, .ref a3, .ref a4, .int 0, .ref a6, .int 0, .int 0, .int 0, .int 0, .int 0, .int 0, .int (-1), .ref a14, .ref a15, .int 0, .int 0, .int 0, .ref a19, .ref a20, .int 0, .int 0, .ref a23, .ref a24, .ref a25, .ref a26, .ref a27, .ref a28]))] (S := Unit) (fun _ => some (.int (sp_steps p1 p2))) (fun _ => True) (fun u => []) := by
  refine Ct.of (by decide) (Nat.le_of_ble_eq_true rfl) ?_
  intro p e s m below meth c A ls FX hP hD hS hl
  obtain ⟨FC, hr, hlk, hKn, hA, hnm⟩ := id FX
  have FC : CallFix p m c cX12_steps 5 s _ BIG RX12 := FC
  obtain ⟨hx, hb, hml, hown, hB⟩ := id FC
  have hl : lv_has ls 5 [(0, .ref h0), (1, .int p1), (2, .int p2)] := hl
  refine lv_iload_n hx hb dX12_steps_0 rfl (lv_at hl 1 rfl) ?_
  refine lv_i2l (v := p1.toInt64) hx hb dX12_steps_1 rfl ?_
  refine lv_lconst (v := 0) hx hb dX12_steps_2 (by decide) ?_
  refine lv_ldc2 hx hb hown (hB _ b_474) dX12_steps_3 ?_
  refine call_S (As := [.long p1.toInt64, .long 0, .long 10000]) (rest := []) (wr := [(h0, .inr (12, [.int 0, .ref a1, .ref a2, .ref a3, .ref a4, .int 0, .ref a6, .int 0, .int 0, .int 0, .int 0, .int 0, .int 0, .int (-1), .ref a14, .ref a15, .int 0, .int 0, .int 0, .ref a19, .ref a20, .int 0, .int 0, .ref a23, .ref a24, .ref a25, .ref a26, .ref a27, .ref a28]))]) FC hKn (c_X12_in l g p1.toInt64 0 10000) m_yX12_in b_360 hP hD hS hA [] [0] rfl (by decide) rfl (by decide) (by decide) rfl hl.1 rfl (Nat.le_of_ble_eq_true rfl) dX12_steps_6 ⟨(Nat.le_of_ble_eq_true rfl), (Nat.le_of_ble_eq_true rfl)⟩ ⟨(Nat.le_of_ble_eq_true rfl), (Nat.le_of_ble_eq_true rfl)⟩ (fun u1 H locs _ hP hD hS => ?_)
  have hP : va_P g.1 vwCl [(h0, .inr (12, [.int 0, .ref a1, .ref a2, .ref a3, .ref a4, .int 0, .ref a6, .int 0, .int 0, .int 0, .int 0, .int 0, .int 0, .int (-1), .ref a14, .ref a15, .int 0, .int 0, .int 0, .ref a19, .ref a20, .int 0, .int 0, .ref a23, .ref a24, .ref a25, .ref a26, .ref a27, .ref a28]))] H := hP
  have hD : va_D A [(h0, .inr (12, [.int 0, .ref a1, .ref a2, .ref a3, .ref a4, .int 0, .ref a6, .int 0, .int 0, .int 0, .int 0, .int 0, .int 0, .int (-1), .ref a14, .ref a15, .int 0, .int 0, .int 0, .ref a19, .ref a20, .int 0, .int 0, .ref a23, .ref a24, .ref a25, .ref a26, .ref a27, .ref a28]))] := hD
  refine W.eq (g2 := F0 m 9 ls [.int (inF p1.toInt64 0 10000)]) rfl ?_
  by_cases c2 : 0 ≤ p1.toInt ∧ p1.toInt ≤ 10000
  · refine tp_i (v := 1) (inF_yes (Int32.toInt_toInt64 _) (by decide) (by decide) c2) ?_
    refine lv_if_eq (tgt := 24) hx hb dX12_steps_9 (by decide) (fun h => absurd h (by decide)) (fun _ => ?_)
    refine lv_iload_n hx hb dX12_steps_12 rfl (lv_at hl 2 rfl) ?_
    refine lv_i2l (v := p2.toInt64) hx hb dX12_steps_13 rfl ?_
    refine lv_lconst (v := 0) hx hb dX12_steps_14 (by decide) ?_
    refine lv_ldc2 hx hb hown (hB _ b_479) dX12_steps_15 ?_
    refine call_S (As := [.long p2.toInt64, .long 0, .long 100000]) (rest := []) (wr := [(h0, .inr (12, [.int 0, .ref a1, .ref a2, .ref a3, .ref a4, .int 0, .ref a6, .int 0, .int 0, .int 0, .int 0, .int 0, .int 0, .int (-1), .ref a14, .ref a15, .int 0, .int 0, .int 0, .ref a19, .ref a20, .int 0, .int 0, .ref a23, .ref a24, .ref a25, .ref a26, .ref a27, .ref a28]))]) FC hKn (c_X12_in l g p2.toInt64 0 100000) m_yX12_in b_360 hP hD hS hA [] [0] rfl (by decide) rfl (by decide) (by decide) rfl hl.1 rfl (Nat.le_of_ble_eq_true rfl) dX12_steps_18 ⟨(Nat.le_of_ble_eq_true rfl), (Nat.le_of_ble_eq_true rfl)⟩ ⟨(Nat.le_of_ble_eq_true rfl), (Nat.le_of_ble_eq_true rfl)⟩ (fun u3 H locs _ hP hD hS => ?_)
    have hP : va_P g.1 vwCl [(h0, .inr (12, [.int 0, .ref a1, .ref a2, .ref a3, .ref a4, .int 0, .ref a6, .int 0, .int 0, .int 0, .int 0, .int 0, .int 0, .int (-1), .ref a14, .ref a15, .int 0, .int 0, .int 0, .ref a19, .ref a20, .int 0, .int 0, .ref a23, .ref a24, .ref a25, .ref a26, .ref a27, .ref a28]))] H := hP
    have hD : va_D A [(h0, .inr (12, [.int 0, .ref a1, .ref a2, .ref a3, .ref a4, .int 0, .ref a6, .int 0, .int 0, .int 0, .int 0, .int 0, .int 0, .int (-1), .ref a14, .ref a15, .int 0, .int 0, .int 0, .ref a19, .ref a20, .int 0, .int 0, .ref a23, .ref a24, .ref a25, .ref a26, .ref a27, .ref a28]))] := hD
    refine W.eq (g2 := F0 m 21 ls [.int (inF p2.toInt64 0 100000)]) rfl ?_
    by_cases c4 : 0 ≤ p2.toInt ∧ p2.toInt ≤ 100000
    · refine tp_i (v := 1) (inF_yes (Int32.toInt_toInt64 _) (by decide) (by decide) c4) ?_
      refine lv_if_ne (tgt := 27) hx hb dX12_steps_21 (by decide) (fun _ => ?_) (fun h => absurd h (by decide))
      refine lv_iconst (v := 1) hx hb dX12_steps_27 (by decide) ?_
      refine lv_istore_n (lv' := [(3, .int 1), (0, .ref h0), (1, .int p1), (2, .int p2)]) hx hb dX12_steps_28 rfl hl (by decide) rfl (fun ls hl => ?_)
      refine lv_iconst (v := 2) hx hb dX12_steps_29 (by decide) ?_
      refine lv_istore (lv' := [(4, .int 2), (3, .int 1), (0, .ref h0), (1, .int p1), (2, .int p2)]) hx hb dX12_steps_30 hl (by decide) rfl (fun ls hl => ?_)
      have lp : ∀ (n k : Nat) (H : Heap) (locs : List Loc) (ls : Array Slot), k ≤ 99 → 99 < k + n → va_P g.1 vwCl [(h0, .inr (12, [.int 0, .ref a1, .ref a2, .ref a3, .ref a4, .int 0, .ref a6, .int 0, .int 0, .int 0, .int 0, .int 0, .int 0, .int (-1), .ref a14, .ref a15, .int 0, .int 0, .int 0, .ref a19, .ref a20, .int 0, .int 0, .ref a23, .ref a24, .ref a25, .ref a26, .ref a27, .ref a28]))] H → va_D A [(h0, .inr (12, [.int 0, .ref a1, .ref a2, .ref a3, .ref a4, .int 0, .ref a6, .int 0, .int 0, .int 0, .int 0, .int 0, .int 0, .int (-1), .ref a14, .ref a15, .int 0, .int 0, .int 0, .ref a19, .ref a20, .int 0, .int 0, .ref a23, .ref a24, .ref a25, .ref a26, .ref a27, .ref a28]))] → va_S A s.heap H locs → lv_has ls 5 [(4, .int (nI (k + 2))), (3, .int (bst p1 p2 k)), (0, .ref h0), (1, .int p1), (2, .int p2)] → W p l e { frames := 1, cells := 0, slots := 0, locals := 25 } s m ([.ref h0, .int p1, .int p2].toArray) below meth c H locs 0 0 (MQ below (QX (S := Unit) (fun _ => some (.int (sp_steps p1 p2))) (fun _ => True) g (fun u => []) A) ([.ref h0, .int p1, .int p2].toArray) s 0 0 A) (F0 m 32 ls []) := by
        intro n
        induction n with
        | zero =>
          intro k H locs ls hi hn
          exact absurd hn (by omega)
        | succ n ih =>
          intro k H locs ls hi hn hP hD hS hl
          refine lv_iload hx hb dX12_steps_32 (lv_at hl 0 rfl) ?_
          refine lv_bipush (v := 100) hx hb dX12_steps_34 (by decide) ?_
          refine lv_icmp_gt (tgt := 75) hx hb dX12_steps_36 (by decide) (fun c5 => ?_) (fun c5 => ?_)
          · have c5 := k_lt (a := 100) (b := ((k + 2 : Nat) : Int)) (by decide) (nI_toInt (by omega)) c5
            refine lv_iload_n hx hb dX12_steps_75 rfl (lv_at hl 1 rfl) ?_
            exact rt_i FX () (congrArg (fun z => some (Value.int z)) (show bst p1 p2 k = sp_steps p1 p2 from (by have hk9 : k = 99 := (by omega); rw [hk9]; unfold sp_steps; rw [if_pos ⟨⟨by omega, by omega⟩, by omega, by omega⟩]))) trivial (hP.sub [] rfl) (hD.sub [] (by decide) rfl) hS (Nat.le_of_ble_eq_true rfl) (Nat.le_of_ble_eq_true rfl) dX12_steps_76
          · have c5 := k_nlt (a := 100) (b := ((k + 2 : Nat) : Int)) (by decide) (nI_toInt (by omega)) c5
            refine lv_iload_n hx hb dX12_steps_39 rfl (lv_at hl 3 rfl) ?_
            refine lv_iload hx hb dX12_steps_40 (lv_at hl 0 rfl) ?_
            refine call_S (As := [.int p1, .int (nI (k + 2))]) (rest := []) (wr := [(h0, .inr (12, [.int 0, .ref a1, .ref a2, .ref a3, .ref a4, .int 0, .ref a6, .int 0, .int 0, .int 0, .int 0, .int 0, .int 0, .int (-1), .ref a14, .ref a15, .int 0, .int 0, .int 0, .ref a19, .ref a20, .int 0, .int 0, .ref a23, .ref a24, .ref a25, .ref a26, .ref a27, .ref a28]))]) FC hKn (c_X12_evenOf l g p1 (nI (k + 2)) (show 1 ≤ (nI (k + 2)).toInt by rw [nI_toInt (by omega)]; omega)) m_yX12_evenOf b_476 hP hD hS hA [] [0] rfl (by decide) rfl (by decide) (by decide) rfl hl.1 rfl (Nat.le_of_ble_eq_true rfl) dX12_steps_42 ⟨(Nat.le_of_ble_eq_true rfl), (Nat.le_of_ble_eq_true rfl)⟩ ⟨(Nat.le_of_ble_eq_true rfl), (Nat.le_of_ble_eq_true rfl)⟩ (fun u6 H locs _ hP hD hS => ?_)
            have hP : va_P g.1 vwCl [(h0, .inr (12, [.int 0, .ref a1, .ref a2, .ref a3, .ref a4, .int 0, .ref a6, .int 0, .int 0, .int 0, .int 0, .int 0, .int 0, .int (-1), .ref a14, .ref a15, .int 0, .int 0, .int 0, .ref a19, .ref a20, .int 0, .int 0, .ref a23, .ref a24, .ref a25, .ref a26, .ref a27, .ref a28]))] H := hP
            have hD : va_D A [(h0, .inr (12, [.int 0, .ref a1, .ref a2, .ref a3, .ref a4, .int 0, .ref a6, .int 0, .int 0, .int 0, .int 0, .int 0, .int 0, .int (-1), .ref a14, .ref a15, .int 0, .int 0, .int 0, .ref a19, .ref a20, .int 0, .int 0, .ref a23, .ref a24, .ref a25, .ref a26, .ref a27, .ref a28]))] := hD
            refine W.eq (g2 := F0 m 45 ls [.int (evF p1 (nI (k + 2)))]) rfl ?_
            refine lv_iload_n hx hb dX12_steps_45 rfl (lv_at hl 4 rfl) ?_
            refine lv_iload hx hb dX12_steps_46 (lv_at hl 0 rfl) ?_
            refine lv_imul hx hb dX12_steps_48 ?_
            refine lv_iadd hx hb dX12_steps_49 ?_
            refine lv_iload_n hx hb dX12_steps_50 rfl (lv_at hl 3 rfl) ?_
            refine lv_iload_n hx hb dX12_steps_51 rfl (lv_at hl 1 rfl) ?_
            refine call_S (As := [.int p1, .int (bst p1 p2 k)]) (rest := [.int ((evF p1 (nI (k + 2))) + (p2 * (nI (k + 2))))]) (wr := [(h0, .inr (12, [.int 0, .ref a1, .ref a2, .ref a3, .ref a4, .int 0, .ref a6, .int 0, .int 0, .int 0, .int 0, .int 0, .int 0, .int (-1), .ref a14, .ref a15, .int 0, .int 0, .int 0, .ref a19, .ref a20, .int 0, .int 0, .ref a23, .ref a24, .ref a25, .ref a26, .ref a27, .ref a28]))]) FC hKn (c_X12_evenOf l g p1 (bst p1 p2 k) (bst_pos _ _ _ (by omega))) m_yX12_evenOf b_476 hP hD hS hA [] [0] rfl (by decide) rfl (by decide) (by decide) rfl hl.1 rfl (Nat.le_of_ble_eq_true rfl) dX12_steps_52 ⟨(Nat.le_of_ble_eq_true rfl), (Nat.le_of_ble_eq_true rfl)⟩ ⟨(Nat.le_of_ble_eq_true rfl), (Nat.le_of_ble_eq_true rfl)⟩ (fun u7 H locs _ hP hD hS => ?_)
            have hP : va_P g.1 vwCl [(h0, .inr (12, [.int 0, .ref a1, .ref a2, .ref a3, .ref a4, .int 0, .ref a6, .int 0, .int 0, .int 0, .int 0, .int 0, .int 0, .int (-1), .ref a14, .ref a15, .int 0, .int 0, .int 0, .ref a19, .ref a20, .int 0, .int 0, .ref a23, .ref a24, .ref a25, .ref a26, .ref a27, .ref a28]))] H := hP
            have hD : va_D A [(h0, .inr (12, [.int 0, .ref a1, .ref a2, .ref a3, .ref a4, .int 0, .ref a6, .int 0, .int 0, .int 0, .int 0, .int 0, .int 0, .int (-1), .ref a14, .ref a15, .int 0, .int 0, .int 0, .ref a19, .ref a20, .int 0, .int 0, .ref a23, .ref a24, .ref a25, .ref a26, .ref a27, .ref a28]))] := hD
            refine W.eq (g2 := F0 m 55 ls [.int (evF p1 (bst p1 p2 k)), .int ((evF p1 (nI (k + 2))) + (p2 * (nI (k + 2))))]) rfl ?_
            refine lv_iload_n hx hb dX12_steps_55 rfl (lv_at hl 4 rfl) ?_
            refine lv_iload_n hx hb dX12_steps_56 rfl (lv_at hl 1 rfl) ?_
            refine lv_imul hx hb dX12_steps_57 ?_
            refine lv_iadd hx hb dX12_steps_58 ?_
            refine lv_icmp_ge (tgt := 67) hx hb dX12_steps_59 (by decide) (fun c8 => ?_) (fun c8 => ?_)
            · have c8 := k_le (a := ((evF p1 (bst p1 p2 k)) + (p2 * (bst p1 p2 k))).toInt) (b := ((evF p1 (nI (k + 2))) + (p2 * (nI (k + 2)))).toInt) rfl rfl c8
              refine lv_iload_n hx hb dX12_steps_67 rfl (lv_at hl 1 rfl) ?_
              refine lv_istore_n (lv' := [(3, .int (bst p1 p2 k)), (4, .int (nI (k + 2))), (0, .ref h0), (1, .int p1), (2, .int p2)]) hx hb dX12_steps_68 rfl hl (by decide) rfl (fun ls hl => ?_)
              refine lv_iinc (v := nI (k + 2 + 1)) (lv' := [(4, .int (nI (k + 2 + 1))), (3, .int (bst p1 p2 k)), (0, .ref h0), (1, .int p1), (2, .int p2)]) hx hb dX12_steps_69 hl (k := 1) rfl (nI_1 _) (by decide) rfl (fun ls hl => ?_)
              refine lv_goto (tgt := 32) hx hb dX12_steps_72 (by decide) ?_
              have hb1 : bst p1 p2 (k + 1) = bst p1 p2 k := if_neg (show ¬ (evF p1 (nI (k + 2)) + p2 * nI (k + 2) < cst p1 p2 (bst p1 p2 k)) from fun z => by have z := Int32.lt_iff_toInt_lt.mp z; have c8 : (cst p1 p2 (bst p1 p2 k)).toInt ≤ (evF p1 (nI (k + 2)) + p2 * nI (k + 2)).toInt := c8; omega)
              exact ih (k + 1) H locs ls (by omega) (by omega) hP hD hS (by rw [hb1]; exact lv_sub hl [0, 1, 2, 3, 4] rfl)
            · have c8 := k_nle (a := ((evF p1 (bst p1 p2 k)) + (p2 * (bst p1 p2 k))).toInt) (b := ((evF p1 (nI (k + 2))) + (p2 * (nI (k + 2)))).toInt) rfl rfl c8
              refine lv_iload hx hb dX12_steps_62 (lv_at hl 0 rfl) ?_
              refine lv_goto (tgt := 68) hx hb dX12_steps_64 (by decide) ?_
              refine lv_istore_n (lv' := [(3, .int (nI (k + 2))), (4, .int (nI (k + 2))), (0, .ref h0), (1, .int p1), (2, .int p2)]) hx hb dX12_steps_68 rfl hl (by decide) rfl (fun ls hl => ?_)
              refine lv_iinc (v := nI (k + 2 + 1)) (lv' := [(4, .int (nI (k + 2 + 1))), (3, .int (nI (k + 2))), (0, .ref h0), (1, .int p1), (2, .int p2)]) hx hb dX12_steps_69 hl (k := 1) rfl (nI_1 _) (by decide) rfl (fun ls hl => ?_)
              refine lv_goto (tgt := 32) hx hb dX12_steps_72 (by decide) ?_
              have hb1 : bst p1 p2 (k + 1) = nI (k + 2) := if_pos (show evF p1 (nI (k + 2)) + p2 * nI (k + 2) < cst p1 p2 (bst p1 p2 k) from Int32.lt_iff_toInt_lt.mpr (by have c8 : (evF p1 (nI (k + 2)) + p2 * nI (k + 2)).toInt < (cst p1 p2 (bst p1 p2 k)).toInt := c8; omega))
              exact ih (k + 1) H locs ls (by omega) (by omega) hP hD hS (by rw [hb1]; exact lv_sub hl [0, 1, 2, 3, 4] rfl)
      exact lp 100 0 _ _ ls (by omega) (by omega) hP hD hS (lv_sub hl [0, 1, 2, 3, 4] rfl)
    · refine tp_i (v := 0) (inF_not (Int32.toInt_toInt64 _) (by decide) (by decide) c4) ?_
      refine lv_if_ne (tgt := 27) hx hb dX12_steps_21 (by decide) (fun h => absurd h (by decide)) (fun _ => ?_)
      refine lv_bipush (v := -2) hx hb dX12_steps_24 (by decide) ?_
      exact rt_i FX () (congrArg (fun z => some (Value.int z)) (show (-2 : Int32) = sp_steps p1 p2 from (by unfold sp_steps; rw [if_neg (fun q => by omega)]))) trivial (hP.sub [] rfl) (hD.sub [] (by decide) rfl) hS (Nat.le_of_ble_eq_true rfl) (Nat.le_of_ble_eq_true rfl) dX12_steps_26
  · refine tp_i (v := 0) (inF_not (Int32.toInt_toInt64 _) (by decide) (by decide) c2) ?_
    refine lv_if_eq (tgt := 24) hx hb dX12_steps_9 (by decide) (fun _ => ?_) (fun h => absurd h (by decide))
    refine lv_bipush (v := -2) hx hb dX12_steps_24 (by decide) ?_
    exact rt_i FX () (congrArg (fun z => some (Value.int z)) (show (-2 : Int32) = sp_steps p1 p2 from (by unfold sp_steps; rw [if_neg (fun q => by omega)]))) trivial (hP.sub [] rfl) (hD.sub [] (by decide) rfl) hS (Nat.le_of_ble_eq_true rfl) (Nat.le_of_ble_eq_true rfl) dX12_steps_26
