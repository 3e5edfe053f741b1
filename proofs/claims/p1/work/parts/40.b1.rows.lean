set_option maxRecDepth 100000 in
set_option maxHeartbeats 4000000 in
theorem c_X12_all (l : Launch) (g : GG) (h0 : Nat) (a1 : Nat) (a2 : Nat) (a3 : Nat) (a4 : Nat) (a6 : Nat) (a14 : Nat) (a15 : Nat) (a19 : Nat) (a20 : Nat) (a23 : Nat) (a24 : Nat) (a25 : Nat) (a26 : Nat) (a27 : Nat) (a28 : Nat) : Ct l g yX12_all cX12_all 1 (some .int) { frames := 1, cells := 0, slots := 0, locals := 20 } [.ref h0] [(h0, .inr (12, [.int 0, .ref a1, .ref a2, .ref a3, .ref a4, .int 0, .ref a6, .int 0, .int 0, .int 0, .int 0, .int 0, .int 0, .int (-1), .ref a14, .ref a15, .int 0, .int 0, .int 0, .ref a19, .ref a20, .int 0, .int 0, .ref a23, .ref a24, .ref a25, .ref a26, .ref a27, .ref a28])), (a1, .inl (g.2 0, 225, .inl (fun _ => 0)))] (S := Unit) (fun _ => some (.int (-2))) (fun _ => True) (fun u => [(h0, .inr (12, [.int 0, .ref a1, .ref a2, .ref a3, .ref a4, .int 0, .ref a6, .int 0, .int 0, .int 0, .int 0, .int 0, .int 0, .int (-1), .ref a14, .ref a15, .int 0, .int 0, .int 0, .ref a19, .ref a20, .int 0, .int 0, .ref a23, .ref a24, .ref a25, .ref a26, .ref a27, .ref a28])), (a1, .inl (g.2 0, 225, .inl (fun _ => 0)))]) := by
  refine Ct.of (by decide) (Nat.le_of_ble_eq_true rfl) ?_
  intro p e s m below meth c A ls FX hP hD hS hl
  obtain ⟨FC, hr, hlk, hKn, hA, hnm⟩ := id FX
  have FC : CallFix p m c cX12_all 1 s _ BIG RX12 := FC
  obtain ⟨hx, hb, hml, hown, hB⟩ := id FC
  have hl : lv_has ls 1 [(0, .ref h0)] := hl
  refine lv_aload_n hx hb dX12_all_0 rfl (lv_at hl 0 rfl) ?_
  refine call_V (As := []) (rest := []) (wr := []) FC hKn (c_X12_isDesk l g h0 a1 a2 a3 a4 a6 a14 a15 a19 a20 a23 a24 a25 a26 a27 a28) m_yX12_isDesk b_363 (ci := 12) rfl rfl rfl hP hD hS hA [0, 1] [] rfl (by decide) rfl (by decide) (by decide) rfl hl.1 rfl (Nat.le_of_ble_eq_true rfl) dX12_all_1 ⟨(Nat.le_of_ble_eq_true rfl), (Nat.le_of_ble_eq_true rfl)⟩ ⟨(Nat.le_of_ble_eq_true rfl), (Nat.le_of_ble_eq_true rfl)⟩ (fun u1 H locs _ hP hD hS => ?_)
  have hP : va_P g.1 vwCl [(h0, .inr (12, [.int 0, .ref a1, .ref a2, .ref a3, .ref a4, .int 0, .ref a6, .int 0, .int 0, .int 0, .int 0, .int 0, .int 0, .int (-1), .ref a14, .ref a15, .int 0, .int 0, .int 0, .ref a19, .ref a20, .int 0, .int 0, .ref a23, .ref a24, .ref a25, .ref a26, .ref a27, .ref a28])), (a1, .inl (g.2 0, 225, .inl (fun _ => 0)))] H := hP
  have hD : va_D A [(h0, .inr (12, [.int 0, .ref a1, .ref a2, .ref a3, .ref a4, .int 0, .ref a6, .int 0, .int 0, .int 0, .int 0, .int 0, .int 0, .int (-1), .ref a14, .ref a15, .int 0, .int 0, .int 0, .ref a19, .ref a20, .int 0, .int 0, .ref a23, .ref a24, .ref a25, .ref a26, .ref a27, .ref a28])), (a1, .inl (g.2 0, 225, .inl (fun _ => 0)))] := hD
  refine W.eq (g2 := F0 m 4 ls [.int 0]) rfl ?_
  refine lv_if_eq (tgt := 15) hx hb dX12_all_4 (by decide) (fun _ => ?_) (fun h => absurd h (by decide))
  refine lv_bipush (v := -2) hx hb dX12_all_15 (by decide) ?_
  exact rt_i FX () rfl trivial (hP.sub [0, 1] rfl) (hD.sub [0, 1] (by decide) rfl) hS (Nat.le_of_ble_eq_true rfl) (Nat.le_of_ble_eq_true rfl) dX12_all_17
set_option maxRecDepth 100000 in
set_option maxHeartbeats 4000000 in
theorem c_X12_heard (l : Launch) (g : GG) (h0 : Nat) (a1 : Nat) (a2 : Nat) (a3 : Nat) (a4 : Nat) (a6 : Nat) (a14 : Nat) (a15 : Nat) (a19 : Nat) (a20 : Nat) (a23 : Nat) (a24 : Nat) (a25 : Nat) (a26 : Nat) (a27 : Nat) (a28 : Nat) (p1 : Int32) (p2 : Int32) : Ct l g yX12_heard cX12_heard 3 (some .int) { frames := 1, cells := 0, slots := 0, locals := 20 } [.ref h0, .int p1, .int p2] [(h0, .inr (12, [.int 0, .ref a1, .ref a2, .ref a3, .ref a4, .int 0, .ref a6, .int 0, .int 0, .int 0, .int 0, .int 0, .int 0, .int (-1), .ref a14, .ref a15, .int 0, .int 0, .int 0, .ref a19, .ref a20, .int 0, .int 0, .ref a23, .ref a24, .ref a25, .ref a26, .ref a27, .ref a28])), (a1, .inl (g.2 0, 225, .inl (fun _ => 0)))] (S := Unit) (fun _ => some (.int (-2))) (fun _ => True) (fun u => [(h0, .inr (12, [.int 0, .ref a1, .ref a2, .ref a3, .ref a4, .int 0, .ref a6, .int 0, .int 0, .int 0, .int 0, .int 0, .int 0, .int (-1), .ref a14, .ref a15, .int 0, .int 0, .int 0, .ref a19, .ref a20, .int 0, .int 0, .ref a23, .ref a24, .ref a25, .ref a26, .ref a27, .ref a28])), (a1, .inl (g.2 0, 225, .inl (fun _ => 0)))]) := by
  refine Ct.of (by decide) (Nat.le_of_ble_eq_true rfl) ?_
  intro p e s m below meth c A ls FX hP hD hS hl
  obtain ⟨FC, hr, hlk, hKn, hA, hnm⟩ := id FX
  have FC : CallFix p m c cX12_heard 3 s _ BIG RX12 := FC
  obtain ⟨hx, hb, hml, hown, hB⟩ := id FC
  have hl : lv_has ls 3 [(0, .ref h0), (1, .int p1), (2, .int p2)] := hl
  refine lv_aload_n hx hb dX12_heard_0 rfl (lv_at hl 0 rfl) ?_
  refine call_V (As := []) (rest := []) (wr := []) FC hKn (c_X12_isDesk l g h0 a1 a2 a3 a4 a6 a14 a15 a19 a20 a23 a24 a25 a26 a27 a28) m_yX12_isDesk b_363 (ci := 12) rfl rfl rfl hP hD hS hA [0, 1] [] rfl (by decide) rfl (by decide) (by decide) rfl hl.1 rfl (Nat.le_of_ble_eq_true rfl) dX12_heard_1 ⟨(Nat.le_of_ble_eq_true rfl), (Nat.le_of_ble_eq_true rfl)⟩ ⟨(Nat.le_of_ble_eq_true rfl), (Nat.le_of_ble_eq_true rfl)⟩ (fun u1 H locs _ hP hD hS => ?_)
  have hP : va_P g.1 vwCl [(h0, .inr (12, [.int 0, .ref a1, .ref a2, .ref a3, .ref a4, .int 0, .ref a6, .int 0, .int 0, .int 0, .int 0, .int 0, .int 0, .int (-1), .ref a14, .ref a15, .int 0, .int 0, .int 0, .ref a19, .ref a20, .int 0, .int 0, .ref a23, .ref a24, .ref a25, .ref a26, .ref a27, .ref a28])), (a1, .inl (g.2 0, 225, .inl (fun _ => 0)))] H := hP
  have hD : va_D A [(h0, .inr (12, [.int 0, .ref a1, .ref a2, .ref a3, .ref a4, .int 0, .ref a6, .int 0, .int 0, .int 0, .int 0, .int 0, .int 0, .int (-1), .ref a14, .ref a15, .int 0, .int 0, .int 0, .ref a19, .ref a20, .int 0, .int 0, .ref a23, .ref a24, .ref a25, .ref a26, .ref a27, .ref a28])), (a1, .inl (g.2 0, 225, .inl (fun _ => 0)))] := hD
  refine W.eq (g2 := F0 m 4 ls [.int 0]) rfl ?_
  refine lv_if_eq (tgt := 34) hx hb dX12_heard_4 (by decide) (fun _ => ?_) (fun h => absurd h (by decide))
  refine lv_bipush (v := -2) hx hb dX12_heard_34 (by decide) ?_
  exact rt_i FX () rfl trivial (hP.sub [0, 1] rfl) (hD.sub [0, 1] (by decide) rfl) hS (Nat.le_of_ble_eq_true rfl) (Nat.le_of_ble_eq_true rfl) dX12_heard_36
set_option maxRecDepth 100000 in
set_option maxHeartbeats 4000000 in
theorem c_X12_whom (l : Launch) (g : GG) (h0 : Nat) (a1 : Nat) (a2 : Nat) (a3 : Nat) (a4 : Nat) (a6 : Nat) (a14 : Nat) (a15 : Nat) (a19 : Nat) (a20 : Nat) (a23 : Nat) (a24 : Nat) (a25 : Nat) (a26 : Nat) (a27 : Nat) (a28 : Nat) : Ct l g yX12_whom cX12_whom 1 (some .int) { frames := 1, cells := 0, slots := 0, locals := 20 } [.ref h0] [(h0, .inr (12, [.int 0, .ref a1, .ref a2, .ref a3, .ref a4, .int 0, .ref a6, .int 0, .int 0, .int 0, .int 0, .int 0, .int 0, .int (-1), .ref a14, .ref a15, .int 0, .int 0, .int 0, .ref a19, .ref a20, .int 0, .int 0, .ref a23, .ref a24, .ref a25, .ref a26, .ref a27, .ref a28])), (a1, .inl (g.2 0, 225, .inl (fun _ => 0)))] (S := Unit) (fun _ => some (.int (-2))) (fun _ => True) (fun u => [(h0, .inr (12, [.int 0, .ref a1, .ref a2, .ref a3, .ref a4, .int 0, .ref a6, .int 0, .int 0, .int 0, .int 0, .int 0, .int 0, .int (-1), .ref a14, .ref a15, .int 0, .int 0, .int 0, .ref a19, .ref a20, .int 0, .int 0, .ref a23, .ref a24, .ref a25, .ref a26, .ref a27, .ref a28])), (a1, .inl (g.2 0, 225, .inl (fun _ => 0)))]) := by
  refine Ct.of (by decide) (Nat.le_of_ble_eq_true rfl) ?_
  intro p e s m below meth c A ls FX hP hD hS hl
  obtain ⟨FC, hr, hlk, hKn, hA, hnm⟩ := id FX
  have FC : CallFix p m c cX12_whom 1 s _ BIG RX12 := FC
  obtain ⟨hx, hb, hml, hown, hB⟩ := id FC
  have hl : lv_has ls 1 [(0, .ref h0)] := hl
  refine lv_aload_n hx hb dX12_whom_0 rfl (lv_at hl 0 rfl) ?_
  refine call_V (As := []) (rest := []) (wr := []) FC hKn (c_X12_isDesk l g h0 a1 a2 a3 a4 a6 a14 a15 a19 a20 a23 a24 a25 a26 a27 a28) m_yX12_isDesk b_363 (ci := 12) rfl rfl rfl hP hD hS hA [0, 1] [] rfl (by decide) rfl (by decide) (by decide) rfl hl.1 rfl (Nat.le_of_ble_eq_true rfl) dX12_whom_1 ⟨(Nat.le_of_ble_eq_true rfl), (Nat.le_of_ble_eq_true rfl)⟩ ⟨(Nat.le_of_ble_eq_true rfl), (Nat.le_of_ble_eq_true rfl)⟩ (fun u1 H locs _ hP hD hS => ?_)
  have hP : va_P g.1 vwCl [(h0, .inr (12, [.int 0, .ref a1, .ref a2, .ref a3, .ref a4, .int 0, .ref a6, .int 0, .int 0, .int 0, .int 0, .int 0, .int 0, .int (-1), .ref a14, .ref a15, .int 0, .int 0, .int 0, .ref a19, .ref a20, .int 0, .int 0, .ref a23, .ref a24, .ref a25, .ref a26, .ref a27, .ref a28])), (a1, .inl (g.2 0, 225, .inl (fun _ => 0)))] H := hP
  have hD : va_D A [(h0, .inr (12, [.int 0, .ref a1, .ref a2, .ref a3, .ref a4, .int 0, .ref a6, .int 0, .int 0, .int 0, .int 0, .int 0, .int 0, .int (-1), .ref a14, .ref a15, .int 0, .int 0, .int 0, .ref a19, .ref a20, .int 0, .int 0, .ref a23, .ref a24, .ref a25, .ref a26, .ref a27, .ref a28])), (a1, .inl (g.2 0, 225, .inl (fun _ => 0)))] := hD
  refine W.eq (g2 := F0 m 4 ls [.int 0]) rfl ?_
  refine lv_if_eq (tgt := 17) hx hb dX12_whom_4 (by decide) (fun _ => ?_) (fun h => absurd h (by decide))
  refine lv_bipush (v := -2) hx hb dX12_whom_17 (by decide) ?_
  exact rt_i FX () rfl trivial (hP.sub [0, 1] rfl) (hD.sub [0, 1] (by decide) rfl) hS (Nat.le_of_ble_eq_true rfl) (Nat.le_of_ble_eq_true rfl) dX12_whom_19
set_option maxRecDepth 100000 in
set_option maxHeartbeats 4000000 in
theorem c_X12_first (l : Launch) (g : GG) (h0 : Nat) (a1 : Nat) (a2 : Nat) (a3 : Nat) (a4 : Nat) (a6 : Nat) (a14 : Nat) (a15 : Nat) (a19 : Nat) (a20 : Nat) (a23 : Nat) (a24 : Nat) (a25 : Nat) (a26 : Nat) (a27 : Nat) (a28 : Nat) : Ct l g yX12_first cX12_first 1 (some .int) { frames := 1, cells := 0, slots := 0, locals := 20 } [.ref h0] [(h0, .inr (12, [.int 0, .ref a1, .ref a2, .ref a3, .ref a4, .int 0, .ref a6, .int 0, .int 0, .int 0, .int 0, .int 0, .int 0, .int (-1), .ref a14, .ref a15, .int 0, .int 0, .int 0, .ref a19, .ref a20, .int 0, .int 0, .ref a23, .ref a24, .ref a25, .ref a26, .ref a27, .ref a28])), (a1, .inl (g.2 0, 225, .inl (fun _ => 0)))] (S := Unit) (fun _ => some (.int (-2))) (fun _ => True) (fun u => [(h0, .inr (12, [.int 0, .ref a1, .ref a2, .ref a3, .ref a4, .int 0, .ref a6, .int 0, .int 0, .int 0, .int 0, .int 0, .int 0, .int (-1), .ref a14, .ref a15, .int 0, .int 0, .int 0, .ref a19, .ref a20, .int 0, .int 0, .ref a23, .ref a24, .ref a25, .ref a26, .ref a27, .ref a28])), (a1, .inl (g.2 0, 225, .inl (fun _ => 0)))]) := by
  refine Ct.of (by decide) (Nat.le_of_ble_eq_true rfl) ?_
  intro p e s m below meth c A ls FX hP hD hS hl
  obtain ⟨FC, hr, hlk, hKn, hA, hnm⟩ := id FX
  have FC : CallFix p m c cX12_first 1 s _ BIG RX12 := FC
  obtain ⟨hx, hb, hml, hown, hB⟩ := id FC
  have hl : lv_has ls 1 [(0, .ref h0)] := hl
  refine lv_aload_n hx hb dX12_first_0 rfl (lv_at hl 0 rfl) ?_
  refine call_V (As := []) (rest := []) (wr := []) FC hKn (c_X12_isDesk l g h0 a1 a2 a3 a4 a6 a14 a15 a19 a20 a23 a24 a25 a26 a27 a28) m_yX12_isDesk b_363 (ci := 12) rfl rfl rfl hP hD hS hA [0, 1] [] rfl (by decide) rfl (by decide) (by decide) rfl hl.1 rfl (Nat.le_of_ble_eq_true rfl) dX12_first_1 ⟨(Nat.le_of_ble_eq_true rfl), (Nat.le_of_ble_eq_true rfl)⟩ ⟨(Nat.le_of_ble_eq_true rfl), (Nat.le_of_ble_eq_true rfl)⟩ (fun u1 H locs _ hP hD hS => ?_)
  have hP : va_P g.1 vwCl [(h0, .inr (12, [.int 0, .ref a1, .ref a2, .ref a3, .ref a4, .int 0, .ref a6, .int 0, .int 0, .int 0, .int 0, .int 0, .int 0, .int (-1), .ref a14, .ref a15, .int 0, .int 0, .int 0, .ref a19, .ref a20, .int 0, .int 0, .ref a23, .ref a24, .ref a25, .ref a26, .ref a27, .ref a28])), (a1, .inl (g.2 0, 225, .inl (fun _ => 0)))] H := hP
  have hD : va_D A [(h0, .inr (12, [.int 0, .ref a1, .ref a2, .ref a3, .ref a4, .int 0, .ref a6, .int 0, .int 0, .int 0, .int 0, .int 0, .int 0, .int (-1), .ref a14, .ref a15, .int 0, .int 0, .int 0, .ref a19, .ref a20, .int 0, .int 0, .ref a23, .ref a24, .ref a25, .ref a26, .ref a27, .ref a28])), (a1, .inl (g.2 0, 225, .inl (fun _ => 0)))] := hD
  refine W.eq (g2 := F0 m 4 ls [.int 0]) rfl ?_
  refine lv_if_eq (tgt := 14) hx hb dX12_first_4 (by decide) (fun _ => ?_) (fun h => absurd h (by decide))
  refine lv_bipush (v := -2) hx hb dX12_first_14 (by decide) ?_
  exact rt_i FX () rfl trivial (hP.sub [0, 1] rfl) (hD.sub [0, 1] (by decide) rfl) hS (Nat.le_of_ble_eq_true rfl) (Nat.le_of_ble_eq_true rfl) dX12_first_16
set_option maxRecDepth 100000 in
set_option maxHeartbeats 4000000 in
theorem c_X12_read (l : Launch) (g : GG) (h0 : Nat) (a1 : Nat) (a2 : Nat) (a3 : Nat) (a4 : Nat) (a6 : Nat) (a14 : Nat) (a15 : Nat) (a19 : Nat) (a20 : Nat) (a23 : Nat) (a24 : Nat) (a25 : Nat) (a26 : Nat) (a27 : Nat) (a28 : Nat) (p1 : Int32) : Ct l g yX12_read cX12_read 3 (some .int) { frames := 3, cells := 0, slots := 0, locals := 68 } [.ref h0, .int p1] [(h0, .inr (12, [.int 0, .ref a1, .ref a2, .ref a3, .ref a4, .int 0, .ref a6, .int 0, .int 0, .int 0, .int 0, .int 0, .int 0, .int (-1), .ref a14, .ref a15, .int 0, .int 0, .int 0, .ref a19, .ref a20, .int 0, .int 0, .ref a23, .ref a24, .ref a25, .ref a26, .ref a27, .ref a28])), (a1, .inl (g.2 0, 225, .inl (fun _ => 0)))] (S := Unit) (fun _ => some (.int (-2))) (fun _ => True) (fun u => [(h0, .inr (12, [.int 0, .ref a1, .ref a2, .ref a3, .ref a4, .int 0, .ref a6, .int 0, .int 0, .int 0, .int 0, .int 0, .int 0, .int (-1), .ref a14, .ref a15, .int 0, .int 0, .int 0, .ref a19, .ref a20, .int 0, .int 0, .ref a23, .ref a24, .ref a25, .ref a26, .ref a27, .ref a28])), (a1, .inl (g.2 0, 225, .inl (fun _ => 0)))]) := by
  refine Ct.of (by decide) (Nat.le_of_ble_eq_true rfl) ?_
  intro p e s m below meth c A ls FX hP hD hS hl
  obtain ⟨FC, hr, hlk, hKn, hA, hnm⟩ := id FX
  have FC : CallFix p m c cX12_read 3 s _ BIG RX12 := FC
  obtain ⟨hx, hb, hml, hown, hB⟩ := id FC
  have hl : lv_has ls 3 [(0, .ref h0), (1, .int p1)] := hl
  refine lv_aload_n hx hb dX12_read_0 rfl (lv_at hl 0 rfl) ?_
  refine lv_iload_n hx hb dX12_read_1 rfl (lv_at hl 1 rfl) ?_
  refine lv_iconst (v := 1) hx hb dX12_read_2 (by decide) ?_
  refine call_V (As := [.int p1, .int 1]) (rest := []) (wr := []) FC hKn (c_X12_asksWeek l g h0 a1 a2 a3 a4 a6 a14 a15 a19 a20 a23 a24 a25 a26 a27 a28 p1 1) m_yX12_asksWeek b_366 (ci := 12) rfl rfl rfl hP hD hS hA [0, 1] [] rfl (by decide) rfl (by decide) (by decide) rfl hl.1 rfl (Nat.le_of_ble_eq_true rfl) dX12_read_3 ⟨(Nat.le_of_ble_eq_true rfl), (Nat.le_of_ble_eq_true rfl)⟩ ⟨(Nat.le_of_ble_eq_true rfl), (Nat.le_of_ble_eq_true rfl)⟩ (fun u1 H locs _ hP hD hS => ?_)
  have hP : va_P g.1 vwCl [(h0, .inr (12, [.int 0, .ref a1, .ref a2, .ref a3, .ref a4, .int 0, .ref a6, .int 0, .int 0, .int 0, .int 0, .int 0, .int 0, .int (-1), .ref a14, .ref a15, .int 0, .int 0, .int 0, .ref a19, .ref a20, .int 0, .int 0, .ref a23, .ref a24, .ref a25, .ref a26, .ref a27, .ref a28])), (a1, .inl (g.2 0, 225, .inl (fun _ => 0)))] H := hP
  have hD : va_D A [(h0, .inr (12, [.int 0, .ref a1, .ref a2, .ref a3, .ref a4, .int 0, .ref a6, .int 0, .int 0, .int 0, .int 0, .int 0, .int 0, .int (-1), .ref a14, .ref a15, .int 0, .int 0, .int 0, .ref a19, .ref a20, .int 0, .int 0, .ref a23, .ref a24, .ref a25, .ref a26, .ref a27, .ref a28])), (a1, .inl (g.2 0, 225, .inl (fun _ => 0)))] := hD
  refine W.eq (g2 := F0 m 6 ls [.int (-2)]) rfl ?_
  refine lv_istore_n (lv' := [(2, .int (-2)), (0, .ref h0), (1, .int p1)]) hx hb dX12_read_6 rfl hl (by decide) rfl (fun ls hl => ?_)
  refine lv_iload_n hx hb dX12_read_7 rfl (lv_at hl 0 rfl) ?_
  refine lv_if_ge (tgt := 15) hx hb dX12_read_8 (by decide) (fun h => absurd h (by decide)) (fun _ => ?_)
  refine lv_iload_n hx hb dX12_read_11 rfl (lv_at hl 0 rfl) ?_
  refine lv_goto (tgt := 20) hx hb dX12_read_12 (by decide) ?_
  exact rt_i FX () rfl trivial (hP.sub [0, 1] rfl) (hD.sub [0, 1] (by decide) rfl) hS (Nat.le_of_ble_eq_true rfl) (Nat.le_of_ble_eq_true rfl) dX12_read_20
set_option maxRecDepth 100000 in
set_option maxHeartbeats 4000000 in
theorem c_X12_guess (l : Launch) (g : GG) (h0 : Nat) (a1 : Nat) (a2 : Nat) (a3 : Nat) (a4 : Nat) (a6 : Nat) (a14 : Nat) (a15 : Nat) (a19 : Nat) (a20 : Nat) (a23 : Nat) (a24 : Nat) (a25 : Nat) (a26 : Nat) (a27 : Nat) (a28 : Nat) (p1 : Int32) (p2 : Int32) : Ct l g yX12_guess cX12_guess 4 (some .int) { frames := 3, cells := 0, slots := 0, locals := 68 } [.ref h0, .int p1, .int p2] [(h0, .inr (12, [.int 0, .ref a1, .ref a2, .ref a3, .ref a4, .int 0, .ref a6, .int 0, .int 0, .int 0, .int 0, .int 0, .int 0, .int (-1), .ref a14, .ref a15, .int 0, .int 0, .int 0, .ref a19, .ref a20, .int 0, .int 0, .ref a23, .ref a24, .ref a25, .ref a26, .ref a27, .ref a28])), (a1, .inl (g.2 0, 225, .inl (fun _ => 0)))] (S := Unit) (fun _ => some (.int (-2))) (fun _ => True) (fun u => [(h0, .inr (12, [.int 0, .ref a1, .ref a2, .ref a3, .ref a4, .int 0, .ref a6, .int 0, .int 0, .int 0, .int 0, .int 0, .int 0, .int (-1), .ref a14, .ref a15, .int 0, .int 0, .int 0, .ref a19, .ref a20, .int 0, .int 0, .ref a23, .ref a24, .ref a25, .ref a26, .ref a27, .ref a28])), (a1, .inl (g.2 0, 225, .inl (fun _ => 0)))]) := by
  refine Ct.of (by decide) (Nat.le_of_ble_eq_true rfl) ?_
  intro p e s m below meth c A ls FX hP hD hS hl
  obtain ⟨FC, hr, hlk, hKn, hA, hnm⟩ := id FX
  have FC : CallFix p m c cX12_guess 4 s _ BIG RX12 := FC
  obtain ⟨hx, hb, hml, hown, hB⟩ := id FC
  have hl : lv_has ls 4 [(0, .ref h0), (1, .int p1), (2, .int p2)] := hl
  refine lv_aload_n hx hb dX12_guess_0 rfl (lv_at hl 0 rfl) ?_
  refine lv_iload_n hx hb dX12_guess_1 rfl (lv_at hl 1 rfl) ?_
  refine lv_aload_n hx hb dX12_guess_2 rfl (lv_at hl 0 rfl) ?_
  refine lv_iload_n hx hb dX12_guess_3 rfl (lv_at hl 2 rfl) ?_
  refine call_V (As := [.int p2]) (rest := [.int p1, .ref h0]) (wr := []) FC hKn (c_X12_isHearer l g h0 a1 a2 a3 a4 a6 a14 a15 a19 a20 a23 a24 a25 a26 a27 a28 p2) m_yX12_isHearer b_365 (ci := 12) rfl rfl rfl hP hD hS hA [0, 1] [] rfl (by decide) rfl (by decide) (by decide) rfl hl.1 rfl (Nat.le_of_ble_eq_true rfl) dX12_guess_4 ⟨(Nat.le_of_ble_eq_true rfl), (Nat.le_of_ble_eq_true rfl)⟩ ⟨(Nat.le_of_ble_eq_true rfl), (Nat.le_of_ble_eq_true rfl)⟩ (fun u1 H locs _ hP hD hS => ?_)
  have hP : va_P g.1 vwCl [(h0, .inr (12, [.int 0, .ref a1, .ref a2, .ref a3, .ref a4, .int 0, .ref a6, .int 0, .int 0, .int 0, .int 0, .int 0, .int 0, .int (-1), .ref a14, .ref a15, .int 0, .int 0, .int 0, .ref a19, .ref a20, .int 0, .int 0, .ref a23, .ref a24, .ref a25, .ref a26, .ref a27, .ref a28])), (a1, .inl (g.2 0, 225, .inl (fun _ => 0)))] H := hP
  have hD : va_D A [(h0, .inr (12, [.int 0, .ref a1, .ref a2, .ref a3, .ref a4, .int 0, .ref a6, .int 0, .int 0, .int 0, .int 0, .int 0, .int 0, .int (-1), .ref a14, .ref a15, .int 0, .int 0, .int 0, .ref a19, .ref a20, .int 0, .int 0, .ref a23, .ref a24, .ref a25, .ref a26, .ref a27, .ref a28])), (a1, .inl (g.2 0, 225, .inl (fun _ => 0)))] := hD
  refine W.eq (g2 := F0 m 7 ls [.int 0, .int p1, .ref h0]) rfl ?_
  refine call_V (As := [.int p1, .int 0]) (rest := []) (wr := []) FC hKn (c_X12_asksWeek l g h0 a1 a2 a3 a4 a6 a14 a15 a19 a20 a23 a24 a25 a26 a27 a28 p1 0) m_yX12_asksWeek b_366 (ci := 12) rfl rfl rfl hP hD hS hA [0, 1] [] rfl (by decide) rfl (by decide) (by decide) rfl hl.1 rfl (Nat.le_of_ble_eq_true rfl) dX12_guess_7 ⟨(Nat.le_of_ble_eq_true rfl), (Nat.le_of_ble_eq_true rfl)⟩ ⟨(Nat.le_of_ble_eq_true rfl), (Nat.le_of_ble_eq_true rfl)⟩ (fun u2 H locs _ hP hD hS => ?_)
  have hP : va_P g.1 vwCl [(h0, .inr (12, [.int 0, .ref a1, .ref a2, .ref a3, .ref a4, .int 0, .ref a6, .int 0, .int 0, .int 0, .int 0, .int 0, .int 0, .int (-1), .ref a14, .ref a15, .int 0, .int 0, .int 0, .ref a19, .ref a20, .int 0, .int 0, .ref a23, .ref a24, .ref a25, .ref a26, .ref a27, .ref a28])), (a1, .inl (g.2 0, 225, .inl (fun _ => 0)))] H := hP
  have hD : va_D A [(h0, .inr (12, [.int 0, .ref a1, .ref a2, .ref a3, .ref a4, .int 0, .ref a6, .int 0, .int 0, .int 0, .int 0, .int 0, .int 0, .int (-1), .ref a14, .ref a15, .int 0, .int 0, .int 0, .ref a19, .ref a20, .int 0, .int 0, .ref a23, .ref a24, .ref a25, .ref a26, .ref a27, .ref a28])), (a1, .inl (g.2 0, 225, .inl (fun _ => 0)))] := hD
  refine W.eq (g2 := F0 m 10 ls [.int (-2)]) rfl ?_
  refine lv_istore_n (lv' := [(3, .int (-2)), (0, .ref h0), (1, .int p1), (2, .int p2)]) hx hb dX12_guess_10 rfl hl (by decide) rfl (fun ls hl => ?_)
  refine lv_iload_n hx hb dX12_guess_11 rfl (lv_at hl 0 rfl) ?_
  refine lv_if_ge (tgt := 17) hx hb dX12_guess_12 (by decide) (fun h => absurd h (by decide)) (fun _ => ?_)
  refine lv_iload_n hx hb dX12_guess_15 rfl (lv_at hl 0 rfl) ?_
  exact rt_i FX () rfl trivial (hP.sub [0, 1] rfl) (hD.sub [0, 1] (by decide) rfl) hS (Nat.le_of_ble_eq_true rfl) (Nat.le_of_ble_eq_true rfl) dX12_guess_16
set_option maxRecDepth 100000 in
set_option maxHeartbeats 4000000 in
theorem c_X12_worsen (l : Launch) (g : GG) (h0 : Nat) (a1 : Nat) (a2 : Nat) (a3 : Nat) (a4 : Nat) (a6 : Nat) (a14 : Nat) (a15 : Nat) (a19 : Nat) (a20 : Nat) (a23 : Nat) (a24 : Nat) (a25 : Nat) (a26 : Nat) (a27 : Nat) (a28 : Nat) (p1 : Int32) (p2 : Int32) : Ct l g yX12_worsen cX12_worsen 3 (some .int) { frames := 2, cells := 0, slots := 0, locals := 46 } [.ref h0, .int p1, .int p2] [(h0, .inr (12, [.int 0, .ref a1, .ref a2, .ref a3, .ref a4, .int 0, .ref a6, .int 0, .int 0, .int 0, .int 0, .int 0, .int 0, .int (-1), .ref a14, .ref a15, .int 0, .int 0, .int 0, .ref a19, .ref a20, .int 0, .int 0, .ref a23, .ref a24, .ref a25, .ref a26, .ref a27, .ref a28])), (a1, .inl (g.2 0, 225, .inl (fun _ => 0)))] (S := Unit) (fun _ => some (.int (-2))) (fun _ => True) (fun u => [(h0, .inr (12, [.int 0, .ref a1, .ref a2, .ref a3, .ref a4, .int 0, .ref a6, .int 0, .int 0, .int 0, .int 0, .int 0, .int 0, .int (-1), .ref a14, .ref a15, .int 0, .int 0, .int 0, .ref a19, .ref a20, .int 0, .int 0, .ref a23, .ref a24, .ref a25, .ref a26, .ref a27, .ref a28])), (a1, .inl (g.2 0, 225, .inl (fun _ => 0)))]) := by
  refine Ct.of (by decide) (Nat.le_of_ble_eq_true rfl) ?_
  intro p e s m below meth c A ls FX hP hD hS hl
  obtain ⟨FC, hr, hlk, hKn, hA, hnm⟩ := id FX
  have FC : CallFix p m c cX12_worsen 3 s _ BIG RX12 := FC
  obtain ⟨hx, hb, hml, hown, hB⟩ := id FC
  have hl : lv_has ls 3 [(0, .ref h0), (1, .int p1), (2, .int p2)] := hl
  refine lv_aload_n hx hb dX12_worsen_0 rfl (lv_at hl 0 rfl) ?_
  refine lv_iload_n hx hb dX12_worsen_1 rfl (lv_at hl 1 rfl) ?_
  refine call_V (As := [.int p1]) (rest := []) (wr := []) FC hKn (c_X12_isState l g h0 a1 a2 a3 a4 a6 a14 a15 a19 a20 a23 a24 a25 a26 a27 a28 p1) m_yX12_isState b_367 (ci := 12) rfl rfl rfl hP hD hS hA [0, 1] [] rfl (by decide) rfl (by decide) (by decide) rfl hl.1 rfl (Nat.le_of_ble_eq_true rfl) dX12_worsen_2 ⟨(Nat.le_of_ble_eq_true rfl), (Nat.le_of_ble_eq_true rfl)⟩ ⟨(Nat.le_of_ble_eq_true rfl), (Nat.le_of_ble_eq_true rfl)⟩ (fun u1 H locs _ hP hD hS => ?_)
  have hP : va_P g.1 vwCl [(h0, .inr (12, [.int 0, .ref a1, .ref a2, .ref a3, .ref a4, .int 0, .ref a6, .int 0, .int 0, .int 0, .int 0, .int 0, .int 0, .int (-1), .ref a14, .ref a15, .int 0, .int 0, .int 0, .ref a19, .ref a20, .int 0, .int 0, .ref a23, .ref a24, .ref a25, .ref a26, .ref a27, .ref a28])), (a1, .inl (g.2 0, 225, .inl (fun _ => 0)))] H := hP
  have hD : va_D A [(h0, .inr (12, [.int 0, .ref a1, .ref a2, .ref a3, .ref a4, .int 0, .ref a6, .int 0, .int 0, .int 0, .int 0, .int 0, .int 0, .int (-1), .ref a14, .ref a15, .int 0, .int 0, .int 0, .ref a19, .ref a20, .int 0, .int 0, .ref a23, .ref a24, .ref a25, .ref a26, .ref a27, .ref a28])), (a1, .inl (g.2 0, 225, .inl (fun _ => 0)))] := hD
  refine W.eq (g2 := F0 m 5 ls [.int 0]) rfl ?_
  refine lv_if_eq (tgt := 32) hx hb dX12_worsen_5 (by decide) (fun _ => ?_) (fun h => absurd h (by decide))
  refine lv_bipush (v := -2) hx hb dX12_worsen_32 (by decide) ?_
  exact rt_i FX () rfl trivial (hP.sub [0, 1] rfl) (hD.sub [0, 1] (by decide) rfl) hS (Nat.le_of_ble_eq_true rfl) (Nat.le_of_ble_eq_true rfl) dX12_worsen_34
set_option maxRecDepth 100000 in
set_option maxHeartbeats 4000000 in
theorem c_X12_really (l : Launch) (g : GG) (h0 : Nat) (a1 : Nat) (a2 : Nat) (a3 : Nat) (a4 : Nat) (a6 : Nat) (a14 : Nat) (a15 : Nat) (a19 : Nat) (a20 : Nat) (a23 : Nat) (a24 : Nat) (a25 : Nat) (a26 : Nat) (a27 : Nat) (a28 : Nat) (p1 : Int32) : Ct l g yX12_really cX12_really 2 (some .int) { frames := 2, cells := 0, slots := 0, locals := 46 } [.ref h0, .int p1] [(h0, .inr (12, [.int 0, .ref a1, .ref a2, .ref a3, .ref a4, .int 0, .ref a6, .int 0, .int 0, .int 0, .int 0, .int 0, .int 0, .int (-1), .ref a14, .ref a15, .int 0, .int 0, .int 0, .ref a19, .ref a20, .int 0, .int 0, .ref a23, .ref a24, .ref a25, .ref a26, .ref a27, .ref a28])), (a1, .inl (g.2 0, 225, .inl (fun _ => 0)))] (S := Unit) (fun _ => some (.int (-2))) (fun _ => True) (fun u => [(h0, .inr (12, [.int 0, .ref a1, .ref a2, .ref a3, .ref a4, .int 0, .ref a6, .int 0, .int 0, .int 0, .int 0, .int 0, .int 0, .int (-1), .ref a14, .ref a15, .int 0, .int 0, .int 0, .ref a19, .ref a20, .int 0, .int 0, .ref a23, .ref a24, .ref a25, .ref a26, .ref a27, .ref a28])), (a1, .inl (g.2 0, 225, .inl (fun _ => 0)))]) := by
  refine Ct.of (by decide) (Nat.le_of_ble_eq_true rfl) ?_
  intro p e s m below meth c A ls FX hP hD hS hl
  obtain ⟨FC, hr, hlk, hKn, hA, hnm⟩ := id FX
  have FC : CallFix p m c cX12_really 2 s _ BIG RX12 := FC
  obtain ⟨hx, hb, hml, hown, hB⟩ := id FC
  have hl : lv_has ls 2 [(0, .ref h0), (1, .int p1)] := hl
  refine lv_aload_n hx hb dX12_really_0 rfl (lv_at hl 0 rfl) ?_
  refine lv_iload_n hx hb dX12_really_1 rfl (lv_at hl 1 rfl) ?_
  refine call_V (As := [.int p1]) (rest := []) (wr := []) FC hKn (c_X12_isState l g h0 a1 a2 a3 a4 a6 a14 a15 a19 a20 a23 a24 a25 a26 a27 a28 p1) m_yX12_isState b_367 (ci := 12) rfl rfl rfl hP hD hS hA [0, 1] [] rfl (by decide) rfl (by decide) (by decide) rfl hl.1 rfl (Nat.le_of_ble_eq_true rfl) dX12_really_2 ⟨(Nat.le_of_ble_eq_true rfl), (Nat.le_of_ble_eq_true rfl)⟩ ⟨(Nat.le_of_ble_eq_true rfl), (Nat.le_of_ble_eq_true rfl)⟩ (fun u1 H locs _ hP hD hS => ?_)
  have hP : va_P g.1 vwCl [(h0, .inr (12, [.int 0, .ref a1, .ref a2, .ref a3, .ref a4, .int 0, .ref a6, .int 0, .int 0, .int 0, .int 0, .int 0, .int 0, .int (-1), .ref a14, .ref a15, .int 0, .int 0, .int 0, .ref a19, .ref a20, .int 0, .int 0, .ref a23, .ref a24, .ref a25, .ref a26, .ref a27, .ref a28])), (a1, .inl (g.2 0, 225, .inl (fun _ => 0)))] H := hP
  have hD : va_D A [(h0, .inr (12, [.int 0, .ref a1, .ref a2, .ref a3, .ref a4, .int 0, .ref a6, .int 0, .int 0, .int 0, .int 0, .int 0, .int 0, .int (-1), .ref a14, .ref a15, .int 0, .int 0, .int 0, .ref a19, .ref a20, .int 0, .int 0, .ref a23, .ref a24, .ref a25, .ref a26, .ref a27, .ref a28])), (a1, .inl (g.2 0, 225, .inl (fun _ => 0)))] := hD
  refine W.eq (g2 := F0 m 5 ls [.int 0]) rfl ?_
  refine lv_if_eq (tgt := 17) hx hb dX12_really_5 (by decide) (fun _ => ?_) (fun h => absurd h (by decide))
  refine lv_bipush (v := -2) hx hb dX12_really_17 (by decide) ?_
  exact rt_i FX () rfl trivial (hP.sub [0, 1] rfl) (hD.sub [0, 1] (by decide) rfl) hS (Nat.le_of_ble_eq_true rfl) (Nat.le_of_ble_eq_true rfl) dX12_really_19
set_option maxRecDepth 100000 in
set_option maxHeartbeats 4000000 in
theorem c_X12_doubt (l : Launch) (g : GG) (h0 : Nat) (a1 : Nat) (a2 : Nat) (a3 : Nat) (a4 : Nat) (a6 : Nat) (a14 : Nat) (a15 : Nat) (a19 : Nat) (a20 : Nat) (a23 : Nat) (a24 : Nat) (a25 : Nat) (a26 : Nat) (a27 : Nat) (a28 : Nat) (p1 : Int32) (p2 : Int32) (p3 : Int32) : Ct l g yX12_doubt cX12_doubt 4 (some .int) { frames := 2, cells := 0, slots := 0, locals := 46 } [.ref h0, .int p1, .int p2, .int p3] [(h0, .inr (12, [.int 0, .ref a1, .ref a2, .ref a3, .ref a4, .int 0, .ref a6, .int 0, .int 0, .int 0, .int 0, .int 0, .int 0, .int (-1), .ref a14, .ref a15, .int 0, .int 0, .int 0, .ref a19, .ref a20, .int 0, .int 0, .ref a23, .ref a24, .ref a25, .ref a26, .ref a27, .ref a28])), (a1, .inl (g.2 0, 225, .inl (fun _ => 0)))] (S := Unit) (fun _ => some (.int (-2))) (fun _ => True) (fun u => [(h0, .inr (12, [.int 0, .ref a1, .ref a2, .ref a3, .ref a4, .int 0, .ref a6, .int 0, .int 0, .int 0, .int 0, .int 0, .int 0, .int (-1), .ref a14, .ref a15, .int 0, .int 0, .int 0, .ref a19, .ref a20, .int 0, .int 0, .ref a23, .ref a24, .ref a25, .ref a26, .ref a27, .ref a28])), (a1, .inl (g.2 0, 225, .inl (fun _ => 0)))]) := by
  refine Ct.of (by decide) (Nat.le_of_ble_eq_true rfl) ?_
  intro p e s m below meth c A ls FX hP hD hS hl
  obtain ⟨FC, hr, hlk, hKn, hA, hnm⟩ := id FX
  have FC : CallFix p m c cX12_doubt 4 s _ BIG RX12 := FC
  obtain ⟨hx, hb, hml, hown, hB⟩ := id FC
  have hl : lv_has ls 4 [(0, .ref h0), (1, .int p1), (2, .int p2), (3, .int p3)] := hl
  refine lv_aload_n hx hb dX12_doubt_0 rfl (lv_at hl 0 rfl) ?_
  refine lv_iload_n hx hb dX12_doubt_1 rfl (lv_at hl 1 rfl) ?_
  refine call_V (As := [.int p1]) (rest := []) (wr := []) FC hKn (c_X12_isHearer l g h0 a1 a2 a3 a4 a6 a14 a15 a19 a20 a23 a24 a25 a26 a27 a28 p1) m_yX12_isHearer b_365 (ci := 12) rfl rfl rfl hP hD hS hA [0, 1] [] rfl (by decide) rfl (by decide) (by decide) rfl hl.1 rfl (Nat.le_of_ble_eq_true rfl) dX12_doubt_2 ⟨(Nat.le_of_ble_eq_true rfl), (Nat.le_of_ble_eq_true rfl)⟩ ⟨(Nat.le_of_ble_eq_true rfl), (Nat.le_of_ble_eq_true rfl)⟩ (fun u1 H locs _ hP hD hS => ?_)
  have hP : va_P g.1 vwCl [(h0, .inr (12, [.int 0, .ref a1, .ref a2, .ref a3, .ref a4, .int 0, .ref a6, .int 0, .int 0, .int 0, .int 0, .int 0, .int 0, .int (-1), .ref a14, .ref a15, .int 0, .int 0, .int 0, .ref a19, .ref a20, .int 0, .int 0, .ref a23, .ref a24, .ref a25, .ref a26, .ref a27, .ref a28])), (a1, .inl (g.2 0, 225, .inl (fun _ => 0)))] H := hP
  have hD : va_D A [(h0, .inr (12, [.int 0, .ref a1, .ref a2, .ref a3, .ref a4, .int 0, .ref a6, .int 0, .int 0, .int 0, .int 0, .int 0, .int 0, .int (-1), .ref a14, .ref a15, .int 0, .int 0, .int 0, .ref a19, .ref a20, .int 0, .int 0, .ref a23, .ref a24, .ref a25, .ref a26, .ref a27, .ref a28])), (a1, .inl (g.2 0, 225, .inl (fun _ => 0)))] := hD
  refine W.eq (g2 := F0 m 5 ls [.int 0]) rfl ?_
  refine lv_if_eq (tgt := 45) hx hb dX12_doubt_5 (by decide) (fun _ => ?_) (fun h => absurd h (by decide))
  refine lv_bipush (v := -2) hx hb dX12_doubt_45 (by decide) ?_
  exact rt_i FX () rfl trivial (hP.sub [0, 1] rfl) (hD.sub [0, 1] (by decide) rfl) hS (Nat.le_of_ble_eq_true rfl) (Nat.le_of_ble_eq_true rfl) dX12_doubt_47
set_option maxRecDepth 100000 in
set_option maxHeartbeats 4000000 in
theorem c_X12_undo (l : Launch) (g : GG) (h0 : Nat) (a1 : Nat) (a2 : Nat) (a3 : Nat) (a4 : Nat) (a6 : Nat) (a14 : Nat) (a15 : Nat) (a19 : Nat) (a20 : Nat) (a23 : Nat) (a24 : Nat) (a25 : Nat) (a26 : Nat) (a27 : Nat) (a28 : Nat) : Ct l g yX12_undo cX12_undo 1 (some .int) { frames := 1, cells := 0, slots := 0, locals := 20 } [.ref h0] [(h0, .inr (12, [.int 0, .ref a1, .ref a2, .ref a3, .ref a4, .int 0, .ref a6, .int 0, .int 0, .int 0, .int 0, .int 0, .int 0, .int (-1), .ref a14, .ref a15, .int 0, .int 0, .int 0, .ref a19, .ref a20, .int 0, .int 0, .ref a23, .ref a24, .ref a25, .ref a26, .ref a27, .ref a28])), (a1, .inl (g.2 0, 225, .inl (fun _ => 0)))] (S := Unit) (fun _ => some (.int (-2))) (fun _ => True) (fun u => [(h0, .inr (12, [.int 0, .ref a1, .ref a2, .ref a3, .ref a4, .int 0, .ref a6, .int 0, .int 0, .int 0, .int 0, .int 0, .int 0, .int (-1), .ref a14, .ref a15, .int 0, .int 0, .int 0, .ref a19, .ref a20, .int 0, .int 0, .ref a23, .ref a24, .ref a25, .ref a26, .ref a27, .ref a28])), (a1, .inl (g.2 0, 225, .inl (fun _ => 0)))]) := by
  refine Ct.of (by decide) (Nat.le_of_ble_eq_true rfl) ?_
  intro p e s m below meth c A ls FX hP hD hS hl
  obtain ⟨FC, hr, hlk, hKn, hA, hnm⟩ := id FX
  have FC : CallFix p m c cX12_undo 1 s _ BIG RX12 := FC
  obtain ⟨hx, hb, hml, hown, hB⟩ := id FC
  have hl : lv_has ls 1 [(0, .ref h0)] := hl
  refine lv_aload_n hx hb dX12_undo_0 rfl (lv_at hl 0 rfl) ?_
  refine call_V (As := []) (rest := []) (wr := []) FC hKn (c_X12_isDesk l g h0 a1 a2 a3 a4 a6 a14 a15 a19 a20 a23 a24 a25 a26 a27 a28) m_yX12_isDesk b_363 (ci := 12) rfl rfl rfl hP hD hS hA [0, 1] [] rfl (by decide) rfl (by decide) (by decide) rfl hl.1 rfl (Nat.le_of_ble_eq_true rfl) dX12_undo_1 ⟨(Nat.le_of_ble_eq_true rfl), (Nat.le_of_ble_eq_true rfl)⟩ ⟨(Nat.le_of_ble_eq_true rfl), (Nat.le_of_ble_eq_true rfl)⟩ (fun u1 H locs _ hP hD hS => ?_)
  have hP : va_P g.1 vwCl [(h0, .inr (12, [.int 0, .ref a1, .ref a2, .ref a3, .ref a4, .int 0, .ref a6, .int 0, .int 0, .int 0, .int 0, .int 0, .int 0, .int (-1), .ref a14, .ref a15, .int 0, .int 0, .int 0, .ref a19, .ref a20, .int 0, .int 0, .ref a23, .ref a24, .ref a25, .ref a26, .ref a27, .ref a28])), (a1, .inl (g.2 0, 225, .inl (fun _ => 0)))] H := hP
  have hD : va_D A [(h0, .inr (12, [.int 0, .ref a1, .ref a2, .ref a3, .ref a4, .int 0, .ref a6, .int 0, .int 0, .int 0, .int 0, .int 0, .int 0, .int (-1), .ref a14, .ref a15, .int 0, .int 0, .int 0, .ref a19, .ref a20, .int 0, .int 0, .ref a23, .ref a24, .ref a25, .ref a26, .ref a27, .ref a28])), (a1, .inl (g.2 0, 225, .inl (fun _ => 0)))] := hD
  refine W.eq (g2 := F0 m 4 ls [.int 0]) rfl ?_
  refine lv_if_ne (tgt := 10) hx hb dX12_undo_4 (by decide) (fun h => absurd h (by decide)) (fun _ => ?_)
  refine lv_bipush (v := -2) hx hb dX12_undo_7 (by decide) ?_
  exact rt_i FX () rfl trivial (hP.sub [0, 1] rfl) (hD.sub [0, 1] (by decide) rfl) hS (Nat.le_of_ble_eq_true rfl) (Nat.le_of_ble_eq_true rfl) dX12_undo_9
set_option maxRecDepth 100000 in
set_option maxHeartbeats 4000000 in
theorem c_X12_drawn (l : Launch) (g : GG) (h0 : Nat) (a1 : Nat) (a2 : Nat) (a3 : Nat) (a4 : Nat) (a6 : Nat) (a14 : Nat) (a15 : Nat) (a19 : Nat) (a20 : Nat) (a23 : Nat) (a24 : Nat) (a25 : Nat) (a26 : Nat) (a27 : Nat) (a28 : Nat) (p1 : Int32) (p2 : Int32) (p3 : Int32) (p4 : Int32) : Ct l g yX12_drawn cX12_drawn 11 (some .int) { frames := 3, cells := 0, slots := 0, locals := 68 } [.ref h0, .int p1, .int p2, .int p3, .int p4] [(h0, .inr (12, [.int 0, .ref a1, .ref a2, .ref a3, .ref a4, .int 0, .ref a6, .int 0, .int 0, .int 0, .int 0, .int 0, .int 0, .int (-1), .ref a14, .ref a15, .int 0, .int 0, .int 0, .ref a19, .ref a20, .int 0, .int 0, .ref a23, .ref a24, .ref a25, .ref a26, .ref a27, .ref a28])), (a1, .inl (g.2 0, 225, .inl (fun _ => 0)))] (S := Unit) (fun _ => some (.int (-2))) (fun _ => True) (fun u => [(h0, .inr (12, [.int 0, .ref a1, .ref a2, .ref a3, .ref a4, .int 0, .ref a6, .int 0, .int 0, .int 0, .int 0, .int 0, .int 0, .int (-1), .ref a14, .ref a15, .int 0, .int 0, .int 0, .ref a19, .ref a20, .int 0, .int 0, .ref a23, .ref a24, .ref a25, .ref a26, .ref a27, .ref a28])), (a1, .inl (g.2 0, 225, .inl (fun _ => 0)))]) := by
  refine Ct.of (by decide) (Nat.le_of_ble_eq_true rfl) ?_
  intro p e s m below meth c A ls FX hP hD hS hl
  obtain ⟨FC, hr, hlk, hKn, hA, hnm⟩ := id FX
  have FC : CallFix p m c cX12_drawn 11 s _ BIG RX12 := FC
  obtain ⟨hx, hb, hml, hown, hB⟩ := id FC
  have hl : lv_has ls 11 [(0, .ref h0), (1, .int p1), (2, .int p2), (3, .int p3), (4, .int p4)] := hl
  refine lv_aload_n hx hb dX12_drawn_0 rfl (lv_at hl 0 rfl) ?_
  refine lv_iload_n hx hb dX12_drawn_1 rfl (lv_at hl 2 rfl) ?_
  refine lv_iload_n hx hb dX12_drawn_2 rfl (lv_at hl 1 rfl) ?_
  refine call_S (As := [.int p1]) (rest := [.int p2, .ref h0]) (wr := [(h0, .inr (12, [.int 0, .ref a1, .ref a2, .ref a3, .ref a4, .int 0, .ref a6, .int 0, .int 0, .int 0, .int 0, .int 0, .int 0, .int (-1), .ref a14, .ref a15, .int 0, .int 0, .int 0, .ref a19, .ref a20, .int 0, .int 0, .ref a23, .ref a24, .ref a25, .ref a26, .ref a27, .ref a28])), (a1, .inl (g.2 0, 225, .inl (fun _ => 0)))]) FC hKn (c_X12_isSeed l g p1) m_yX12_isSeed b_373 hP hD hS hA [] [0, 1] rfl (by decide) rfl (by decide) (by decide) rfl hl.1 rfl (Nat.le_of_ble_eq_true rfl) dX12_drawn_3 ⟨(Nat.le_of_ble_eq_true rfl), (Nat.le_of_ble_eq_true rfl)⟩ ⟨(Nat.le_of_ble_eq_true rfl), (Nat.le_of_ble_eq_true rfl)⟩ (fun u1 H locs _ hP hD hS => ?_)
  have hP : va_P g.1 vwCl [(h0, .inr (12, [.int 0, .ref a1, .ref a2, .ref a3, .ref a4, .int 0, .ref a6, .int 0, .int 0, .int 0, .int 0, .int 0, .int 0, .int (-1), .ref a14, .ref a15, .int 0, .int 0, .int 0, .ref a19, .ref a20, .int 0, .int 0, .ref a23, .ref a24, .ref a25, .ref a26, .ref a27, .ref a28])), (a1, .inl (g.2 0, 225, .inl (fun _ => 0)))] H := hP
  have hD : va_D A [(h0, .inr (12, [.int 0, .ref a1, .ref a2, .ref a3, .ref a4, .int 0, .ref a6, .int 0, .int 0, .int 0, .int 0, .int 0, .int 0, .int (-1), .ref a14, .ref a15, .int 0, .int 0, .int 0, .ref a19, .ref a20, .int 0, .int 0, .ref a23, .ref a24, .ref a25, .ref a26, .ref a27, .ref a28])), (a1, .inl (g.2 0, 225, .inl (fun _ => 0)))] := hD
  refine W.eq (g2 := F0 m 6 ls [.int (sp_seed p1), .int p2, .ref h0]) rfl ?_
  by_cases c2 : 0 ≤ p1.toInt ∧ p1.toInt ≤ 2000000000
  · refine tp_i (v := 1) (if_pos c2) ?_
    refine lv_if_eq (tgt := 32) hx hb dX12_drawn_6 (by decide) (fun h => absurd h (by decide)) (fun _ => ?_)
    refine lv_aload_n hx hb dX12_drawn_9 rfl (lv_at hl 0 rfl) ?_
    refine lv_iload_n hx hb dX12_drawn_10 rfl (lv_at hl 3 rfl) ?_
    refine call_V (As := [.int p3]) (rest := [.int p2, .ref h0]) (wr := []) FC hKn (c_X12_isHearer l g h0 a1 a2 a3 a4 a6 a14 a15 a19 a20 a23 a24 a25 a26 a27 a28 p3) m_yX12_isHearer b_365 (ci := 12) rfl rfl rfl hP hD hS hA [0, 1] [] rfl (by decide) rfl (by decide) (by decide) rfl hl.1 rfl (Nat.le_of_ble_eq_true rfl) dX12_drawn_11 ⟨(Nat.le_of_ble_eq_true rfl), (Nat.le_of_ble_eq_true rfl)⟩ ⟨(Nat.le_of_ble_eq_true rfl), (Nat.le_of_ble_eq_true rfl)⟩ (fun u3 H locs _ hP hD hS => ?_)
    have hP : va_P g.1 vwCl [(h0, .inr (12, [.int 0, .ref a1, .ref a2, .ref a3, .ref a4, .int 0, .ref a6, .int 0, .int 0, .int 0, .int 0, .int 0, .int 0, .int (-1), .ref a14, .ref a15, .int 0, .int 0, .int 0, .ref a19, .ref a20, .int 0, .int 0, .ref a23, .ref a24, .ref a25, .ref a26, .ref a27, .ref a28])), (a1, .inl (g.2 0, 225, .inl (fun _ => 0)))] H := hP
    have hD : va_D A [(h0, .inr (12, [.int 0, .ref a1, .ref a2, .ref a3, .ref a4, .int 0, .ref a6, .int 0, .int 0, .int 0, .int 0, .int 0, .int 0, .int (-1), .ref a14, .ref a15, .int 0, .int 0, .int 0, .ref a19, .ref a20, .int 0, .int 0, .ref a23, .ref a24, .ref a25, .ref a26, .ref a27, .ref a28])), (a1, .inl (g.2 0, 225, .inl (fun _ => 0)))] := hD
    refine W.eq (g2 := F0 m 14 ls [.int 0, .int p2, .ref h0]) rfl ?_
    refine lv_if_eq (tgt := 32) hx hb dX12_drawn_14 (by decide) (fun _ => ?_) (fun h => absurd h (by decide))
    refine lv_iconst (v := 0) hx hb dX12_drawn_32 (by decide) ?_
    refine call_V (As := [.int p2, .int 0]) (rest := []) (wr := []) FC hKn (c_X12_asksWeek l g h0 a1 a2 a3 a4 a6 a14 a15 a19 a20 a23 a24 a25 a26 a27 a28 p2 0) m_yX12_asksWeek b_366 (ci := 12) rfl rfl rfl hP hD hS hA [0, 1] [] rfl (by decide) rfl (by decide) (by decide) rfl hl.1 rfl (Nat.le_of_ble_eq_true rfl) dX12_drawn_33 ⟨(Nat.le_of_ble_eq_true rfl), (Nat.le_of_ble_eq_true rfl)⟩ ⟨(Nat.le_of_ble_eq_true rfl), (Nat.le_of_ble_eq_true rfl)⟩ (fun u4 H locs _ hP hD hS => ?_)
    have hP : va_P g.1 vwCl [(h0, .inr (12, [.int 0, .ref a1, .ref a2, .ref a3, .ref a4, .int 0, .ref a6, .int 0, .int 0, .int 0, .int 0, .int 0, .int 0, .int (-1), .ref a14, .ref a15, .int 0, .int 0, .int 0, .ref a19, .ref a20, .int 0, .int 0, .ref a23, .ref a24, .ref a25, .ref a26, .ref a27, .ref a28])), (a1, .inl (g.2 0, 225, .inl (fun _ => 0)))] H := hP
    have hD : va_D A [(h0, .inr (12, [.int 0, .ref a1, .ref a2, .ref a3, .ref a4, .int 0, .ref a6, .int 0, .int 0, .int 0, .int 0, .int 0, .int 0, .int (-1), .ref a14, .ref a15, .int 0, .int 0, .int 0, .ref a19, .ref a20, .int 0, .int 0, .ref a23, .ref a24, .ref a25, .ref a26, .ref a27, .ref a28])), (a1, .inl (g.2 0, 225, .inl (fun _ => 0)))] := hD
    refine W.eq (g2 := F0 m 36 ls [.int (-2)]) rfl ?_
    refine lv_istore (lv' := [(5, .int (-2)), (0, .ref h0), (1, .int p1), (2, .int p2), (3, .int p3), (4, .int p4)]) hx hb dX12_drawn_36 hl (by decide) rfl (fun ls hl => ?_)
    refine lv_iload hx hb dX12_drawn_38 (lv_at hl 0 rfl) ?_
    refine lv_if_ge (tgt := 46) hx hb dX12_drawn_40 (by decide) (fun h => absurd h (by decide)) (fun _ => ?_)
    refine lv_iload hx hb dX12_drawn_43 (lv_at hl 0 rfl) ?_
    exact rt_i FX () rfl trivial (hP.sub [0, 1] rfl) (hD.sub [0, 1] (by decide) rfl) hS (Nat.le_of_ble_eq_true rfl) (Nat.le_of_ble_eq_true rfl) dX12_drawn_45
  · refine tp_i (v := 0) (if_neg c2) ?_
    refine lv_if_eq (tgt := 32) hx hb dX12_drawn_6 (by decide) (fun _ => ?_) (fun h => absurd h (by decide))
    refine lv_iconst (v := 0) hx hb dX12_drawn_32 (by decide) ?_
    refine call_V (As := [.int p2, .int 0]) (rest := []) (wr := []) FC hKn (c_X12_asksWeek l g h0 a1 a2 a3 a4 a6 a14 a15 a19 a20 a23 a24 a25 a26 a27 a28 p2 0) m_yX12_asksWeek b_366 (ci := 12) rfl rfl rfl hP hD hS hA [0, 1] [] rfl (by decide) rfl (by decide) (by decide) rfl hl.1 rfl (Nat.le_of_ble_eq_true rfl) dX12_drawn_33 ⟨(Nat.le_of_ble_eq_true rfl), (Nat.le_of_ble_eq_true rfl)⟩ ⟨(Nat.le_of_ble_eq_true rfl), (Nat.le_of_ble_eq_true rfl)⟩ (fun u5 H locs _ hP hD hS => ?_)
    have hP : va_P g.1 vwCl [(h0, .inr (12, [.int 0, .ref a1, .ref a2, .ref a3, .ref a4, .int 0, .ref a6, .int 0, .int 0, .int 0, .int 0, .int 0, .int 0, .int (-1), .ref a14, .ref a15, .int 0, .int 0, .int 0, .ref a19, .ref a20, .int 0, .int 0, .ref a23, .ref a24, .ref a25, .ref a26, .ref a27, .ref a28])), (a1, .inl (g.2 0, 225, .inl (fun _ => 0)))] H := hP
    have hD : va_D A [(h0, .inr (12, [.int 0, .ref a1, .ref a2, .ref a3, .ref a4, .int 0, .ref a6, .int 0, .int 0, .int 0, .int 0, .int 0, .int 0, .int (-1), .ref a14, .ref a15, .int 0, .int 0, .int 0, .ref a19, .ref a20, .int 0, .int 0, .ref a23, .ref a24, .ref a25, .ref a26, .ref a27, .ref a28])), (a1, .inl (g.2 0, 225, .inl (fun _ => 0)))] := hD
    refine W.eq (g2 := F0 m 36 ls [.int (-2)]) rfl ?_
    refine lv_istore (lv' := [(5, .int (-2)), (0, .ref h0), (1, .int p1), (2, .int p2), (3, .int p3), (4, .int p4)]) hx hb dX12_drawn_36 hl (by decide) rfl (fun ls hl => ?_)
    refine lv_iload hx hb dX12_drawn_38 (lv_at hl 0 rfl) ?_
    refine lv_if_ge (tgt := 46) hx hb dX12_drawn_40 (by decide) (fun h => absurd h (by decide)) (fun _ => ?_)
    refine lv_iload hx hb dX12_drawn_43 (lv_at hl 0 rfl) ?_
    exact rt_i FX () rfl trivial (hP.sub [0, 1] rfl) (hD.sub [0, 1] (by decide) rfl) hS (Nat.le_of_ble_eq_true rfl) (Nat.le_of_ble_eq_true rfl) dX12_drawn_45
set_option maxRecDepth 100000 in
set_option maxHeartbeats 4000000 in
theorem c_X12_leaks (l : Launch) (g : GG) (h0 : Nat) (a1 : Nat) (a2 : Nat) (a3 : Nat) (a4 : Nat) (a6 : Nat) (a14 : Nat) (a15 : Nat) (a19 : Nat) (a20 : Nat) (a23 : Nat) (a24 : Nat) (a25 : Nat) (a26 : Nat) (a27 : Nat) (a28 : Nat) (p1 : Int32) (p2 : Int32) : Ct l g yX12_leaks cX12_leaks 5 (some .int) { frames := 1, cells := 0, slots := 0, locals := 20 } [.ref h0, .int p1, .int p2] [(h0, .inr (12, [.int 0, .ref a1, .ref a2, .ref a3, .ref a4, .int 0, .ref a6, .int 0, .int 0, .int 0, .int 0, .int 0, .int 0, .int (-1), .ref a14, .ref a15, .int 0, .int 0, .int 0, .ref a19, .ref a20, .int 0, .int 0, .ref a23, .ref a24, .ref a25, .ref a26, .ref a27, .ref a28])), (a1, .inl (g.2 0, 225, .inl (fun _ => 0)))] (S := Unit) (fun _ => some (.int (-2))) (fun _ => True) (fun u => [(h0, .inr (12, [.int 0, .ref a1, .ref a2, .ref a3, .ref a4, .int 0, .ref a6, .int 0, .int 0, .int 0, .int 0, .int 0, .int 0, .int (-1), .ref a14, .ref a15, .int 0, .int 0, .int 0, .ref a19, .ref a20, .int 0, .int 0, .ref a23, .ref a24, .ref a25, .ref a26, .ref a27, .ref a28])), (a1, .inl (g.2 0, 225, .inl (fun _ => 0)))]) := by
  refine Ct.of (by decide) (Nat.le_of_ble_eq_true rfl) ?_
  intro p e s m below meth c A ls FX hP hD hS hl
  obtain ⟨FC, hr, hlk, hKn, hA, hnm⟩ := id FX
  have FC : CallFix p m c cX12_leaks 5 s _ BIG RX12 := FC
  obtain ⟨hx, hb, hml, hown, hB⟩ := id FC
  have hl : lv_has ls 5 [(0, .ref h0), (1, .int p1), (2, .int p2)] := hl
  refine lv_aload_n hx hb dX12_leaks_0 rfl (lv_at hl 0 rfl) ?_
  refine call_V (As := []) (rest := []) (wr := []) FC hKn (c_X12_isDesk l g h0 a1 a2 a3 a4 a6 a14 a15 a19 a20 a23 a24 a25 a26 a27 a28) m_yX12_isDesk b_363 (ci := 12) rfl rfl rfl hP hD hS hA [0, 1] [] rfl (by decide) rfl (by decide) (by decide) rfl hl.1 rfl (Nat.le_of_ble_eq_true rfl) dX12_leaks_1 ⟨(Nat.le_of_ble_eq_true rfl), (Nat.le_of_ble_eq_true rfl)⟩ ⟨(Nat.le_of_ble_eq_true rfl), (Nat.le_of_ble_eq_true rfl)⟩ (fun u1 H locs _ hP hD hS => ?_)
  have hP : va_P g.1 vwCl [(h0, .inr (12, [.int 0, .ref a1, .ref a2, .ref a3, .ref a4, .int 0, .ref a6, .int 0, .int 0, .int 0, .int 0, .int 0, .int 0, .int (-1), .ref a14, .ref a15, .int 0, .int 0, .int 0, .ref a19, .ref a20, .int 0, .int 0, .ref a23, .ref a24, .ref a25, .ref a26, .ref a27, .ref a28])), (a1, .inl (g.2 0, 225, .inl (fun _ => 0)))] H := hP
  have hD : va_D A [(h0, .inr (12, [.int 0, .ref a1, .ref a2, .ref a3, .ref a4, .int 0, .ref a6, .int 0, .int 0, .int 0, .int 0, .int 0, .int 0, .int (-1), .ref a14, .ref a15, .int 0, .int 0, .int 0, .ref a19, .ref a20, .int 0, .int 0, .ref a23, .ref a24, .ref a25, .ref a26, .ref a27, .ref a28])), (a1, .inl (g.2 0, 225, .inl (fun _ => 0)))] := hD
  refine W.eq (g2 := F0 m 4 ls [.int 0]) rfl ?_
  refine lv_if_eq (tgt := 26) hx hb dX12_leaks_4 (by decide) (fun _ => ?_) (fun h => absurd h (by decide))
  refine lv_bipush (v := -2) hx hb dX12_leaks_26 (by decide) ?_
  exact rt_i FX () rfl trivial (hP.sub [0, 1] rfl) (hD.sub [0, 1] (by decide) rfl) hS (Nat.le_of_ble_eq_true rfl) (Nat.le_of_ble_eq_true rfl) dX12_leaks_28
