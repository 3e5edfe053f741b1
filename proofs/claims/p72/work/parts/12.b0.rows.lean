set_option maxRecDepth 100000 in
set_option maxHeartbeats 4000000 in
theorem k_X4_hurtOf (l : Launch) (g : GG) (p1 : Int32) : Ct l g yX4_hurtOf cX4_hurtOf 1 (some .int) { frames := 0, cells := 0, slots := 0, locals := 0 } [.int p1] [] (S := (Nat → Int32) × (Nat → Nat → Int32) × (Nat → Nat → Int64)) (fun u => some (.int (u.1 0))) (fun u => True) (fun u => []) := by
  refine Ct.of (by decide) (Nat.le_of_ble_eq_true rfl) ?_
  intro p e s m below meth c A ls FX hP hD hS hl
  obtain ⟨FC, hr, hlk, hKn, hA, hnm, hZ⟩ := id FX
  have FC : CallFix p m c cX4_hurtOf 1 s _ BIG RX4 := FC
  obtain ⟨hx, hb, hml, hown, hB⟩ := id FC
  have hl : lv_has ls 1 [(0, .int p1)] := hl
  refine lv_iload_n hx hb dX4_hurtOf_0 rfl (lv_at hl 0 rfl) ?_
  refine lv_if_le (tgt := 13) hx hb dX4_hurtOf_1 (by decide) (fun c1 => ?_) (fun c1 => ?_)
  · have c1 := k_le (a := p1.toInt) (b := 0) rfl (by decide) c1
    refine lv_iconst (v := 0) hx hb dX4_hurtOf_13 (by decide) ?_
    exact rt_i FX ((fun k => match k with | 0 => (0 : Int32) | _ => 0), (fun _ => fun _ => 0), (fun _ => fun _ => 0)) rfl trivial (hP.sub [] rfl) (hD.sub [] (by decide) rfl) hS (Nat.le_of_ble_eq_true rfl) (Nat.le_of_ble_eq_true rfl) dX4_hurtOf_14
  · have c1 := k_nle (a := p1.toInt) (b := 0) rfl (by decide) c1
    refine lv_iload_n hx hb dX4_hurtOf_4 rfl (lv_at hl 0 rfl) ?_
    refine lv_iload_n hx hb dX4_hurtOf_5 rfl (lv_at hl 0 rfl) ?_
    refine lv_imul hx hb dX4_hurtOf_6 ?_
    refine lv_topi (fun z2 e_z2 => ?_)
    refine lv_bipush (v := 100) hx hb dX4_hurtOf_7 (by decide) ?_
    refine lv_idiv hx hb dX4_hurtOf_9 (by decide) ?_
    refine lv_topi (fun z3 e_z3 => ?_)
    refine lv_goto (tgt := 14) hx hb dX4_hurtOf_10 (by decide) ?_
    exact rt_i FX ((fun k => match k with | 0 => z3 | _ => 0), (fun _ => fun _ => 0), (fun _ => fun _ => 0)) rfl trivial (hP.sub [] rfl) (hD.sub [] (by decide) rfl) hS (Nat.le_of_ble_eq_true rfl) (Nat.le_of_ble_eq_true rfl) dX4_hurtOf_14
set_option maxRecDepth 100000 in
set_option maxHeartbeats 4000000 in
theorem k_X0_hurtBetween (l : Launch) (g : GG) (h0 : Nat) (dr0 : Nat) (dr1 : Nat) (dr2 : Nat) (dr3 : Nat) (dr4 : Nat) (dr5 : Nat) (dr6 : Nat) (dr7 : Nat) (dr8 : Nat) (dr9 : Nat) (dstates : Int32) (dreally : Int32) (ddays : Int32) (dheal : Int32) (dleak : Int32) (dlines : Int32) (dhearers : Int32) (dwords : Int32) (dplans : Int32) (dnews : Int32) (dthoughts : Nat → Int32) (dgrades : Nat → Int32) (p1 : Int32) (p2 : Int32) (p3 : Int32) (i_dstates : 0 ≤ dstates.toInt ∧ dstates.toInt ≤ 8) (i_dreally : 0 ≤ dreally.toInt ∧ dreally.toInt ≤ 7) (i_ddays : 0 ≤ ddays.toInt ∧ ddays.toInt ≤ 10) (i_dhearers : 0 ≤ dhearers.toInt ∧ dhearers.toInt ≤ 4) (i_dwords : 0 ≤ dwords.toInt ∧ dwords.toInt ≤ 8) (i_dplans : 0 ≤ dplans.toInt ∧ dplans.toInt ≤ 4) (i_dnews : 0 ≤ dnews.toInt ∧ dnews.toInt ≤ 6) (i_p1 : 0 ≤ p1.toInt ∧ p1.toInt ≤ 3) : Ct l g yX0_hurtBetween cX0_hurtBetween 4 (some .int) { frames := 2, cells := 0, slots := 0, locals := 50 } [.ref h0, .int p1, .int p2, .int p3] [(h0, .inr (0, [.int dstates, .int dreally, .int ddays, .int dheal, .int dleak, .int dlines, .int dhearers, .int dwords, .int dplans, .int dnews, .ref dr0, .ref dr1, .ref dr2, .ref dr3, .ref dr4, .ref dr5, .ref dr6, .ref dr7, .ref dr8, .ref dr9])), (dr1, .inl (g.2 0, 32, .inl dthoughts)), (dr0, .inl (g.2 0, 8, .inl dgrades))] (S := (Nat → Int32) × (Nat → Nat → Int32) × (Nat → Nat → Int64)) (fun u => some (.int (u.1 0))) (fun u => True) (fun u => [(h0, .inr (0, [.int dstates, .int dreally, .int ddays, .int dheal, .int dleak, .int dlines, .int dhearers, .int dwords, .int dplans, .int dnews, .ref dr0, .ref dr1, .ref dr2, .ref dr3, .ref dr4, .ref dr5, .ref dr6, .ref dr7, .ref dr8, .ref dr9])), (dr1, .inl (g.2 0, 32, .inl dthoughts)), (dr0, .inl (g.2 0, 8, .inl dgrades))]) := by
  refine Ct.of (by decide) (Nat.le_of_ble_eq_true rfl) ?_
  intro p e s m below meth c A ls FX hP hD hS hl
  obtain ⟨FC, hr, hlk, hKn, hA, hnm, hZ⟩ := id FX
  have FC : CallFix p m c cX0_hurtBetween 4 s _ BIG RX0 := FC
  obtain ⟨hx, hb, hml, hown, hB⟩ := id FC
  have hl : lv_has ls 4 [(0, .ref h0), (1, .int p1), (2, .int p2), (3, .int p3)] := hl
  refine lv_aload_n hx hb dX0_hurtBetween_0 rfl (lv_at hl 0 rfl) ?_
  refine lv_iload_n hx hb dX0_hurtBetween_1 rfl (lv_at hl 1 rfl) ?_
  refine lv_iload_n hx hb dX0_hurtBetween_2 rfl (lv_at hl 3 rfl) ?_
  refine call_V (As := [.int p1, .int p3]) (rest := []) (wr := []) FC hKn hZ (k_X0_meanOf l g h0 dr0 dr1 dr2 dr3 dr4 dr5 dr6 dr7 dr8 dr9 dstates dreally ddays dheal dleak dlines dhearers dwords dplans dnews dthoughts dgrades p1 p3 (by omega) (by omega) (by omega) (by omega) (by omega) (by omega) (by omega) (by omega)) m_yX0_meanOf b_51 (ci := 0) rfl rfl rfl hP hD hS hA [0, 1, 2] [] rfl (by decide) rfl (by decide) (by decide) rfl hl.1 rfl (Nat.le_of_ble_eq_true rfl) dX0_hurtBetween_3 ⟨(Nat.le_of_ble_eq_true rfl), (Nat.le_of_ble_eq_true rfl)⟩ ⟨(Nat.le_of_ble_eq_true rfl), (Nat.le_of_ble_eq_true rfl)⟩ (fun u1 H locs q2 hP hD hS => ?_)
  have hP : va_P g.1 vwCl [(h0, .inr (0, [.int dstates, .int dreally, .int ddays, .int dheal, .int dleak, .int dlines, .int dhearers, .int dwords, .int dplans, .int dnews, .ref dr0, .ref dr1, .ref dr2, .ref dr3, .ref dr4, .ref dr5, .ref dr6, .ref dr7, .ref dr8, .ref dr9])), (dr1, .inl (g.2 0, 32, .inl dthoughts)), (dr0, .inl (g.2 0, 8, .inl dgrades))] H := hP
  have hD : va_D A [(h0, .inr (0, [.int dstates, .int dreally, .int ddays, .int dheal, .int dleak, .int dlines, .int dhearers, .int dwords, .int dplans, .int dnews, .ref dr0, .ref dr1, .ref dr2, .ref dr3, .ref dr4, .ref dr5, .ref dr6, .ref dr7, .ref dr8, .ref dr9])), (dr1, .inl (g.2 0, 32, .inl dthoughts)), (dr0, .inl (g.2 0, 8, .inl dgrades))] := hD
  refine W.eq (g2 := F0 m 6 ls [.int (u1.1 0)]) rfl ?_
  refine lv_aload_n hx hb dX0_hurtBetween_6 rfl (lv_at hl 0 rfl) ?_
  refine lv_iload_n hx hb dX0_hurtBetween_7 rfl (lv_at hl 1 rfl) ?_
  refine lv_iload_n hx hb dX0_hurtBetween_8 rfl (lv_at hl 2 rfl) ?_
  refine call_V (As := [.int p1, .int p2]) (rest := [.int (u1.1 0)]) (wr := []) FC hKn hZ (k_X0_meanOf l g h0 dr0 dr1 dr2 dr3 dr4 dr5 dr6 dr7 dr8 dr9 dstates dreally ddays dheal dleak dlines dhearers dwords dplans dnews dthoughts dgrades p1 p2 (by omega) (by omega) (by omega) (by omega) (by omega) (by omega) (by omega) (by omega)) m_yX0_meanOf b_51 (ci := 0) rfl rfl rfl hP hD hS hA [0, 1, 2] [] rfl (by decide) rfl (by decide) (by decide) rfl hl.1 rfl (Nat.le_of_ble_eq_true rfl) dX0_hurtBetween_9 ⟨(Nat.le_of_ble_eq_true rfl), (Nat.le_of_ble_eq_true rfl)⟩ ⟨(Nat.le_of_ble_eq_true rfl), (Nat.le_of_ble_eq_true rfl)⟩ (fun u3 H locs q4 hP hD hS => ?_)
  have hP : va_P g.1 vwCl [(h0, .inr (0, [.int dstates, .int dreally, .int ddays, .int dheal, .int dleak, .int dlines, .int dhearers, .int dwords, .int dplans, .int dnews, .ref dr0, .ref dr1, .ref dr2, .ref dr3, .ref dr4, .ref dr5, .ref dr6, .ref dr7, .ref dr8, .ref dr9])), (dr1, .inl (g.2 0, 32, .inl dthoughts)), (dr0, .inl (g.2 0, 8, .inl dgrades))] H := hP
  have hD : va_D A [(h0, .inr (0, [.int dstates, .int dreally, .int ddays, .int dheal, .int dleak, .int dlines, .int dhearers, .int dwords, .int dplans, .int dnews, .ref dr0, .ref dr1, .ref dr2, .ref dr3, .ref dr4, .ref dr5, .ref dr6, .ref dr7, .ref dr8, .ref dr9])), (dr1, .inl (g.2 0, 32, .inl dthoughts)), (dr0, .inl (g.2 0, 8, .inl dgrades))] := hD
  refine W.eq (g2 := F0 m 12 ls [.int (u3.1 0), .int (u1.1 0)]) rfl ?_
  refine lv_isub hx hb dX0_hurtBetween_12 ?_
  refine lv_topi (fun z5 e_z5 => ?_)
  refine call_SN (As := [.int z5]) (rest := []) (wr := [(h0, .inr (0, [.int dstates, .int dreally, .int ddays, .int dheal, .int dleak, .int dlines, .int dhearers, .int dwords, .int dplans, .int dnews, .ref dr0, .ref dr1, .ref dr2, .ref dr3, .ref dr4, .ref dr5, .ref dr6, .ref dr7, .ref dr8, .ref dr9])), (dr1, .inl (g.2 0, 32, .inl dthoughts)), (dr0, .inl (g.2 0, 8, .inl dgrades))]) FC hKn hZ (k_X4_hurtOf l g z5) m_yX4_hurtOf b_52 hP hD hS hA [] [0, 1, 2] rfl (by decide) rfl (by decide) (by decide) rfl hl.1 rfl (Nat.le_of_ble_eq_true rfl) dX0_hurtBetween_13 ⟨(Nat.le_of_ble_eq_true rfl), (Nat.le_of_ble_eq_true rfl)⟩ ⟨(Nat.le_of_ble_eq_true rfl), (Nat.le_of_ble_eq_true rfl)⟩ (fun u6 H locs q7 hP hD hS => ?_)
  have hP : va_P g.1 vwCl [(h0, .inr (0, [.int dstates, .int dreally, .int ddays, .int dheal, .int dleak, .int dlines, .int dhearers, .int dwords, .int dplans, .int dnews, .ref dr0, .ref dr1, .ref dr2, .ref dr3, .ref dr4, .ref dr5, .ref dr6, .ref dr7, .ref dr8, .ref dr9])), (dr1, .inl (g.2 0, 32, .inl dthoughts)), (dr0, .inl (g.2 0, 8, .inl dgrades))] H := hP
  have hD : va_D A [(h0, .inr (0, [.int dstates, .int dreally, .int ddays, .int dheal, .int dleak, .int dlines, .int dhearers, .int dwords, .int dplans, .int dnews, .ref dr0, .ref dr1, .ref dr2, .ref dr3, .ref dr4, .ref dr5, .ref dr6, .ref dr7, .ref dr8, .ref dr9])), (dr1, .inl (g.2 0, 32, .inl dthoughts)), (dr0, .inl (g.2 0, 8, .inl dgrades))] := hD
  refine W.eq (g2 := F0 m 16 ls [.int (u6.1 0)]) rfl ?_
  exact rt_i FX ((fun k => match k with | 0 => u6.1 0 | _ => 0), (fun _ => fun _ => 0), (fun _ => fun _ => 0)) rfl trivial (hP.sub [0, 1, 2] rfl) (hD.sub [0, 1, 2] (by decide) rfl) hS (Nat.le_of_ble_eq_true rfl) (Nat.le_of_ble_eq_true rfl) dX0_hurtBetween_16
set_option maxRecDepth 100000 in
set_option maxHeartbeats 4000000 in
theorem k_X0_hurtAtOnce (l : Launch) (g : GG) (h0 : Nat) (dr0 : Nat) (dr1 : Nat) (dr2 : Nat) (dr3 : Nat) (dr4 : Nat) (dr5 : Nat) (dr6 : Nat) (dr7 : Nat) (dr8 : Nat) (dr9 : Nat) (dstates : Int32) (dreally : Int32) (ddays : Int32) (dheal : Int32) (dleak : Int32) (dlines : Int32) (dhearers : Int32) (dwords : Int32) (dplans : Int32) (dnews : Int32) (dthoughts : Nat → Int32) (dgrades : Nat → Int32) (p1 : Int32) (i_dstates : 0 ≤ dstates.toInt ∧ dstates.toInt ≤ 8) (i_dreally : 0 ≤ dreally.toInt ∧ dreally.toInt ≤ 7) (i_ddays : 0 ≤ ddays.toInt ∧ ddays.toInt ≤ 10) (i_dhearers : 0 ≤ dhearers.toInt ∧ dhearers.toInt ≤ 4) (i_dwords : 0 ≤ dwords.toInt ∧ dwords.toInt ≤ 8) (i_dplans : 0 ≤ dplans.toInt ∧ dplans.toInt ≤ 4) (i_dnews : 0 ≤ dnews.toInt ∧ dnews.toInt ≤ 6) (i_p1 : 0 ≤ p1.toInt ∧ p1.toInt ≤ 3) : Ct l g yX0_hurtAtOnce cX0_hurtAtOnce 2 (some .int) { frames := 3, cells := 0, slots := 0, locals := 73 } [.ref h0, .int p1] [(h0, .inr (0, [.int dstates, .int dreally, .int ddays, .int dheal, .int dleak, .int dlines, .int dhearers, .int dwords, .int dplans, .int dnews, .ref dr0, .ref dr1, .ref dr2, .ref dr3, .ref dr4, .ref dr5, .ref dr6, .ref dr7, .ref dr8, .ref dr9])), (dr1, .inl (g.2 0, 32, .inl dthoughts)), (dr0, .inl (g.2 0, 8, .inl dgrades))] (S := (Nat → Int32) × (Nat → Nat → Int32) × (Nat → Nat → Int64)) (fun u => some (.int (u.1 0))) (fun u => True) (fun u => [(h0, .inr (0, [.int dstates, .int dreally, .int ddays, .int dheal, .int dleak, .int dlines, .int dhearers, .int dwords, .int dplans, .int dnews, .ref dr0, .ref dr1, .ref dr2, .ref dr3, .ref dr4, .ref dr5, .ref dr6, .ref dr7, .ref dr8, .ref dr9])), (dr1, .inl (g.2 0, 32, .inl dthoughts)), (dr0, .inl (g.2 0, 8, .inl dgrades))]) := by
  refine Ct.of (by decide) (Nat.le_of_ble_eq_true rfl) ?_
  intro p e s m below meth c A ls FX hP hD hS hl
  obtain ⟨FC, hr, hlk, hKn, hA, hnm, hZ⟩ := id FX
  have FC : CallFix p m c cX0_hurtAtOnce 2 s _ BIG RX0 := FC
  obtain ⟨hx, hb, hml, hown, hB⟩ := id FC
  have hl : lv_has ls 2 [(0, .ref h0), (1, .int p1)] := hl
  refine lv_aload_n hx hb dX0_hurtAtOnce_0 rfl (lv_at hl 0 rfl) ?_
  refine lv_iload_n hx hb dX0_hurtAtOnce_1 rfl (lv_at hl 1 rfl) ?_
  refine lv_aload_n hx hb dX0_hurtAtOnce_2 rfl (lv_at hl 0 rfl) ?_
  refine call_V (As := []) (rest := [.int p1, .ref h0]) (wr := [(dr1, .inl (g.2 0, 32, .inl dthoughts)), (dr0, .inl (g.2 0, 8, .inl dgrades))]) FC hKn hZ (k_X0_everything l g h0 dr0 dr1 dr2 dr3 dr4 dr5 dr6 dr7 dr8 dr9 dstates dreally ddays dheal dleak dlines dhearers dwords dplans dnews (by omega) (by omega) (by omega) (by omega) (by omega) (by omega) (by omega)) m_yX0_everything b_9 (ci := 0) rfl rfl rfl hP hD hS hA [0] [1, 2] rfl (by decide) rfl (by decide) (by decide) rfl hl.1 rfl (Nat.le_of_ble_eq_true rfl) dX0_hurtAtOnce_3 ⟨(Nat.le_of_ble_eq_true rfl), (Nat.le_of_ble_eq_true rfl)⟩ ⟨(Nat.le_of_ble_eq_true rfl), (Nat.le_of_ble_eq_true rfl)⟩ (fun u1 H locs q2 hP hD hS => ?_)
  have q2_0 : 0 ≤ (u1.1 0).toInt ∧ (u1.1 0).toInt ≤ 255 := q2
  have hP : va_P g.1 vwCl [(dr1, .inl (g.2 0, 32, .inl dthoughts)), (dr0, .inl (g.2 0, 8, .inl dgrades)), (h0, .inr (0, [.int dstates, .int dreally, .int ddays, .int dheal, .int dleak, .int dlines, .int dhearers, .int dwords, .int dplans, .int dnews, .ref dr0, .ref dr1, .ref dr2, .ref dr3, .ref dr4, .ref dr5, .ref dr6, .ref dr7, .ref dr8, .ref dr9]))] H := hP
  have hD : va_D A [(dr1, .inl (g.2 0, 32, .inl dthoughts)), (dr0, .inl (g.2 0, 8, .inl dgrades)), (h0, .inr (0, [.int dstates, .int dreally, .int ddays, .int dheal, .int dleak, .int dlines, .int dhearers, .int dwords, .int dplans, .int dnews, .ref dr0, .ref dr1, .ref dr2, .ref dr3, .ref dr4, .ref dr5, .ref dr6, .ref dr7, .ref dr8, .ref dr9]))] := hD
  refine W.eq (g2 := F0 m 6 ls [.int (u1.1 0), .int p1, .ref h0]) rfl ?_
  refine lv_aload_n hx hb dX0_hurtAtOnce_6 rfl (lv_at hl 0 rfl) ?_
  refine call_V (As := []) (rest := [.int (u1.1 0), .int p1, .ref h0]) (wr := [(dr1, .inl (g.2 0, 32, .inl dthoughts)), (dr0, .inl (g.2 0, 8, .inl dgrades))]) FC hKn hZ (k_X0_truth l g h0 dr0 dr1 dr2 dr3 dr4 dr5 dr6 dr7 dr8 dr9 dstates dreally ddays dheal dleak dlines dhearers dwords dplans dnews (by omega) (by omega) (by omega) (by omega) (by omega) (by omega) (by omega)) m_yX0_truth b_53 (ci := 0) rfl rfl rfl hP hD hS hA [2] [0, 1] rfl (by decide) rfl (by decide) (by decide) rfl hl.1 rfl (Nat.le_of_ble_eq_true rfl) dX0_hurtAtOnce_7 ⟨(Nat.le_of_ble_eq_true rfl), (Nat.le_of_ble_eq_true rfl)⟩ ⟨(Nat.le_of_ble_eq_true rfl), (Nat.le_of_ble_eq_true rfl)⟩ (fun u3 H locs q4 hP hD hS => ?_)
  have q4_0 : 1 ≤ (u3.1 0).toInt ∧ (u3.1 0).toInt ≤ 128 := q4
  have hP : va_P g.1 vwCl [(dr1, .inl (g.2 0, 32, .inl dthoughts)), (dr0, .inl (g.2 0, 8, .inl dgrades)), (h0, .inr (0, [.int dstates, .int dreally, .int ddays, .int dheal, .int dleak, .int dlines, .int dhearers, .int dwords, .int dplans, .int dnews, .ref dr0, .ref dr1, .ref dr2, .ref dr3, .ref dr4, .ref dr5, .ref dr6, .ref dr7, .ref dr8, .ref dr9]))] H := hP
  have hD : va_D A [(dr1, .inl (g.2 0, 32, .inl dthoughts)), (dr0, .inl (g.2 0, 8, .inl dgrades)), (h0, .inr (0, [.int dstates, .int dreally, .int ddays, .int dheal, .int dleak, .int dlines, .int dhearers, .int dwords, .int dplans, .int dnews, .ref dr0, .ref dr1, .ref dr2, .ref dr3, .ref dr4, .ref dr5, .ref dr6, .ref dr7, .ref dr8, .ref dr9]))] := hD
  refine W.eq (g2 := F0 m 10 ls [.int (u3.1 0), .int (u1.1 0), .int p1, .ref h0]) rfl ?_
  refine call_V (As := [.int p1, .int (u1.1 0), .int (u3.1 0)]) (rest := []) (wr := []) FC hKn hZ (k_X0_hurtBetween l g h0 dr0 dr1 dr2 dr3 dr4 dr5 dr6 dr7 dr8 dr9 dstates dreally ddays dheal dleak dlines dhearers dwords dplans dnews dthoughts dgrades p1 (u1.1 0) (u3.1 0) (by omega) (by omega) (by omega) (by omega) (by omega) (by omega) (by omega) (by omega)) m_yX0_hurtBetween b_54 (ci := 0) rfl rfl rfl hP hD hS hA [2, 0, 1] [] rfl (by decide) rfl (by decide) (by decide) rfl hl.1 rfl (Nat.le_of_ble_eq_true rfl) dX0_hurtAtOnce_10 ⟨(Nat.le_of_ble_eq_true rfl), (Nat.le_of_ble_eq_true rfl)⟩ ⟨(Nat.le_of_ble_eq_true rfl), (Nat.le_of_ble_eq_true rfl)⟩ (fun u5 H locs q6 hP hD hS => ?_)
  have hP : va_P g.1 vwCl [(h0, .inr (0, [.int dstates, .int dreally, .int ddays, .int dheal, .int dleak, .int dlines, .int dhearers, .int dwords, .int dplans, .int dnews, .ref dr0, .ref dr1, .ref dr2, .ref dr3, .ref dr4, .ref dr5, .ref dr6, .ref dr7, .ref dr8, .ref dr9])), (dr1, .inl (g.2 0, 32, .inl dthoughts)), (dr0, .inl (g.2 0, 8, .inl dgrades))] H := hP
  have hD : va_D A [(h0, .inr (0, [.int dstates, .int dreally, .int ddays, .int dheal, .int dleak, .int dlines, .int dhearers, .int dwords, .int dplans, .int dnews, .ref dr0, .ref dr1, .ref dr2, .ref dr3, .ref dr4, .ref dr5, .ref dr6, .ref dr7, .ref dr8, .ref dr9])), (dr1, .inl (g.2 0, 32, .inl dthoughts)), (dr0, .inl (g.2 0, 8, .inl dgrades))] := hD
  refine W.eq (g2 := F0 m 13 ls [.int (u5.1 0)]) rfl ?_
  exact rt_i FX ((fun k => match k with | 0 => u5.1 0 | _ => 0), (fun _ => fun _ => 0), (fun _ => fun _ => 0)) rfl trivial (hP.sub [0, 1, 2] rfl) (hD.sub [0, 1, 2] (by decide) rfl) hS (Nat.le_of_ble_eq_true rfl) (Nat.le_of_ble_eq_true rfl) dX0_hurtAtOnce_13
set_option maxRecDepth 100000 in
set_option maxHeartbeats 4000000 in
theorem k_X0_leftOf (l : Launch) (g : GG) (h0 : Nat) (dr0 : Nat) (dr1 : Nat) (dr2 : Nat) (dr3 : Nat) (dr4 : Nat) (dr5 : Nat) (dr6 : Nat) (dr7 : Nat) (dr8 : Nat) (dr9 : Nat) (dstates : Int32) (dreally : Int32) (ddays : Int32) (dheal : Int32) (dleak : Int32) (dlines : Int32) (dhearers : Int32) (dwords : Int32) (dplans : Int32) (dnews : Int32) (p1 : Int32) (p2 : Int32) (i_dstates : 0 ≤ dstates.toInt ∧ dstates.toInt ≤ 8) (i_dreally : 0 ≤ dreally.toInt ∧ dreally.toInt ≤ 7) (i_ddays : 0 ≤ ddays.toInt ∧ ddays.toInt ≤ 10) (i_dhearers : 0 ≤ dhearers.toInt ∧ dhearers.toInt ≤ 4) (i_dwords : 0 ≤ dwords.toInt ∧ dwords.toInt ≤ 8) (i_dplans : 0 ≤ dplans.toInt ∧ dplans.toInt ≤ 4) (i_dnews : 0 ≤ dnews.toInt ∧ dnews.toInt ≤ 6) : Ct l g yX0_leftOf cX0_leftOf 3 (some .int) { frames := 1, cells := 0, slots := 0, locals := 14 } [.ref h0, .int p1, .int p2] [(h0, .inr (0, [.int dstates, .int dreally, .int ddays, .int dheal, .int dleak, .int dlines, .int dhearers, .int dwords, .int dplans, .int dnews, .ref dr0, .ref dr1, .ref dr2, .ref dr3, .ref dr4, .ref dr5, .ref dr6, .ref dr7, .ref dr8, .ref dr9]))] (S := (Nat → Int32) × (Nat → Nat → Int32) × (Nat → Nat → Int64)) (fun u => some (.int (u.1 0))) (fun u => True) (fun u => [(h0, .inr (0, [.int dstates, .int dreally, .int ddays, .int dheal, .int dleak, .int dlines, .int dhearers, .int dwords, .int dplans, .int dnews, .ref dr0, .ref dr1, .ref dr2, .ref dr3, .ref dr4, .ref dr5, .ref dr6, .ref dr7, .ref dr8, .ref dr9]))]) := by
  refine Ct.of (by decide) (Nat.le_of_ble_eq_true rfl) ?_
  intro p e s m below meth c A ls FX hP hD hS hl
  obtain ⟨FC, hr, hlk, hKn, hA, hnm, hZ⟩ := id FX
  have FC : CallFix p m c cX0_leftOf 3 s _ BIG RX0 := FC
  obtain ⟨hx, hb, hml, hown, hB⟩ := id FC
  have hl : lv_has ls 3 [(0, .ref h0), (1, .int p1), (2, .int p2)] := hl
  refine lv_iload_n hx hb dX0_leftOf_0 rfl (lv_at hl 1 rfl) ?_
  refine lv_iconst (v := 0) hx hb dX0_leftOf_1 (by decide) ?_
  refine lv_bipush (v := 100) hx hb dX0_leftOf_2 (by decide) ?_
  refine lv_aload_n hx hb dX0_leftOf_4 rfl (lv_at hl 0 rfl) ?_
  refine g_get (C := RX0) (T := TX0) (N := 20) (ci := 0) (v := .int dheal) FC hKn hP i_X0 0 rfl rfl 3 (by decide) b_55 rfl dX0_leftOf_5 ?_
  refine lv_iload_n hx hb dX0_leftOf_8 rfl (lv_at hl 2 rfl) ?_
  refine lv_imul hx hb dX0_leftOf_9 ?_
  refine lv_topi (fun z1 e_z1 => ?_)
  refine lv_isub hx hb dX0_leftOf_10 ?_
  refine lv_topi (fun z2 e_z2 => ?_)
  refine va_mmax hx hb (by rw [hml]; exact hl.1.symm) hown (hB _ b_56) (hB _ b_57) (hB _ b_58) (hB _ b_59) (Nat.le_of_ble_eq_true rfl) (Nat.le_of_ble_eq_true rfl) (Nat.le_of_ble_eq_true rfl) (Nat.le_of_ble_eq_true rfl) dX0_leftOf_11 ?_
  have kc0 : (0 : Int32).toInt = 0 := by decide
  refine lv_topi (fun z3 e_z3 => ?_)
  have t_z3 : (((0 : Int32)).toInt ≤ z3.toInt ∧ z2.toInt ≤ z3.toInt ∧ (z3.toInt = ((0 : Int32)).toInt ∨ z3.toInt = z2.toInt)) := by rw [e_z3]; exact mmax_b _ _
  refine lv_imul hx hb dX0_leftOf_14 ?_
  refine lv_topi (fun z4 e_z4 => ?_)
  refine lv_bipush (v := 100) hx hb dX0_leftOf_15 (by decide) ?_
  refine lv_idiv hx hb dX0_leftOf_17 (by decide) ?_
  refine lv_topi (fun z5 e_z5 => ?_)
  exact rt_i FX ((fun k => match k with | 0 => z5 | _ => 0), (fun _ => fun _ => 0), (fun _ => fun _ => 0)) rfl trivial (hP.sub [0] rfl) (hD.sub [0] (by decide) rfl) hS (Nat.le_of_ble_eq_true rfl) (Nat.le_of_ble_eq_true rfl) dX0_leftOf_18
set_option maxRecDepth 100000 in
set_option maxHeartbeats 4000000 in
theorem k_X0_inTheMean (l : Launch) (g : GG) (h0 : Nat) (dr0 : Nat) (dr1 : Nat) (dr2 : Nat) (dr3 : Nat) (dr4 : Nat) (dr5 : Nat) (dr6 : Nat) (dr7 : Nat) (dr8 : Nat) (dr9 : Nat) (dstates : Int32) (dreally : Int32) (ddays : Int32) (dheal : Int32) (dleak : Int32) (dlines : Int32) (dhearers : Int32) (dwords : Int32) (dplans : Int32) (dnews : Int32) (p1 : Int32) (p2 : Int32) (i_dstates : 0 ≤ dstates.toInt ∧ dstates.toInt ≤ 8) (i_dreally : 0 ≤ dreally.toInt ∧ dreally.toInt ≤ 7) (i_ddays : 0 ≤ ddays.toInt ∧ ddays.toInt ≤ 10) (i_dhearers : 0 ≤ dhearers.toInt ∧ dhearers.toInt ≤ 4) (i_dwords : 0 ≤ dwords.toInt ∧ dwords.toInt ≤ 8) (i_dplans : 0 ≤ dplans.toInt ∧ dplans.toInt ≤ 4) (i_dnews : 0 ≤ dnews.toInt ∧ dnews.toInt ≤ 6) : Ct l g yX0_inTheMean cX0_inTheMean 3 (some .int) { frames := 0, cells := 0, slots := 0, locals := 0 } [.ref h0, .int p1, .int p2] [(h0, .inr (0, [.int dstates, .int dreally, .int ddays, .int dheal, .int dleak, .int dlines, .int dhearers, .int dwords, .int dplans, .int dnews, .ref dr0, .ref dr1, .ref dr2, .ref dr3, .ref dr4, .ref dr5, .ref dr6, .ref dr7, .ref dr8, .ref dr9]))] (S := (Nat → Int32) × (Nat → Nat → Int32) × (Nat → Nat → Int64)) (fun u => some (.int (u.1 0))) (fun u => True) (fun u => [(h0, .inr (0, [.int dstates, .int dreally, .int ddays, .int dheal, .int dleak, .int dlines, .int dhearers, .int dwords, .int dplans, .int dnews, .ref dr0, .ref dr1, .ref dr2, .ref dr3, .ref dr4, .ref dr5, .ref dr6, .ref dr7, .ref dr8, .ref dr9]))]) := by
  refine Ct.of (by decide) (Nat.le_of_ble_eq_true rfl) ?_
  intro p e s m below meth c A ls FX hP hD hS hl
  obtain ⟨FC, hr, hlk, hKn, hA, hnm, hZ⟩ := id FX
  have FC : CallFix p m c cX0_inTheMean 3 s _ BIG RX0 := FC
  obtain ⟨hx, hb, hml, hown, hB⟩ := id FC
  have hl : lv_has ls 3 [(0, .ref h0), (1, .int p1), (2, .int p2)] := hl
  refine lv_aload_n hx hb dX0_inTheMean_0 rfl (lv_at hl 0 rfl) ?_
  refine g_get (C := RX0) (T := TX0) (N := 20) (ci := 0) (v := .int dleak) FC hKn hP i_X0 0 rfl rfl 4 (by decide) b_60 rfl dX0_inTheMean_1 ?_
  refine lv_iload_n hx hb dX0_inTheMean_4 rfl (lv_at hl 1 rfl) ?_
  refine lv_imul hx hb dX0_inTheMean_5 ?_
  refine lv_topi (fun z1 e_z1 => ?_)
  refine lv_bipush (v := 100) hx hb dX0_inTheMean_6 (by decide) ?_
  refine lv_aload_n hx hb dX0_inTheMean_8 rfl (lv_at hl 0 rfl) ?_
  refine g_get (C := RX0) (T := TX0) (N := 20) (ci := 0) (v := .int dleak) FC hKn hP i_X0 0 rfl rfl 4 (by decide) b_60 rfl dX0_inTheMean_9 ?_
  refine lv_isub hx hb dX0_inTheMean_12 ?_
  refine lv_topi (fun z2 e_z2 => ?_)
  refine lv_iload_n hx hb dX0_inTheMean_13 rfl (lv_at hl 2 rfl) ?_
  refine lv_imul hx hb dX0_inTheMean_14 ?_
  refine lv_topi (fun z3 e_z3 => ?_)
  refine lv_iadd hx hb dX0_inTheMean_15 ?_
  refine lv_topi (fun z4 e_z4 => ?_)
  refine lv_bipush (v := 100) hx hb dX0_inTheMean_16 (by decide) ?_
  refine lv_idiv hx hb dX0_inTheMean_18 (by decide) ?_
  refine lv_topi (fun z5 e_z5 => ?_)
  exact rt_i FX ((fun k => match k with | 0 => z5 | _ => 0), (fun _ => fun _ => 0), (fun _ => fun _ => 0)) rfl trivial (hP.sub [0] rfl) (hD.sub [0] (by decide) rfl) hS (Nat.le_of_ble_eq_true rfl) (Nat.le_of_ble_eq_true rfl) dX0_inTheMean_19
set_option maxRecDepth 100000 in
set_option maxHeartbeats 4000000 in
theorem k_X0_costOfWaiting (l : Launch) (g : GG) (h0 : Nat) (dr0 : Nat) (dr1 : Nat) (dr2 : Nat) (dr3 : Nat) (dr4 : Nat) (dr5 : Nat) (dr6 : Nat) (dr7 : Nat) (dr8 : Nat) (dr9 : Nat) (dstates : Int32) (dreally : Int32) (ddays : Int32) (dheal : Int32) (dleak : Int32) (dlines : Int32) (dhearers : Int32) (dwords : Int32) (dplans : Int32) (dnews : Int32) (p1 : Int32) (p2 : Int32) (i_dstates : 0 ≤ dstates.toInt ∧ dstates.toInt ≤ 8) (i_dreally : 0 ≤ dreally.toInt ∧ dreally.toInt ≤ 7) (i_ddays : 0 ≤ ddays.toInt ∧ ddays.toInt ≤ 10) (i_dhearers : 0 ≤ dhearers.toInt ∧ dhearers.toInt ≤ 4) (i_dwords : 0 ≤ dwords.toInt ∧ dwords.toInt ≤ 8) (i_dplans : 0 ≤ dplans.toInt ∧ dplans.toInt ≤ 4) (i_dnews : 0 ≤ dnews.toInt ∧ dnews.toInt ≤ 6) (i_p2 : 0 ≤ p2.toInt ∧ p2.toInt ≤ 9) : Ct l g yX0_costOfWaiting cX0_costOfWaiting 5 (some .int) { frames := 2, cells := 0, slots := 0, locals := 36 } [.ref h0, .int p1, .int p2] [(h0, .inr (0, [.int dstates, .int dreally, .int ddays, .int dheal, .int dleak, .int dlines, .int dhearers, .int dwords, .int dplans, .int dnews, .ref dr0, .ref dr1, .ref dr2, .ref dr3, .ref dr4, .ref dr5, .ref dr6, .ref dr7, .ref dr8, .ref dr9]))] (S := (Nat → Int32) × (Nat → Nat → Int32) × (Nat → Nat → Int64)) (fun u => some (.int (u.1 0))) (fun u => True) (fun u => [(h0, .inr (0, [.int dstates, .int dreally, .int ddays, .int dheal, .int dleak, .int dlines, .int dhearers, .int dwords, .int dplans, .int dnews, .ref dr0, .ref dr1, .ref dr2, .ref dr3, .ref dr4, .ref dr5, .ref dr6, .ref dr7, .ref dr8, .ref dr9]))]) := by
  refine Ct.of (by decide) (Nat.le_of_ble_eq_true rfl) ?_
  intro p e s m below meth c A ls FX hP hD hS hl
  obtain ⟨FC, hr, hlk, hKn, hA, hnm, hZ⟩ := id FX
  have FC : CallFix p m c cX0_costOfWaiting 5 s _ BIG RX0 := FC
  obtain ⟨hx, hb, hml, hown, hB⟩ := id FC
  have hl : lv_has ls 5 [(0, .ref h0), (1, .int p1), (2, .int p2)] := hl
  refine lv_aload_n hx hb dX0_costOfWaiting_0 rfl (lv_at hl 0 rfl) ?_
  refine lv_iload_n hx hb dX0_costOfWaiting_1 rfl (lv_at hl 1 rfl) ?_
  refine lv_aload_n hx hb dX0_costOfWaiting_2 rfl (lv_at hl 0 rfl) ?_
  refine g_get (C := RX0) (T := TX0) (N := 20) (ci := 0) (v := .int ddays) FC hKn hP i_X0 0 rfl rfl 2 (by decide) b_4 rfl dX0_costOfWaiting_3 ?_
  refine lv_iconst (v := 1) hx hb dX0_costOfWaiting_6 (by decide) ?_
  refine lv_isub hx hb dX0_costOfWaiting_7 ?_
  have kc1 : (1 : Int32).toInt = 1 := by decide
  refine lv_topi (fun z1 e_z1 => ?_)
  have t_z1 : z1.toInt = ddays.toInt - ((1 : Int32)).toInt := by rw [e_z1]; exact fb_subI (by omega) (by omega)
  refine lv_iload_n hx hb dX0_costOfWaiting_8 rfl (lv_at hl 2 rfl) ?_
  refine lv_isub hx hb dX0_costOfWaiting_9 ?_
  refine lv_topi (fun z2 e_z2 => ?_)
  have t_z2 : z2.toInt = z1.toInt - p2.toInt := by rw [e_z2]; exact fb_subI (by omega) (by omega)
  refine call_V (As := [.int p1, .int z2]) (rest := []) (wr := []) FC hKn hZ (k_X0_leftOf l g h0 dr0 dr1 dr2 dr3 dr4 dr5 dr6 dr7 dr8 dr9 dstates dreally ddays dheal dleak dlines dhearers dwords dplans dnews p1 z2 (by omega) (by omega) (by omega) (by omega) (by omega) (by omega) (by omega)) m_yX0_leftOf b_61 (ci := 0) rfl rfl rfl hP hD hS hA [0] [] rfl (by decide) rfl (by decide) (by decide) rfl hl.1 rfl (Nat.le_of_ble_eq_true rfl) dX0_costOfWaiting_10 ⟨(Nat.le_of_ble_eq_true rfl), (Nat.le_of_ble_eq_true rfl)⟩ ⟨(Nat.le_of_ble_eq_true rfl), (Nat.le_of_ble_eq_true rfl)⟩ (fun u3 H locs q4 hP hD hS => ?_)
  have hP : va_P g.1 vwCl [(h0, .inr (0, [.int dstates, .int dreally, .int ddays, .int dheal, .int dleak, .int dlines, .int dhearers, .int dwords, .int dplans, .int dnews, .ref dr0, .ref dr1, .ref dr2, .ref dr3, .ref dr4, .ref dr5, .ref dr6, .ref dr7, .ref dr8, .ref dr9]))] H := hP
  have hD : va_D A [(h0, .inr (0, [.int dstates, .int dreally, .int ddays, .int dheal, .int dleak, .int dlines, .int dhearers, .int dwords, .int dplans, .int dnews, .ref dr0, .ref dr1, .ref dr2, .ref dr3, .ref dr4, .ref dr5, .ref dr6, .ref dr7, .ref dr8, .ref dr9]))] := hD
  refine W.eq (g2 := F0 m 13 ls [.int (u3.1 0)]) rfl ?_
  refine lv_istore_n (lv' := [(3, .int (u3.1 0)), (0, .ref h0), (1, .int p1), (2, .int p2)]) hx hb dX0_costOfWaiting_13 rfl hl (by decide) rfl (fun ls hl => ?_)
  refine lv_iload_n hx hb dX0_costOfWaiting_14 rfl (lv_at hl 3 rfl) ?_
  refine lv_iconst (v := 1) hx hb dX0_costOfWaiting_15 (by decide) ?_
  refine lv_isub hx hb dX0_costOfWaiting_16 ?_
  refine lv_topi (fun z5 e_z5 => ?_)
  have t_z5 : z5.toInt = p2.toInt - ((1 : Int32)).toInt := by rw [e_z5]; exact fb_subI (by omega) (by omega)
  refine lv_istore (lv' := [(4, .int z5), (3, .int (u3.1 0)), (0, .ref h0), (1, .int p1), (2, .int p2)]) hx hb dX0_costOfWaiting_17 hl (by decide) rfl (fun ls hl => ?_)
  have lp26 : ∀ (n28 : Nat) (x24 : Int32) (x25 : Int32) (H : Heap) (locs : List Loc) (ls : Array Slot), -1 ≤ x24.toInt ∧ x24.toInt ≤ 8 → (x24.toInt - 0).toNat < n28 → va_P g.1 vwCl [(h0, .inr (0, [.int dstates, .int dreally, .int ddays, .int dheal, .int dleak, .int dlines, .int dhearers, .int dwords, .int dplans, .int dnews, .ref dr0, .ref dr1, .ref dr2, .ref dr3, .ref dr4, .ref dr5, .ref dr6, .ref dr7, .ref dr8, .ref dr9]))] H → va_D A [(h0, .inr (0, [.int dstates, .int dreally, .int ddays, .int dheal, .int dleak, .int dlines, .int dhearers, .int dwords, .int dplans, .int dnews, .ref dr0, .ref dr1, .ref dr2, .ref dr3, .ref dr4, .ref dr5, .ref dr6, .ref dr7, .ref dr8, .ref dr9]))] → va_S A s.heap H locs → lv_has ls 5 [(4, .int x24), (3, .int x25), (0, .ref h0), (1, .int p1), (2, .int p2)] → W p l e { frames := 2, cells := 0, slots := 0, locals := 36 } s m ([.ref h0, .int p1, .int p2].toArray) below meth c H locs 0 0 (MQ below (QX (S := (Nat → Int32) × (Nat → Nat → Int32) × (Nat → Nat → Int64)) (fun u => some (.int (u.1 0))) (fun u => True) g (fun u => [(h0, .inr (0, [.int dstates, .int dreally, .int ddays, .int dheal, .int dleak, .int dlines, .int dhearers, .int dwords, .int dplans, .int dnews, .ref dr0, .ref dr1, .ref dr2, .ref dr3, .ref dr4, .ref dr5, .ref dr6, .ref dr7, .ref dr8, .ref dr9]))]) A) ([.ref h0, .int p1, .int p2].toArray) s 0 0 A) (F0 m 19 ls []) := by
    intro n28
    induction n28 with
    | zero =>
      intro x24 x25 H locs ls h_x24 hn29
      exact absurd hn29 (Nat.not_lt_zero _)
    | succ n28 ih27 =>
      intro x24 x25 H locs ls h_x24 hn29 hP hD hS hl
      refine lv_iload hx hb dX0_costOfWaiting_19 (lv_at hl 0 rfl) ?_
      refine lv_iconst (v := 1) hx hb dX0_costOfWaiting_21 (by decide) ?_
      refine lv_icmp_lt (tgt := 51) hx hb dX0_costOfWaiting_22 (by decide) (fun c30 => ?_) (fun c30 => ?_)
      · have c30 := k_lt (a := x24.toInt) (b := 1) rfl (by decide) c30
        refine lv_iload_n hx hb dX0_costOfWaiting_51 rfl (lv_at hl 1 rfl) ?_
        exact rt_i FX ((fun k => match k with | 0 => x25 | _ => 0), (fun _ => fun _ => 0), (fun _ => fun _ => 0)) rfl trivial (hP.sub [0] rfl) (hD.sub [0] (by decide) rfl) hS (Nat.le_of_ble_eq_true rfl) (Nat.le_of_ble_eq_true rfl) dX0_costOfWaiting_52
      · have c30 := k_nlt (a := x24.toInt) (b := 1) rfl (by decide) c30
        refine lv_aload_n hx hb dX0_costOfWaiting_25 rfl (lv_at hl 2 rfl) ?_
        refine lv_aload_n hx hb dX0_costOfWaiting_26 rfl (lv_at hl 2 rfl) ?_
        refine lv_iload_n hx hb dX0_costOfWaiting_27 rfl (lv_at hl 3 rfl) ?_
        refine lv_aload_n hx hb dX0_costOfWaiting_28 rfl (lv_at hl 2 rfl) ?_
        refine g_get (C := RX0) (T := TX0) (N := 20) (ci := 0) (v := .int ddays) FC hKn hP i_X0 0 rfl rfl 2 (by decide) b_4 rfl dX0_costOfWaiting_29 ?_
        refine lv_iconst (v := 1) hx hb dX0_costOfWaiting_32 (by decide) ?_
        refine lv_isub hx hb dX0_costOfWaiting_33 ?_
        refine lv_topi (fun z31 e_z31 => ?_)
        have t_z31 : z31.toInt = ddays.toInt - ((1 : Int32)).toInt := by rw [e_z31]; exact fb_subI (by omega) (by omega)
        refine lv_iload hx hb dX0_costOfWaiting_34 (lv_at hl 0 rfl) ?_
        refine lv_isub hx hb dX0_costOfWaiting_36 ?_
        refine lv_topi (fun z32 e_z32 => ?_)
        have t_z32 : z32.toInt = z31.toInt - x24.toInt := by rw [e_z32]; exact fb_subI (by omega) (by omega)
        refine call_V (As := [.int p1, .int z32]) (rest := [.ref h0]) (wr := []) FC hKn hZ (k_X0_leftOf l g h0 dr0 dr1 dr2 dr3 dr4 dr5 dr6 dr7 dr8 dr9 dstates dreally ddays dheal dleak dlines dhearers dwords dplans dnews p1 z32 (by omega) (by omega) (by omega) (by omega) (by omega) (by omega) (by omega)) m_yX0_leftOf b_61 (ci := 0) rfl rfl rfl hP hD hS hA [0] [] rfl (by decide) rfl (by decide) (by decide) rfl hl.1 rfl (Nat.le_of_ble_eq_true rfl) dX0_costOfWaiting_37 ⟨(Nat.le_of_ble_eq_true rfl), (Nat.le_of_ble_eq_true rfl)⟩ ⟨(Nat.le_of_ble_eq_true rfl), (Nat.le_of_ble_eq_true rfl)⟩ (fun u33 H locs q34 hP hD hS => ?_)
        have hP : va_P g.1 vwCl [(h0, .inr (0, [.int dstates, .int dreally, .int ddays, .int dheal, .int dleak, .int dlines, .int dhearers, .int dwords, .int dplans, .int dnews, .ref dr0, .ref dr1, .ref dr2, .ref dr3, .ref dr4, .ref dr5, .ref dr6, .ref dr7, .ref dr8, .ref dr9]))] H := hP
        have hD : va_D A [(h0, .inr (0, [.int dstates, .int dreally, .int ddays, .int dheal, .int dleak, .int dlines, .int dhearers, .int dwords, .int dplans, .int dnews, .ref dr0, .ref dr1, .ref dr2, .ref dr3, .ref dr4, .ref dr5, .ref dr6, .ref dr7, .ref dr8, .ref dr9]))] := hD
        refine W.eq (g2 := F0 m 40 ls [.int (u33.1 0), .ref h0]) rfl ?_
        refine lv_iload_n hx hb dX0_costOfWaiting_40 rfl (lv_at hl 1 rfl) ?_
        refine call_V (As := [.int (u33.1 0), .int x25]) (rest := []) (wr := []) FC hKn hZ (k_X0_inTheMean l g h0 dr0 dr1 dr2 dr3 dr4 dr5 dr6 dr7 dr8 dr9 dstates dreally ddays dheal dleak dlines dhearers dwords dplans dnews (u33.1 0) x25 (by omega) (by omega) (by omega) (by omega) (by omega) (by omega) (by omega)) m_yX0_inTheMean b_62 (ci := 0) rfl rfl rfl hP hD hS hA [0] [] rfl (by decide) rfl (by decide) (by decide) rfl hl.1 rfl (Nat.le_of_ble_eq_true rfl) dX0_costOfWaiting_41 ⟨(Nat.le_of_ble_eq_true rfl), (Nat.le_of_ble_eq_true rfl)⟩ ⟨(Nat.le_of_ble_eq_true rfl), (Nat.le_of_ble_eq_true rfl)⟩ (fun u35 H locs q36 hP hD hS => ?_)
        have hP : va_P g.1 vwCl [(h0, .inr (0, [.int dstates, .int dreally, .int ddays, .int dheal, .int dleak, .int dlines, .int dhearers, .int dwords, .int dplans, .int dnews, .ref dr0, .ref dr1, .ref dr2, .ref dr3, .ref dr4, .ref dr5, .ref dr6, .ref dr7, .ref dr8, .ref dr9]))] H := hP
        have hD : va_D A [(h0, .inr (0, [.int dstates, .int dreally, .int ddays, .int dheal, .int dleak, .int dlines, .int dhearers, .int dwords, .int dplans, .int dnews, .ref dr0, .ref dr1, .ref dr2, .ref dr3, .ref dr4, .ref dr5, .ref dr6, .ref dr7, .ref dr8, .ref dr9]))] := hD
        refine W.eq (g2 := F0 m 44 ls [.int (u35.1 0)]) rfl ?_
        refine lv_istore_n (lv' := [(3, .int (u35.1 0)), (4, .int x24), (0, .ref h0), (1, .int p1), (2, .int p2)]) hx hb dX0_costOfWaiting_44 rfl hl (by decide) rfl (fun ls hl => ?_)
        obtain ⟨z37, e_z37⟩ : ∃ y : Int32, y = x24 + (-1) := ⟨_, rfl⟩
        have t_z37 : z37.toInt = x24.toInt + (-1) := by rw [e_z37]; exact addk (by decide) (by omega) (by omega)
        refine lv_iinc (v := z37) (lv' := [(4, .int z37), (3, .int (u35.1 0)), (0, .ref h0), (1, .int p1), (2, .int p2)]) hx hb dX0_costOfWaiting_45 hl (k := 1) rfl (by rw [e_z37]; rfl) (by decide) rfl (fun ls hl => ?_)
        refine lv_goto (tgt := 19) hx hb dX0_costOfWaiting_48 (by decide) ?_
        exact ih27 z37 (u35.1 0) _ _ ls (by omega) (by omega) hP hD hS (lv_sub hl [0, 1, 2, 3, 4] rfl)
  exact lp26 _ z5 (u3.1 0) _ _ ls (by omega) (Nat.lt_succ_self _) hP hD hS (lv_sub hl [0, 1, 2, 3, 4] rfl)
set_option maxRecDepth 100000 in
set_option maxHeartbeats 4000000 in
theorem k_X0_sharpest (l : Launch) (g : GG) (h0 : Nat) (dr0 : Nat) (dr1 : Nat) (dr2 : Nat) (dr3 : Nat) (dr4 : Nat) (dr5 : Nat) (dr6 : Nat) (dr7 : Nat) (dr8 : Nat) (dr9 : Nat) (dstates : Int32) (dreally : Int32) (ddays : Int32) (dheal : Int32) (dleak : Int32) (dlines : Int32) (dhearers : Int32) (dwords : Int32) (dplans : Int32) (dnews : Int32) (dmeanings : Nat → Int32) (p1 : Int32) (i_dstates : 0 ≤ dstates.toInt ∧ dstates.toInt ≤ 8) (i_dreally : 0 ≤ dreally.toInt ∧ dreally.toInt ≤ 7) (i_ddays : 0 ≤ ddays.toInt ∧ ddays.toInt ≤ 10) (i_dhearers : 0 ≤ dhearers.toInt ∧ dhearers.toInt ≤ 4) (i_dwords : 0 ≤ dwords.toInt ∧ dwords.toInt ≤ 8) (i_dplans : 0 ≤ dplans.toInt ∧ dplans.toInt ≤ 4) (i_dnews : 0 ≤ dnews.toInt ∧ dnews.toInt ≤ 6) (i_dmeanings : ab dmeanings 8 0 255) : Ct l g yX0_sharpest cX0_sharpest 4 (some .int) { frames := 1, cells := 0, slots := 0, locals := 20 } [.ref h0, .int p1] [(h0, .inr (0, [.int dstates, .int dreally, .int ddays, .int dheal, .int dleak, .int dlines, .int dhearers, .int dwords, .int dplans, .int dnews, .ref dr0, .ref dr1, .ref dr2, .ref dr3, .ref dr4, .ref dr5, .ref dr6, .ref dr7, .ref dr8, .ref dr9])), (dr5, .inl (g.2 0, 8, .inl dmeanings))] (S := (Nat → Int32) × (Nat → Nat → Int32) × (Nat → Nat → Int64)) (fun u => some (.int (u.1 0))) (fun u => True) (fun u => [(h0, .inr (0, [.int dstates, .int dreally, .int ddays, .int dheal, .int dleak, .int dlines, .int dhearers, .int dwords, .int dplans, .int dnews, .ref dr0, .ref dr1, .ref dr2, .ref dr3, .ref dr4, .ref dr5, .ref dr6, .ref dr7, .ref dr8, .ref dr9])), (dr5, .inl (g.2 0, 8, .inl dmeanings))]) := by
  refine Ct.of (by decide) (Nat.le_of_ble_eq_true rfl) ?_
  intro p e s m below meth c A ls FX hP hD hS hl
  obtain ⟨FC, hr, hlk, hKn, hA, hnm, hZ⟩ := id FX
  have FC : CallFix p m c cX0_sharpest 4 s _ BIG RX0 := FC
  obtain ⟨hx, hb, hml, hown, hB⟩ := id FC
  have hl : lv_has ls 4 [(0, .ref h0), (1, .int p1)] := hl
  refine lv_aload_n hx hb dX0_sharpest_0 rfl (lv_at hl 0 rfl) ?_
  refine call_V (As := []) (rest := []) (wr := [(dr5, .inl (g.2 0, 8, .inl dmeanings))]) FC hKn hZ (k_X0_everything l g h0 dr0 dr1 dr2 dr3 dr4 dr5 dr6 dr7 dr8 dr9 dstates dreally ddays dheal dleak dlines dhearers dwords dplans dnews (by omega) (by omega) (by omega) (by omega) (by omega) (by omega) (by omega)) m_yX0_everything b_9 (ci := 0) rfl rfl rfl hP hD hS hA [0] [1] rfl (by decide) rfl (by decide) (by decide) rfl hl.1 rfl (Nat.le_of_ble_eq_true rfl) dX0_sharpest_1 ⟨(Nat.le_of_ble_eq_true rfl), (Nat.le_of_ble_eq_true rfl)⟩ ⟨(Nat.le_of_ble_eq_true rfl), (Nat.le_of_ble_eq_true rfl)⟩ (fun u1 H locs q2 hP hD hS => ?_)
  have q2_0 : 0 ≤ (u1.1 0).toInt ∧ (u1.1 0).toInt ≤ 255 := q2
  have hP : va_P g.1 vwCl [(dr5, .inl (g.2 0, 8, .inl dmeanings)), (h0, .inr (0, [.int dstates, .int dreally, .int ddays, .int dheal, .int dleak, .int dlines, .int dhearers, .int dwords, .int dplans, .int dnews, .ref dr0, .ref dr1, .ref dr2, .ref dr3, .ref dr4, .ref dr5, .ref dr6, .ref dr7, .ref dr8, .ref dr9]))] H := hP
  have hD : va_D A [(dr5, .inl (g.2 0, 8, .inl dmeanings)), (h0, .inr (0, [.int dstates, .int dreally, .int ddays, .int dheal, .int dleak, .int dlines, .int dhearers, .int dwords, .int dplans, .int dnews, .ref dr0, .ref dr1, .ref dr2, .ref dr3, .ref dr4, .ref dr5, .ref dr6, .ref dr7, .ref dr8, .ref dr9]))] := hD
  refine W.eq (g2 := F0 m 4 ls [.int (u1.1 0)]) rfl ?_
  refine lv_istore_n (lv' := [(2, .int (u1.1 0)), (0, .ref h0), (1, .int p1)]) hx hb dX0_sharpest_4 rfl hl (by decide) rfl (fun ls hl => ?_)
  refine lv_iconst (v := 0) hx hb dX0_sharpest_5 (by decide) ?_
  refine lv_istore_n (lv' := [(3, .int 0), (2, .int (u1.1 0)), (0, .ref h0), (1, .int p1)]) hx hb dX0_sharpest_6 rfl hl (by decide) rfl (fun ls hl => ?_)
  have lp81 : ∀ (n83 : Nat) (x79 : Int32) (x80 : Int32) (H : Heap) (locs : List Loc) (ls : Array Slot), 0 ≤ x79.toInt ∧ x79.toInt ≤ 8 → 0 ≤ x80.toInt ∧ x80.toInt ≤ 255 → (8 - x79.toInt).toNat < n83 → va_P g.1 vwCl [(dr5, .inl (g.2 0, 8, .inl dmeanings)), (h0, .inr (0, [.int dstates, .int dreally, .int ddays, .int dheal, .int dleak, .int dlines, .int dhearers, .int dwords, .int dplans, .int dnews, .ref dr0, .ref dr1, .ref dr2, .ref dr3, .ref dr4, .ref dr5, .ref dr6, .ref dr7, .ref dr8, .ref dr9]))] H → va_D A [(dr5, .inl (g.2 0, 8, .inl dmeanings)), (h0, .inr (0, [.int dstates, .int dreally, .int ddays, .int dheal, .int dleak, .int dlines, .int dhearers, .int dwords, .int dplans, .int dnews, .ref dr0, .ref dr1, .ref dr2, .ref dr3, .ref dr4, .ref dr5, .ref dr6, .ref dr7, .ref dr8, .ref dr9]))] → va_S A s.heap H locs → lv_has ls 4 [(3, .int x79), (2, .int x80), (0, .ref h0), (1, .int p1)] → W p l e { frames := 1, cells := 0, slots := 0, locals := 20 } s m ([.ref h0, .int p1].toArray) below meth c H locs 0 0 (MQ below (QX (S := (Nat → Int32) × (Nat → Nat → Int32) × (Nat → Nat → Int64)) (fun u => some (.int (u.1 0))) (fun u => True) g (fun u => [(h0, .inr (0, [.int dstates, .int dreally, .int ddays, .int dheal, .int dleak, .int dlines, .int dhearers, .int dwords, .int dplans, .int dnews, .ref dr0, .ref dr1, .ref dr2, .ref dr3, .ref dr4, .ref dr5, .ref dr6, .ref dr7, .ref dr8, .ref dr9])), (dr5, .inl (g.2 0, 8, .inl dmeanings))]) A) ([.ref h0, .int p1].toArray) s 0 0 A) (F0 m 7 ls []) := by
    intro n83
    induction n83 with
    | zero =>
      intro x79 x80 H locs ls h_x79 h_x80 hn84
      exact absurd hn84 (Nat.not_lt_zero _)
    | succ n83 ih82 =>
      intro x79 x80 H locs ls h_x79 h_x80 hn84 hP hD hS hl
      refine lv_iload_n hx hb dX0_sharpest_7 rfl (lv_at hl 0 rfl) ?_
      refine lv_aload_n hx hb dX0_sharpest_8 rfl (lv_at hl 2 rfl) ?_
      refine g_get (C := RX0) (T := TX0) (N := 20) (ci := 0) (v := .int dwords) FC hKn hP i_X0 1 rfl rfl 7 (by decide) b_5 rfl dX0_sharpest_9 ?_
      refine lv_icmp_ge (tgt := 44) hx hb dX0_sharpest_12 (by decide) (fun c85 => ?_) (fun c85 => ?_)
      · have c85 := k_le (a := dwords.toInt) (b := x79.toInt) rfl rfl c85
        refine lv_iload_n hx hb dX0_sharpest_44 rfl (lv_at hl 1 rfl) ?_
        exact rt_i FX ((fun k => match k with | 0 => x80 | _ => 0), (fun _ => fun _ => 0), (fun _ => fun _ => 0)) rfl trivial (hP.sub [1, 0] rfl) (hD.sub [1, 0] (by decide) rfl) hS (Nat.le_of_ble_eq_true rfl) (Nat.le_of_ble_eq_true rfl) dX0_sharpest_45
      · have c85 := k_nle (a := dwords.toInt) (b := x79.toInt) rfl rfl c85
        refine lv_aload_n hx hb dX0_sharpest_15 rfl (lv_at hl 2 rfl) ?_
        refine g_get (C := RX0) (T := TX0) (N := 20) (ci := 0) (v := .ref dr5) FC hKn hP i_X0 1 rfl rfl 15 (by decide) b_11 rfl dX0_sharpest_16 ?_
        refine lv_iload_n hx hb dX0_sharpest_19 rfl (lv_at hl 0 rfl) ?_
        refine va_iald hx hb hKn.1 hP 0 0 rfl rfl (vp_in_iff.mpr ⟨by omega, by omega⟩) dX0_sharpest_20 ?_
        refine lv_topi (fun z86 e_z86 => ?_)
        have t_z86 : 0 ≤ z86.toInt ∧ z86.toInt ≤ 255 := by rw [e_z86]; exact i_dmeanings _ (clt (by omega) (by omega))
        refine lv_iload_n hx hb dX0_sharpest_21 rfl (lv_at hl 3 rfl) ?_
        refine lv_ishr hx hb dX0_sharpest_22 ?_
        refine lv_topi (fun z87 e_z87 => ?_)
        refine lv_iconst (v := 1) hx hb dX0_sharpest_23 (by decide) ?_
        refine lv_iand hx hb dX0_sharpest_24 ?_
        have kc1 : (1 : Int32).toInt = 1 := by decide
        refine lv_topi (fun z88 e_z88 => ?_)
        have t_z88 : 0 ≤ z88.toInt ∧ z88.toInt ≤ 1 := by rw [e_z88]; exact and_r (by omega) (by omega)
        refine lv_iconst (v := 1) hx hb dX0_sharpest_25 (by decide) ?_
        refine lv_icmp_ne (tgt := 38) hx hb dX0_sharpest_26 (by decide) (fun c89 => ?_) (fun c89 => ?_)
        · have c89 := k_ne (a := z88.toInt) (b := 1) rfl (by decide) c89
          obtain ⟨z90, e_z90⟩ : ∃ y : Int32, y = x79 + 1 := ⟨_, rfl⟩
          have t_z90 : z90.toInt = x79.toInt + 1 := by rw [e_z90]; exact addk (by decide) (by omega) (by omega)
          refine lv_iinc (v := z90) (lv' := [(3, .int z90), (2, .int x80), (0, .ref h0), (1, .int p1)]) hx hb dX0_sharpest_38 hl (k := 0) rfl (by rw [e_z90]; rfl) (by decide) rfl (fun ls hl => ?_)
          refine lv_goto (tgt := 7) hx hb dX0_sharpest_41 (by decide) ?_
          exact ih82 z90 x80 _ _ ls (by omega) (by omega) (by omega) hP hD hS (lv_sub hl [0, 1, 2, 3] rfl)
        · have c89 := k_eq (a := z88.toInt) (b := 1) rfl (by decide) c89
          refine lv_iload_n hx hb dX0_sharpest_29 rfl (lv_at hl 1 rfl) ?_
          refine lv_aload_n hx hb dX0_sharpest_30 rfl (lv_at hl 2 rfl) ?_
          refine g_get (C := RX0) (T := TX0) (N := 20) (ci := 0) (v := .ref dr5) FC hKn hP i_X0 1 rfl rfl 15 (by decide) b_11 rfl dX0_sharpest_31 ?_
          refine lv_iload_n hx hb dX0_sharpest_34 rfl (lv_at hl 0 rfl) ?_
          refine va_iald hx hb hKn.1 hP 0 0 rfl rfl (vp_in_iff.mpr ⟨by omega, by omega⟩) dX0_sharpest_35 ?_
          refine tp_i (v := z86) e_z86.symm ?_
          refine lv_iand hx hb dX0_sharpest_36 ?_
          refine lv_topi (fun z91 e_z91 => ?_)
          have t_z91 : 0 ≤ z91.toInt ∧ z91.toInt ≤ 255 := by rw [e_z91]; exact and_l (by omega) (by omega)
          refine lv_istore_n (lv' := [(2, .int z91), (3, .int x79), (0, .ref h0), (1, .int p1)]) hx hb dX0_sharpest_37 rfl hl (by decide) rfl (fun ls hl => ?_)
          obtain ⟨z92, e_z92⟩ : ∃ y : Int32, y = x79 + 1 := ⟨_, rfl⟩
          have t_z92 : z92.toInt = x79.toInt + 1 := by rw [e_z92]; exact addk (by decide) (by omega) (by omega)
          refine lv_iinc (v := z92) (lv' := [(3, .int z92), (2, .int z91), (0, .ref h0), (1, .int p1)]) hx hb dX0_sharpest_38 hl (k := 1) rfl (by rw [e_z92]; rfl) (by decide) rfl (fun ls hl => ?_)
          refine lv_goto (tgt := 7) hx hb dX0_sharpest_41 (by decide) ?_
          exact ih82 z92 z91 _ _ ls (by omega) (by omega) (by omega) hP hD hS (lv_sub hl [0, 1, 2, 3] rfl)
  have kc0 : (0 : Int32).toInt = 0 := by decide
  exact lp81 _ (0 : Int32) (u1.1 0) _ _ ls (by decide) (by omega) (Nat.lt_succ_self _) hP hD hS (lv_sub hl [0, 1, 2, 3] rfl)
set_option maxRecDepth 100000 in
set_option maxHeartbeats 4000000 in
theorem k_X0_beliefBehindPlan (l : Launch) (g : GG) (h0 : Nat) (dr0 : Nat) (dr1 : Nat) (dr2 : Nat) (dr3 : Nat) (dr4 : Nat) (dr5 : Nat) (dr6 : Nat) (dr7 : Nat) (dr8 : Nat) (dr9 : Nat) (dstates : Int32) (dreally : Int32) (ddays : Int32) (dheal : Int32) (dleak : Int32) (dlines : Int32) (dhearers : Int32) (dwords : Int32) (dplans : Int32) (dnews : Int32) (dmeanings : Nat → Int32) (dplanSizes : Nat → Int32) (dplanWords : Nat → Int32) (p1 : Int32) (i_dstates : 0 ≤ dstates.toInt ∧ dstates.toInt ≤ 8) (i_dreally : 0 ≤ dreally.toInt ∧ dreally.toInt ≤ 7) (i_ddays : 0 ≤ ddays.toInt ∧ ddays.toInt ≤ 10) (i_dhearers : 0 ≤ dhearers.toInt ∧ dhearers.toInt ≤ 4) (i_dwords : 0 ≤ dwords.toInt ∧ dwords.toInt ≤ 8) (i_dplans : 0 ≤ dplans.toInt ∧ dplans.toInt ≤ 4) (i_dnews : 0 ≤ dnews.toInt ∧ dnews.toInt ≤ 6) (i_dmeanings : ab dmeanings 8 0 255) (i_dplanSizes : ab dplanSizes 4 0 5) (i_p1 : 0 ≤ p1.toInt ∧ p1.toInt ≤ 3) : Ct l g yX0_beliefBehindPlan cX0_beliefBehindPlan 4 (some .int) { frames := 2, cells := 0, slots := 0, locals := 44 } [.ref h0, .int p1] [(h0, .inr (0, [.int dstates, .int dreally, .int ddays, .int dheal, .int dleak, .int dlines, .int dhearers, .int dwords, .int dplans, .int dnews, .ref dr0, .ref dr1, .ref dr2, .ref dr3, .ref dr4, .ref dr5, .ref dr6, .ref dr7, .ref dr8, .ref dr9])), (dr5, .inl (g.2 0, 8, .inl dmeanings)), (dr6, .inl (g.2 0, 4, .inl dplanSizes)), (dr7, .inl (g.2 0, 20, .inl dplanWords))] (S := (Nat → Int32) × (Nat → Nat → Int32) × (Nat → Nat → Int64)) (fun u => some (.int (u.1 0))) (fun u => (0 ≤ (u.1 0).toInt ∧ (u.1 0).toInt ≤ 255)) (fun u => [(h0, .inr (0, [.int dstates, .int dreally, .int ddays, .int dheal, .int dleak, .int dlines, .int dhearers, .int dwords, .int dplans, .int dnews, .ref dr0, .ref dr1, .ref dr2, .ref dr3, .ref dr4, .ref dr5, .ref dr6, .ref dr7, .ref dr8, .ref dr9])), (dr5, .inl (g.2 0, 8, .inl dmeanings)), (dr6, .inl (g.2 0, 4, .inl dplanSizes)), (dr7, .inl (g.2 0, 20, .inl dplanWords))]) := by
  refine Ct.of (by decide) (Nat.le_of_ble_eq_true rfl) ?_
  intro p e s m below meth c A ls FX hP hD hS hl
  obtain ⟨FC, hr, hlk, hKn, hA, hnm, hZ⟩ := id FX
  have FC : CallFix p m c cX0_beliefBehindPlan 4 s _ BIG RX0 := FC
  obtain ⟨hx, hb, hml, hown, hB⟩ := id FC
  have hl : lv_has ls 4 [(0, .ref h0), (1, .int p1)] := hl
  refine lv_aload_n hx hb dX0_beliefBehindPlan_0 rfl (lv_at hl 0 rfl) ?_
  refine call_V (As := []) (rest := []) (wr := [(dr5, .inl (g.2 0, 8, .inl dmeanings)), (dr6, .inl (g.2 0, 4, .inl dplanSizes)), (dr7, .inl (g.2 0, 20, .inl dplanWords))]) FC hKn hZ (k_X0_everything l g h0 dr0 dr1 dr2 dr3 dr4 dr5 dr6 dr7 dr8 dr9 dstates dreally ddays dheal dleak dlines dhearers dwords dplans dnews (by omega) (by omega) (by omega) (by omega) (by omega) (by omega) (by omega)) m_yX0_everything b_9 (ci := 0) rfl rfl rfl hP hD hS hA [0] [1, 2, 3] rfl (by decide) rfl (by decide) (by decide) rfl hl.1 rfl (Nat.le_of_ble_eq_true rfl) dX0_beliefBehindPlan_1 ⟨(Nat.le_of_ble_eq_true rfl), (Nat.le_of_ble_eq_true rfl)⟩ ⟨(Nat.le_of_ble_eq_true rfl), (Nat.le_of_ble_eq_true rfl)⟩ (fun u1 H locs q2 hP hD hS => ?_)
  have q2_0 : 0 ≤ (u1.1 0).toInt ∧ (u1.1 0).toInt ≤ 255 := q2
  have hP : va_P g.1 vwCl [(dr5, .inl (g.2 0, 8, .inl dmeanings)), (dr6, .inl (g.2 0, 4, .inl dplanSizes)), (dr7, .inl (g.2 0, 20, .inl dplanWords)), (h0, .inr (0, [.int dstates, .int dreally, .int ddays, .int dheal, .int dleak, .int dlines, .int dhearers, .int dwords, .int dplans, .int dnews, .ref dr0, .ref dr1, .ref dr2, .ref dr3, .ref dr4, .ref dr5, .ref dr6, .ref dr7, .ref dr8, .ref dr9]))] H := hP
  have hD : va_D A [(dr5, .inl (g.2 0, 8, .inl dmeanings)), (dr6, .inl (g.2 0, 4, .inl dplanSizes)), (dr7, .inl (g.2 0, 20, .inl dplanWords)), (h0, .inr (0, [.int dstates, .int dreally, .int ddays, .int dheal, .int dleak, .int dlines, .int dhearers, .int dwords, .int dplans, .int dnews, .ref dr0, .ref dr1, .ref dr2, .ref dr3, .ref dr4, .ref dr5, .ref dr6, .ref dr7, .ref dr8, .ref dr9]))] := hD
  refine W.eq (g2 := F0 m 4 ls [.int (u1.1 0)]) rfl ?_
  refine lv_istore_n (lv' := [(2, .int (u1.1 0)), (0, .ref h0), (1, .int p1)]) hx hb dX0_beliefBehindPlan_4 rfl hl (by decide) rfl (fun ls hl => ?_)
  refine lv_iconst (v := 0) hx hb dX0_beliefBehindPlan_5 (by decide) ?_
  refine lv_istore_n (lv' := [(3, .int 0), (2, .int (u1.1 0)), (0, .ref h0), (1, .int p1)]) hx hb dX0_beliefBehindPlan_6 rfl hl (by decide) rfl (fun ls hl => ?_)
  have lp56 : ∀ (n58 : Nat) (x54 : Int32) (x55 : Int32) (H : Heap) (locs : List Loc) (ls : Array Slot), 0 ≤ x54.toInt ∧ x54.toInt ≤ 5 → 0 ≤ x55.toInt ∧ x55.toInt ≤ 255 → (5 - x54.toInt).toNat < n58 → va_P g.1 vwCl [(dr5, .inl (g.2 0, 8, .inl dmeanings)), (dr6, .inl (g.2 0, 4, .inl dplanSizes)), (dr7, .inl (g.2 0, 20, .inl dplanWords)), (h0, .inr (0, [.int dstates, .int dreally, .int ddays, .int dheal, .int dleak, .int dlines, .int dhearers, .int dwords, .int dplans, .int dnews, .ref dr0, .ref dr1, .ref dr2, .ref dr3, .ref dr4, .ref dr5, .ref dr6, .ref dr7, .ref dr8, .ref dr9]))] H → va_D A [(dr5, .inl (g.2 0, 8, .inl dmeanings)), (dr6, .inl (g.2 0, 4, .inl dplanSizes)), (dr7, .inl (g.2 0, 20, .inl dplanWords)), (h0, .inr (0, [.int dstates, .int dreally, .int ddays, .int dheal, .int dleak, .int dlines, .int dhearers, .int dwords, .int dplans, .int dnews, .ref dr0, .ref dr1, .ref dr2, .ref dr3, .ref dr4, .ref dr5, .ref dr6, .ref dr7, .ref dr8, .ref dr9]))] → va_S A s.heap H locs → lv_has ls 4 [(3, .int x54), (2, .int x55), (0, .ref h0), (1, .int p1)] → W p l e { frames := 2, cells := 0, slots := 0, locals := 44 } s m ([.ref h0, .int p1].toArray) below meth c H locs 0 0 (MQ below (QX (S := (Nat → Int32) × (Nat → Nat → Int32) × (Nat → Nat → Int64)) (fun u => some (.int (u.1 0))) (fun u => (0 ≤ (u.1 0).toInt ∧ (u.1 0).toInt ≤ 255)) g (fun u => [(h0, .inr (0, [.int dstates, .int dreally, .int ddays, .int dheal, .int dleak, .int dlines, .int dhearers, .int dwords, .int dplans, .int dnews, .ref dr0, .ref dr1, .ref dr2, .ref dr3, .ref dr4, .ref dr5, .ref dr6, .ref dr7, .ref dr8, .ref dr9])), (dr5, .inl (g.2 0, 8, .inl dmeanings)), (dr6, .inl (g.2 0, 4, .inl dplanSizes)), (dr7, .inl (g.2 0, 20, .inl dplanWords))]) A) ([.ref h0, .int p1].toArray) s 0 0 A) (F0 m 7 ls []) := by
    intro n58
    induction n58 with
    | zero =>
      intro x54 x55 H locs ls h_x54 h_x55 hn59
      exact absurd hn59 (Nat.not_lt_zero _)
    | succ n58 ih57 =>
      intro x54 x55 H locs ls h_x54 h_x55 hn59 hP hD hS hl
      refine lv_iload_n hx hb dX0_beliefBehindPlan_7 rfl (lv_at hl 0 rfl) ?_
      refine lv_aload_n hx hb dX0_beliefBehindPlan_8 rfl (lv_at hl 2 rfl) ?_
      refine g_get (C := RX0) (T := TX0) (N := 20) (ci := 0) (v := .ref dr6) FC hKn hP i_X0 3 rfl rfl 16 (by decide) b_14 rfl dX0_beliefBehindPlan_9 ?_
      refine lv_iload_n hx hb dX0_beliefBehindPlan_12 rfl (lv_at hl 3 rfl) ?_
      refine va_iald hx hb hKn.1 hP 1 0 rfl rfl (vp_in_iff.mpr ⟨by omega, by omega⟩) dX0_beliefBehindPlan_13 ?_
      refine lv_topi (fun z60 e_z60 => ?_)
      have t_z60 : 0 ≤ z60.toInt ∧ z60.toInt ≤ 5 := by rw [e_z60]; exact i_dplanSizes _ (clt (by omega) (by omega))
      refine lv_icmp_ge (tgt := 35) hx hb dX0_beliefBehindPlan_14 (by decide) (fun c61 => ?_) (fun c61 => ?_)
      · have c61 := k_le (a := z60.toInt) (b := x54.toInt) rfl rfl c61
        refine lv_iload_n hx hb dX0_beliefBehindPlan_35 rfl (lv_at hl 1 rfl) ?_
        exact rt_i FX ((fun k => match k with | 0 => x55 | _ => 0), (fun _ => fun _ => 0), (fun _ => fun _ => 0)) rfl (show 0 ≤ x55.toInt ∧ x55.toInt ≤ 255 by omega) (hP.sub [3, 0, 1, 2] rfl) (hD.sub [3, 0, 1, 2] (by decide) rfl) hS (Nat.le_of_ble_eq_true rfl) (Nat.le_of_ble_eq_true rfl) dX0_beliefBehindPlan_36
      · have c61 := k_nle (a := z60.toInt) (b := x54.toInt) rfl rfl c61
        refine lv_aload_n hx hb dX0_beliefBehindPlan_17 rfl (lv_at hl 2 rfl) ?_
        refine lv_iload_n hx hb dX0_beliefBehindPlan_18 rfl (lv_at hl 1 rfl) ?_
        refine lv_aload_n hx hb dX0_beliefBehindPlan_19 rfl (lv_at hl 2 rfl) ?_
        refine lv_iload_n hx hb dX0_beliefBehindPlan_20 rfl (lv_at hl 3 rfl) ?_
        refine lv_iload_n hx hb dX0_beliefBehindPlan_21 rfl (lv_at hl 0 rfl) ?_
        refine call_V (As := [.int p1, .int x54]) (rest := [.int x55, .ref h0]) (wr := [(dr5, .inl (g.2 0, 8, .inl dmeanings))]) FC hKn hZ (k_X0_planWord l g h0 dr0 dr1 dr2 dr3 dr4 dr5 dr6 dr7 dr8 dr9 dstates dreally ddays dheal dleak dlines dhearers dwords dplans dnews dplanSizes dplanWords p1 x54 (by omega) (by omega) (by omega) (by omega) (by omega) (by omega) (by omega) i_dplanSizes (by omega)) m_yX0_planWord b_63 (ci := 0) rfl rfl rfl hP hD hS hA [3, 1, 2] [0] rfl (by decide) rfl (by decide) (by decide) rfl hl.1 rfl (Nat.le_of_ble_eq_true rfl) dX0_beliefBehindPlan_22 ⟨(Nat.le_of_ble_eq_true rfl), (Nat.le_of_ble_eq_true rfl)⟩ ⟨(Nat.le_of_ble_eq_true rfl), (Nat.le_of_ble_eq_true rfl)⟩ (fun u62 H locs q63 hP hD hS => ?_)
        have hP : va_P g.1 vwCl [(dr5, .inl (g.2 0, 8, .inl dmeanings)), (h0, .inr (0, [.int dstates, .int dreally, .int ddays, .int dheal, .int dleak, .int dlines, .int dhearers, .int dwords, .int dplans, .int dnews, .ref dr0, .ref dr1, .ref dr2, .ref dr3, .ref dr4, .ref dr5, .ref dr6, .ref dr7, .ref dr8, .ref dr9])), (dr6, .inl (g.2 0, 4, .inl dplanSizes)), (dr7, .inl (g.2 0, 20, .inl dplanWords))] H := hP
        have hD : va_D A [(dr5, .inl (g.2 0, 8, .inl dmeanings)), (h0, .inr (0, [.int dstates, .int dreally, .int ddays, .int dheal, .int dleak, .int dlines, .int dhearers, .int dwords, .int dplans, .int dnews, .ref dr0, .ref dr1, .ref dr2, .ref dr3, .ref dr4, .ref dr5, .ref dr6, .ref dr7, .ref dr8, .ref dr9])), (dr6, .inl (g.2 0, 4, .inl dplanSizes)), (dr7, .inl (g.2 0, 20, .inl dplanWords))] := hD
        refine W.eq (g2 := F0 m 25 ls [.int (u62.1 0), .int x55, .ref h0]) rfl ?_
        refine call_V (As := [.int x55, .int (u62.1 0)]) (rest := []) (wr := [(dr6, .inl (g.2 0, 4, .inl dplanSizes)), (dr7, .inl (g.2 0, 20, .inl dplanWords))]) FC hKn hZ (k_X0_nextBelief l g h0 dr0 dr1 dr2 dr3 dr4 dr5 dr6 dr7 dr8 dr9 dstates dreally ddays dheal dleak dlines dhearers dwords dplans dnews dmeanings x55 (u62.1 0) (by omega) (by omega) (by omega) (by omega) (by omega) (by omega) (by omega) i_dmeanings (by omega)) m_yX0_nextBelief b_64 (ci := 0) rfl rfl rfl hP hD hS hA [1, 0] [2, 3] rfl (by decide) rfl (by decide) (by decide) rfl hl.1 rfl (Nat.le_of_ble_eq_true rfl) dX0_beliefBehindPlan_25 ⟨(Nat.le_of_ble_eq_true rfl), (Nat.le_of_ble_eq_true rfl)⟩ ⟨(Nat.le_of_ble_eq_true rfl), (Nat.le_of_ble_eq_true rfl)⟩ (fun u64 H locs q65 hP hD hS => ?_)
        have q65_0 : 0 ≤ (u64.1 0).toInt ∧ (u64.1 0).toInt ≤ 255 := q65
        have hP : va_P g.1 vwCl [(dr6, .inl (g.2 0, 4, .inl dplanSizes)), (dr7, .inl (g.2 0, 20, .inl dplanWords)), (h0, .inr (0, [.int dstates, .int dreally, .int ddays, .int dheal, .int dleak, .int dlines, .int dhearers, .int dwords, .int dplans, .int dnews, .ref dr0, .ref dr1, .ref dr2, .ref dr3, .ref dr4, .ref dr5, .ref dr6, .ref dr7, .ref dr8, .ref dr9])), (dr5, .inl (g.2 0, 8, .inl dmeanings))] H := hP
        have hD : va_D A [(dr6, .inl (g.2 0, 4, .inl dplanSizes)), (dr7, .inl (g.2 0, 20, .inl dplanWords)), (h0, .inr (0, [.int dstates, .int dreally, .int ddays, .int dheal, .int dleak, .int dlines, .int dhearers, .int dwords, .int dplans, .int dnews, .ref dr0, .ref dr1, .ref dr2, .ref dr3, .ref dr4, .ref dr5, .ref dr6, .ref dr7, .ref dr8, .ref dr9])), (dr5, .inl (g.2 0, 8, .inl dmeanings))] := hD
        refine W.eq (g2 := F0 m 28 ls [.int (u64.1 0)]) rfl ?_
        refine lv_istore_n (lv' := [(2, .int (u64.1 0)), (3, .int x54), (0, .ref h0), (1, .int p1)]) hx hb dX0_beliefBehindPlan_28 rfl hl (by decide) rfl (fun ls hl => ?_)
        obtain ⟨z66, e_z66⟩ : ∃ y : Int32, y = x54 + 1 := ⟨_, rfl⟩
        have t_z66 : z66.toInt = x54.toInt + 1 := by rw [e_z66]; exact addk (by decide) (by omega) (by omega)
        refine lv_iinc (v := z66) (lv' := [(3, .int z66), (2, .int (u64.1 0)), (0, .ref h0), (1, .int p1)]) hx hb dX0_beliefBehindPlan_29 hl (k := 1) rfl (by rw [e_z66]; rfl) (by decide) rfl (fun ls hl => ?_)
        refine lv_goto (tgt := 7) hx hb dX0_beliefBehindPlan_32 (by decide) ?_
        exact ih57 z66 (u64.1 0) _ _ ls (by omega) (by omega) (by omega) (hP.sub [3, 0, 1, 2] rfl) (hD.sub [3, 0, 1, 2] (by decide) rfl) hS (lv_sub hl [0, 1, 2, 3] rfl)
  have kc0 : (0 : Int32).toInt = 0 := by decide
  exact lp56 _ (0 : Int32) (u1.1 0) _ _ ls (by decide) (by omega) (Nat.lt_succ_self _) hP hD hS (lv_sub hl [0, 1, 2, 3] rfl)
set_option maxRecDepth 100000 in
set_option maxHeartbeats 4000000 in
theorem k_X0_plansWith (l : Launch) (g : GG) (h0 : Nat) (dr0 : Nat) (dr1 : Nat) (dr2 : Nat) (dr3 : Nat) (dr4 : Nat) (dr5 : Nat) (dr6 : Nat) (dr7 : Nat) (dr8 : Nat) (dr9 : Nat) (dstates : Int32) (dreally : Int32) (ddays : Int32) (dheal : Int32) (dleak : Int32) (dlines : Int32) (dhearers : Int32) (dwords : Int32) (dplans : Int32) (dnews : Int32) (dplanSizes : Nat → Int32) (dplanWords : Nat → Int32) (p1 : Int32) (p2 : Int32) (p3 : Int32) (i_dstates : 0 ≤ dstates.toInt ∧ dstates.toInt ≤ 8) (i_dreally : 0 ≤ dreally.toInt ∧ dreally.toInt ≤ 7) (i_ddays : 0 ≤ ddays.toInt ∧ ddays.toInt ≤ 10) (i_dhearers : 0 ≤ dhearers.toInt ∧ dhearers.toInt ≤ 4) (i_dwords : 0 ≤ dwords.toInt ∧ dwords.toInt ≤ 8) (i_dplans : 0 ≤ dplans.toInt ∧ dplans.toInt ≤ 4) (i_dnews : 0 ≤ dnews.toInt ∧ dnews.toInt ≤ 6) (i_dplanSizes : ab dplanSizes 4 0 5) : Ct l g yX0_plansWith cX0_plansWith 6 (some .int) { frames := 1, cells := 0, slots := 0, locals := 22 } [.ref h0, .int p1, .int p2, .int p3] [(h0, .inr (0, [.int dstates, .int dreally, .int ddays, .int dheal, .int dleak, .int dlines, .int dhearers, .int dwords, .int dplans, .int dnews, .ref dr0, .ref dr1, .ref dr2, .ref dr3, .ref dr4, .ref dr5, .ref dr6, .ref dr7, .ref dr8, .ref dr9])), (dr6, .inl (g.2 0, 4, .inl dplanSizes)), (dr7, .inl (g.2 0, 20, .inl dplanWords))] (S := (Nat → Int32) × (Nat → Nat → Int32) × (Nat → Nat → Int64)) (fun u => some (.int (u.1 0))) (fun u => (0 ≤ (u.1 0).toInt ∧ (u.1 0).toInt ≤ 15)) (fun u => [(h0, .inr (0, [.int dstates, .int dreally, .int ddays, .int dheal, .int dleak, .int dlines, .int dhearers, .int dwords, .int dplans, .int dnews, .ref dr0, .ref dr1, .ref dr2, .ref dr3, .ref dr4, .ref dr5, .ref dr6, .ref dr7, .ref dr8, .ref dr9])), (dr6, .inl (g.2 0, 4, .inl dplanSizes)), (dr7, .inl (g.2 0, 20, .inl dplanWords))]) := by
  refine Ct.of (by decide) (Nat.le_of_ble_eq_true rfl) ?_
  intro p e s m below meth c A ls FX hP hD hS hl
  obtain ⟨FC, hr, hlk, hKn, hA, hnm, hZ⟩ := id FX
  have FC : CallFix p m c cX0_plansWith 6 s _ BIG RX0 := FC
  obtain ⟨hx, hb, hml, hown, hB⟩ := id FC
  have hl : lv_has ls 6 [(0, .ref h0), (1, .int p1), (2, .int p2), (3, .int p3)] := hl
  refine lv_iconst (v := 0) hx hb dX0_plansWith_0 (by decide) ?_
  refine lv_istore (lv' := [(4, .int 0), (0, .ref h0), (1, .int p1), (2, .int p2), (3, .int p3)]) hx hb dX0_plansWith_1 hl (by decide) rfl (fun ls hl => ?_)
  refine lv_iconst (v := 0) hx hb dX0_plansWith_3 (by decide) ?_
  refine lv_istore (lv' := [(5, .int 0), (4, .int 0), (0, .ref h0), (1, .int p1), (2, .int p2), (3, .int p3)]) hx hb dX0_plansWith_4 hl (by decide) rfl (fun ls hl => ?_)
  have lp66 : ∀ (n68 : Nat) (x64 : Int32) (x65 : Int32) (H : Heap) (locs : List Loc) (ls : Array Slot), 0 ≤ x64.toInt ∧ x64.toInt ≤ 4 → 0 ≤ x65.toInt ∧ x65.toInt ≤ 15 → (4 - x64.toInt).toNat < n68 → va_P g.1 vwCl [(h0, .inr (0, [.int dstates, .int dreally, .int ddays, .int dheal, .int dleak, .int dlines, .int dhearers, .int dwords, .int dplans, .int dnews, .ref dr0, .ref dr1, .ref dr2, .ref dr3, .ref dr4, .ref dr5, .ref dr6, .ref dr7, .ref dr8, .ref dr9])), (dr6, .inl (g.2 0, 4, .inl dplanSizes)), (dr7, .inl (g.2 0, 20, .inl dplanWords))] H → va_D A [(h0, .inr (0, [.int dstates, .int dreally, .int ddays, .int dheal, .int dleak, .int dlines, .int dhearers, .int dwords, .int dplans, .int dnews, .ref dr0, .ref dr1, .ref dr2, .ref dr3, .ref dr4, .ref dr5, .ref dr6, .ref dr7, .ref dr8, .ref dr9])), (dr6, .inl (g.2 0, 4, .inl dplanSizes)), (dr7, .inl (g.2 0, 20, .inl dplanWords))] → va_S A s.heap H locs → lv_has ls 6 [(5, .int x64), (4, .int x65), (0, .ref h0), (1, .int p1), (2, .int p2), (3, .int p3)] → W p l e { frames := 1, cells := 0, slots := 0, locals := 22 } s m ([.ref h0, .int p1, .int p2, .int p3].toArray) below meth c H locs 0 0 (MQ below (QX (S := (Nat → Int32) × (Nat → Nat → Int32) × (Nat → Nat → Int64)) (fun u => some (.int (u.1 0))) (fun u => (0 ≤ (u.1 0).toInt ∧ (u.1 0).toInt ≤ 15)) g (fun u => [(h0, .inr (0, [.int dstates, .int dreally, .int ddays, .int dheal, .int dleak, .int dlines, .int dhearers, .int dwords, .int dplans, .int dnews, .ref dr0, .ref dr1, .ref dr2, .ref dr3, .ref dr4, .ref dr5, .ref dr6, .ref dr7, .ref dr8, .ref dr9])), (dr6, .inl (g.2 0, 4, .inl dplanSizes)), (dr7, .inl (g.2 0, 20, .inl dplanWords))]) A) ([.ref h0, .int p1, .int p2, .int p3].toArray) s 0 0 A) (F0 m 6 ls []) := by
    intro n68
    induction n68 with
    | zero =>
      intro x64 x65 H locs ls h_x64 h_x65 hn69
      exact absurd hn69 (Nat.not_lt_zero _)
    | succ n68 ih67 =>
      intro x64 x65 H locs ls h_x64 h_x65 hn69 hP hD hS hl
      refine lv_iload hx hb dX0_plansWith_6 (lv_at hl 0 rfl) ?_
      refine lv_aload_n hx hb dX0_plansWith_8 rfl (lv_at hl 2 rfl) ?_
      refine g_get (C := RX0) (T := TX0) (N := 20) (ci := 0) (v := .int dplans) FC hKn hP i_X0 0 rfl rfl 8 (by decide) b_6 rfl dX0_plansWith_9 ?_
      refine lv_icmp_ge (tgt := 51) hx hb dX0_plansWith_12 (by decide) (fun c70 => ?_) (fun c70 => ?_)
      · have c70 := k_le (a := dplans.toInt) (b := x64.toInt) rfl rfl c70
        refine lv_iload hx hb dX0_plansWith_51 (lv_at hl 1 rfl) ?_
        exact rt_i FX ((fun k => match k with | 0 => x65 | _ => 0), (fun _ => fun _ => 0), (fun _ => fun _ => 0)) rfl (show 0 ≤ x65.toInt ∧ x65.toInt ≤ 15 by omega) (hP.sub [0, 1, 2] rfl) (hD.sub [0, 1, 2] (by decide) rfl) hS (Nat.le_of_ble_eq_true rfl) (Nat.le_of_ble_eq_true rfl) dX0_plansWith_53
      · have c70 := k_nle (a := dplans.toInt) (b := x64.toInt) rfl rfl c70
        refine lv_iload_n hx hb dX0_plansWith_15 rfl (lv_at hl 3 rfl) ?_
        refine lv_iload hx hb dX0_plansWith_16 (lv_at hl 0 rfl) ?_
        refine lv_ishr hx hb dX0_plansWith_18 ?_
        refine lv_topi (fun z71 e_z71 => ?_)
        refine lv_iconst (v := 1) hx hb dX0_plansWith_19 (by decide) ?_
        refine lv_iand hx hb dX0_plansWith_20 ?_
        have kc1 : (1 : Int32).toInt = 1 := by decide
        refine lv_topi (fun z72 e_z72 => ?_)
        have t_z72 : 0 ≤ z72.toInt ∧ z72.toInt ≤ 1 := by rw [e_z72]; exact and_r (by omega) (by omega)
        refine lv_iconst (v := 1) hx hb dX0_plansWith_21 (by decide) ?_
        refine lv_icmp_ne (tgt := 45) hx hb dX0_plansWith_22 (by decide) (fun c73 => ?_) (fun c73 => ?_)
        · have c73 := k_ne (a := z72.toInt) (b := 1) rfl (by decide) c73
          obtain ⟨z74, e_z74⟩ : ∃ y : Int32, y = x64 + 1 := ⟨_, rfl⟩
          have t_z74 : z74.toInt = x64.toInt + 1 := by rw [e_z74]; exact addk (by decide) (by omega) (by omega)
          refine lv_iinc (v := z74) (lv' := [(5, .int z74), (4, .int x65), (0, .ref h0), (1, .int p1), (2, .int p2), (3, .int p3)]) hx hb dX0_plansWith_45 hl (k := 0) rfl (by rw [e_z74]; rfl) (by decide) rfl (fun ls hl => ?_)
          refine lv_goto (tgt := 6) hx hb dX0_plansWith_48 (by decide) ?_
          exact ih67 z74 x65 _ _ ls (by omega) (by omega) (by omega) hP hD hS (lv_sub hl [0, 1, 2, 3, 4, 5] rfl)
        · have c73 := k_eq (a := z72.toInt) (b := 1) rfl (by decide) c73
          refine lv_aload_n hx hb dX0_plansWith_25 rfl (lv_at hl 2 rfl) ?_
          refine lv_iload hx hb dX0_plansWith_26 (lv_at hl 0 rfl) ?_
          refine lv_iload_n hx hb dX0_plansWith_28 rfl (lv_at hl 4 rfl) ?_
          refine call_V (As := [.int x64, .int p2]) (rest := []) (wr := []) FC hKn hZ (k_X0_planWord l g h0 dr0 dr1 dr2 dr3 dr4 dr5 dr6 dr7 dr8 dr9 dstates dreally ddays dheal dleak dlines dhearers dwords dplans dnews dplanSizes dplanWords x64 p2 (by omega) (by omega) (by omega) (by omega) (by omega) (by omega) (by omega) i_dplanSizes (by omega)) m_yX0_planWord b_63 (ci := 0) rfl rfl rfl hP hD hS hA [0, 1, 2] [] rfl (by decide) rfl (by decide) (by decide) rfl hl.1 rfl (Nat.le_of_ble_eq_true rfl) dX0_plansWith_29 ⟨(Nat.le_of_ble_eq_true rfl), (Nat.le_of_ble_eq_true rfl)⟩ ⟨(Nat.le_of_ble_eq_true rfl), (Nat.le_of_ble_eq_true rfl)⟩ (fun u75 H locs q76 hP hD hS => ?_)
          have hP : va_P g.1 vwCl [(h0, .inr (0, [.int dstates, .int dreally, .int ddays, .int dheal, .int dleak, .int dlines, .int dhearers, .int dwords, .int dplans, .int dnews, .ref dr0, .ref dr1, .ref dr2, .ref dr3, .ref dr4, .ref dr5, .ref dr6, .ref dr7, .ref dr8, .ref dr9])), (dr6, .inl (g.2 0, 4, .inl dplanSizes)), (dr7, .inl (g.2 0, 20, .inl dplanWords))] H := hP
          have hD : va_D A [(h0, .inr (0, [.int dstates, .int dreally, .int ddays, .int dheal, .int dleak, .int dlines, .int dhearers, .int dwords, .int dplans, .int dnews, .ref dr0, .ref dr1, .ref dr2, .ref dr3, .ref dr4, .ref dr5, .ref dr6, .ref dr7, .ref dr8, .ref dr9])), (dr6, .inl (g.2 0, 4, .inl dplanSizes)), (dr7, .inl (g.2 0, 20, .inl dplanWords))] := hD
          refine W.eq (g2 := F0 m 32 ls [.int (u75.1 0)]) rfl ?_
          refine lv_iload_n hx hb dX0_plansWith_32 rfl (lv_at hl 5 rfl) ?_
          refine lv_icmp_ne (tgt := 45) hx hb dX0_plansWith_33 (by decide) (fun c77 => ?_) (fun c77 => ?_)
          · have c77 := k_ne (a := (u75.1 0).toInt) (b := p3.toInt) rfl rfl c77
            obtain ⟨z78, e_z78⟩ : ∃ y : Int32, y = x64 + 1 := ⟨_, rfl⟩
            have t_z78 : z78.toInt = x64.toInt + 1 := by rw [e_z78]; exact addk (by decide) (by omega) (by omega)
            refine lv_iinc (v := z78) (lv' := [(5, .int z78), (4, .int x65), (0, .ref h0), (1, .int p1), (2, .int p2), (3, .int p3)]) hx hb dX0_plansWith_45 hl (k := 0) rfl (by rw [e_z78]; rfl) (by decide) rfl (fun ls hl => ?_)
            refine lv_goto (tgt := 6) hx hb dX0_plansWith_48 (by decide) ?_
            exact ih67 z78 x65 _ _ ls (by omega) (by omega) (by omega) hP hD hS (lv_sub hl [0, 1, 2, 3, 4, 5] rfl)
          · have c77 := k_eq (a := (u75.1 0).toInt) (b := p3.toInt) rfl rfl c77
            refine lv_iload hx hb dX0_plansWith_36 (lv_at hl 1 rfl) ?_
            refine lv_iconst (v := 1) hx hb dX0_plansWith_38 (by decide) ?_
            refine lv_iload hx hb dX0_plansWith_39 (lv_at hl 0 rfl) ?_
            refine lv_ishl hx hb dX0_plansWith_41 ?_
            refine lv_topi (fun z79 e_z79 => ?_)
            have t_z79 : 1 ≤ z79.toInt ∧ z79.toInt ≤ 8 := by rw [e_z79]; exact shl_b (n := 3) (by omega) (by omega) (by decide)
            refine lv_ior hx hb dX0_plansWith_42 ?_
            refine lv_topi (fun z80 e_z80 => ?_)
            have t_z80 : 0 ≤ z80.toInt ∧ z80.toInt < 16 := by rw [e_z80]; exact or_k (n := 16) 4 (by decide) (by decide) (by omega) (by omega) (by omega) (by omega)
            refine lv_istore (lv' := [(4, .int z80), (5, .int x64), (0, .ref h0), (1, .int p1), (2, .int p2), (3, .int p3)]) hx hb dX0_plansWith_43 hl (by decide) rfl (fun ls hl => ?_)
            obtain ⟨z81, e_z81⟩ : ∃ y : Int32, y = x64 + 1 := ⟨_, rfl⟩
            have t_z81 : z81.toInt = x64.toInt + 1 := by rw [e_z81]; exact addk (by decide) (by omega) (by omega)
            refine lv_iinc (v := z81) (lv' := [(5, .int z81), (4, .int z80), (0, .ref h0), (1, .int p1), (2, .int p2), (3, .int p3)]) hx hb dX0_plansWith_45 hl (k := 1) rfl (by rw [e_z81]; rfl) (by decide) rfl (fun ls hl => ?_)
            refine lv_goto (tgt := 6) hx hb dX0_plansWith_48 (by decide) ?_
            exact ih67 z81 z80 _ _ ls (by omega) (by omega) (by omega) hP hD hS (lv_sub hl [0, 1, 2, 3, 4, 5] rfl)
  have kc0 : (0 : Int32).toInt = 0 := by decide
  exact lp66 _ (0 : Int32) (0 : Int32) _ _ ls (by decide) (by decide) (Nat.lt_succ_self _) hP hD hS (lv_sub hl [0, 1, 2, 3, 4, 5] rfl)
set_option maxRecDepth 100000 in
set_option maxHeartbeats 4000000 in
theorem k_X0_knowingAfter (l : Launch) (g : GG) (h0 : Nat) (dr0 : Nat) (dr1 : Nat) (dr2 : Nat) (dr3 : Nat) (dr4 : Nat) (dr5 : Nat) (dr6 : Nat) (dr7 : Nat) (dr8 : Nat) (dr9 : Nat) (dstates : Int32) (dreally : Int32) (ddays : Int32) (dheal : Int32) (dleak : Int32) (dlines : Int32) (dhearers : Int32) (dwords : Int32) (dplans : Int32) (dnews : Int32) (dtold : Nat → Int32) (p1 : Int32) (p2 : Int32) (i_dstates : 0 ≤ dstates.toInt ∧ dstates.toInt ≤ 8) (i_dreally : 0 ≤ dreally.toInt ∧ dreally.toInt ≤ 7) (i_ddays : 0 ≤ ddays.toInt ∧ ddays.toInt ≤ 10) (i_dhearers : 0 ≤ dhearers.toInt ∧ dhearers.toInt ≤ 4) (i_dwords : 0 ≤ dwords.toInt ∧ dwords.toInt ≤ 8) (i_dplans : 0 ≤ dplans.toInt ∧ dplans.toInt ≤ 4) (i_dnews : 0 ≤ dnews.toInt ∧ dnews.toInt ≤ 6) : Ct l g yX0_knowingAfter cX0_knowingAfter 7 (some .int) { frames := 0, cells := 0, slots := 0, locals := 0 } [.ref h0, .int p1, .int p2] [(h0, .inr (0, [.int dstates, .int dreally, .int ddays, .int dheal, .int dleak, .int dlines, .int dhearers, .int dwords, .int dplans, .int dnews, .ref dr0, .ref dr1, .ref dr2, .ref dr3, .ref dr4, .ref dr5, .ref dr6, .ref dr7, .ref dr8, .ref dr9])), (dr3, .inl (g.2 0, 4, .inl dtold))] (S := (Nat → Int32) × (Nat → Nat → Int32) × (Nat → Nat → Int64)) (fun u => some (.int (u.1 0))) (fun u => True) (fun u => [(h0, .inr (0, [.int dstates, .int dreally, .int ddays, .int dheal, .int dleak, .int dlines, .int dhearers, .int dwords, .int dplans, .int dnews, .ref dr0, .ref dr1, .ref dr2, .ref dr3, .ref dr4, .ref dr5, .ref dr6, .ref dr7, .ref dr8, .ref dr9])), (dr3, .inl (g.2 0, 4, .inl dtold))]) := by
  refine Ct.of (by decide) (Nat.le_of_ble_eq_true rfl) ?_
  intro p e s m below meth c A ls FX hP hD hS hl
  obtain ⟨FC, hr, hlk, hKn, hA, hnm, hZ⟩ := id FX
  have FC : CallFix p m c cX0_knowingAfter 7 s _ BIG RX0 := FC
  obtain ⟨hx, hb, hml, hown, hB⟩ := id FC
  have hl : lv_has ls 7 [(0, .ref h0), (1, .int p1), (2, .int p2)] := hl
  refine lv_iload_n hx hb dX0_knowingAfter_0 rfl (lv_at hl 1 rfl) ?_
  refine lv_istore_n (lv' := [(3, .int p1), (0, .ref h0), (1, .int p1), (2, .int p2)]) hx hb dX0_knowingAfter_1 rfl hl (by decide) rfl (fun ls hl => ?_)
  refine lv_iconst (v := 0) hx hb dX0_knowingAfter_2 (by decide) ?_
  refine lv_istore (lv' := [(4, .int 0), (3, .int p1), (0, .ref h0), (1, .int p1), (2, .int p2)]) hx hb dX0_knowingAfter_3 hl (by decide) rfl (fun ls hl => ?_)
  have lp344 : ∀ (n346 : Nat) (x342 : Int32) (x343 : Int32) (H : Heap) (locs : List Loc) (ls : Array Slot), 0 ≤ x342.toInt ∧ x342.toInt ≤ 4 → (4 - x342.toInt).toNat < n346 → va_P g.1 vwCl [(h0, .inr (0, [.int dstates, .int dreally, .int ddays, .int dheal, .int dleak, .int dlines, .int dhearers, .int dwords, .int dplans, .int dnews, .ref dr0, .ref dr1, .ref dr2, .ref dr3, .ref dr4, .ref dr5, .ref dr6, .ref dr7, .ref dr8, .ref dr9])), (dr3, .inl (g.2 0, 4, .inl dtold))] H → va_D A [(h0, .inr (0, [.int dstates, .int dreally, .int ddays, .int dheal, .int dleak, .int dlines, .int dhearers, .int dwords, .int dplans, .int dnews, .ref dr0, .ref dr1, .ref dr2, .ref dr3, .ref dr4, .ref dr5, .ref dr6, .ref dr7, .ref dr8, .ref dr9])), (dr3, .inl (g.2 0, 4, .inl dtold))] → va_S A s.heap H locs → lv_has ls 7 [(4, .int x342), (3, .int x343), (0, .ref h0), (1, .int p1), (2, .int p2)] → W p l e { frames := 0, cells := 0, slots := 0, locals := 0 } s m ([.ref h0, .int p1, .int p2].toArray) below meth c H locs 0 0 (MQ below (QX (S := (Nat → Int32) × (Nat → Nat → Int32) × (Nat → Nat → Int64)) (fun u => some (.int (u.1 0))) (fun u => True) g (fun u => [(h0, .inr (0, [.int dstates, .int dreally, .int ddays, .int dheal, .int dleak, .int dlines, .int dhearers, .int dwords, .int dplans, .int dnews, .ref dr0, .ref dr1, .ref dr2, .ref dr3, .ref dr4, .ref dr5, .ref dr6, .ref dr7, .ref dr8, .ref dr9])), (dr3, .inl (g.2 0, 4, .inl dtold))]) A) ([.ref h0, .int p1, .int p2].toArray) s 0 0 A) (F0 m 5 ls []) := by
    intro n346
    induction n346 with
    | zero =>
      intro x342 x343 H locs ls h_x342 hn347
      exact absurd hn347 (Nat.not_lt_zero _)
    | succ n346 ih345 =>
      intro x342 x343 H locs ls h_x342 hn347 hP hD hS hl
      refine lv_iload hx hb dX0_knowingAfter_5 (lv_at hl 0 rfl) ?_
      refine lv_iload_n hx hb dX0_knowingAfter_7 rfl (lv_at hl 4 rfl) ?_
      refine lv_icmp_ge (tgt := 69) hx hb dX0_knowingAfter_8 (by decide) (fun c348 => ?_) (fun c348 => ?_)
      · have c348 := k_le (a := p2.toInt) (b := x342.toInt) rfl rfl c348
        refine lv_iload_n hx hb dX0_knowingAfter_69 rfl (lv_at hl 1 rfl) ?_
        exact rt_i FX ((fun k => match k with | 0 => x343 | _ => 0), (fun _ => fun _ => 0), (fun _ => fun _ => 0)) rfl trivial (hP.sub [0, 1] rfl) (hD.sub [0, 1] (by decide) rfl) hS (Nat.le_of_ble_eq_true rfl) (Nat.le_of_ble_eq_true rfl) dX0_knowingAfter_70
      · have c348 := k_nle (a := p2.toInt) (b := x342.toInt) rfl rfl c348
        refine lv_iload hx hb dX0_knowingAfter_11 (lv_at hl 0 rfl) ?_
        refine lv_iconst (v := 4) hx hb dX0_knowingAfter_13 (by decide) ?_
        refine lv_icmp_ge (tgt := 69) hx hb dX0_knowingAfter_14 (by decide) (fun c349 => ?_) (fun c349 => ?_)
        · have c349 := k_le (a := 4) (b := x342.toInt) (by decide) rfl c349
          refine lv_iload_n hx hb dX0_knowingAfter_69 rfl (lv_at hl 1 rfl) ?_
          exact rt_i FX ((fun k => match k with | 0 => x343 | _ => 0), (fun _ => fun _ => 0), (fun _ => fun _ => 0)) rfl trivial (hP.sub [0, 1] rfl) (hD.sub [0, 1] (by decide) rfl) hS (Nat.le_of_ble_eq_true rfl) (Nat.le_of_ble_eq_true rfl) dX0_knowingAfter_70
        · have c349 := k_nle (a := 4) (b := x342.toInt) (by decide) rfl c349
          refine lv_iload_n hx hb dX0_knowingAfter_17 rfl (lv_at hl 1 rfl) ?_
          refine lv_istore (lv' := [(5, .int x343), (4, .int x342), (3, .int x343), (0, .ref h0), (1, .int p1), (2, .int p2)]) hx hb dX0_knowingAfter_18 hl (by decide) rfl (fun ls hl => ?_)
          refine lv_iconst (v := 0) hx hb dX0_knowingAfter_20 (by decide) ?_
          refine lv_istore (lv' := [(6, .int 0), (5, .int x343), (4, .int x342), (3, .int x343), (0, .ref h0), (1, .int p1), (2, .int p2)]) hx hb dX0_knowingAfter_21 hl (by decide) rfl (fun ls hl => ?_)
          have lp403 : ∀ (n405 : Nat) (x401 : Int32) (x402 : Int32) (H : Heap) (locs : List Loc) (ls : Array Slot), 0 ≤ x401.toInt ∧ x401.toInt ≤ 4 → (4 - x401.toInt).toNat < n405 → va_P g.1 vwCl [(h0, .inr (0, [.int dstates, .int dreally, .int ddays, .int dheal, .int dleak, .int dlines, .int dhearers, .int dwords, .int dplans, .int dnews, .ref dr0, .ref dr1, .ref dr2, .ref dr3, .ref dr4, .ref dr5, .ref dr6, .ref dr7, .ref dr8, .ref dr9])), (dr3, .inl (g.2 0, 4, .inl dtold))] H → va_D A [(h0, .inr (0, [.int dstates, .int dreally, .int ddays, .int dheal, .int dleak, .int dlines, .int dhearers, .int dwords, .int dplans, .int dnews, .ref dr0, .ref dr1, .ref dr2, .ref dr3, .ref dr4, .ref dr5, .ref dr6, .ref dr7, .ref dr8, .ref dr9])), (dr3, .inl (g.2 0, 4, .inl dtold))] → va_S A s.heap H locs → lv_has ls 7 [(6, .int x401), (5, .int x402), (4, .int x342), (3, .int x343), (0, .ref h0), (1, .int p1), (2, .int p2)] → W p l e { frames := 0, cells := 0, slots := 0, locals := 0 } s m ([.ref h0, .int p1, .int p2].toArray) below meth c H locs 0 0 (MQ below (QX (S := (Nat → Int32) × (Nat → Nat → Int32) × (Nat → Nat → Int64)) (fun u => some (.int (u.1 0))) (fun u => True) g (fun u => [(h0, .inr (0, [.int dstates, .int dreally, .int ddays, .int dheal, .int dleak, .int dlines, .int dhearers, .int dwords, .int dplans, .int dnews, .ref dr0, .ref dr1, .ref dr2, .ref dr3, .ref dr4, .ref dr5, .ref dr6, .ref dr7, .ref dr8, .ref dr9])), (dr3, .inl (g.2 0, 4, .inl dtold))]) A) ([.ref h0, .int p1, .int p2].toArray) s 0 0 A) (F0 m 23 ls []) := by
            intro n405
            induction n405 with
            | zero =>
              intro x401 x402 H locs ls h_x401 hn406
              exact absurd hn406 (Nat.not_lt_zero _)
            | succ n405 ih404 =>
              intro x401 x402 H locs ls h_x401 hn406 hP hD hS hl
              refine lv_iload hx hb dX0_knowingAfter_23 (lv_at hl 0 rfl) ?_
              refine lv_aload_n hx hb dX0_knowingAfter_25 rfl (lv_at hl 4 rfl) ?_
              refine g_get (C := RX0) (T := TX0) (N := 20) (ci := 0) (v := .int dhearers) FC hKn hP i_X0 0 rfl rfl 6 (by decide) b_2 rfl dX0_knowingAfter_26 ?_
              refine lv_icmp_ge (tgt := 60) hx hb dX0_knowingAfter_29 (by decide) (fun c407 => ?_) (fun c407 => ?_)
              · have c407 := k_le (a := dhearers.toInt) (b := x401.toInt) rfl rfl c407
                refine lv_iload hx hb dX0_knowingAfter_60 (lv_at hl 1 rfl) ?_
                refine lv_istore_n (lv' := [(3, .int x402), (6, .int x401), (5, .int x402), (4, .int x342), (0, .ref h0), (1, .int p1), (2, .int p2)]) hx hb dX0_knowingAfter_62 rfl hl (by decide) rfl (fun ls hl => ?_)
                obtain ⟨z408, e_z408⟩ : ∃ y : Int32, y = x342 + 1 := ⟨_, rfl⟩
                have t_z408 : z408.toInt = x342.toInt + 1 := by rw [e_z408]; exact addk (by decide) (by omega) (by omega)
                refine lv_iinc (v := z408) (lv' := [(4, .int z408), (3, .int x402), (6, .int x401), (5, .int x402), (0, .ref h0), (1, .int p1), (2, .int p2)]) hx hb dX0_knowingAfter_63 hl (k := 3) rfl (by rw [e_z408]; rfl) (by decide) rfl (fun ls hl => ?_)
                refine lv_goto (tgt := 5) hx hb dX0_knowingAfter_66 (by decide) ?_
                exact ih345 z408 x402 _ _ ls (by omega) (by omega) hP hD hS (lv_sub hl [0, 1, 4, 5, 6] rfl)
              · have c407 := k_nle (a := dhearers.toInt) (b := x401.toInt) rfl rfl c407
                refine lv_iload_n hx hb dX0_knowingAfter_32 rfl (lv_at hl 3 rfl) ?_
                refine lv_iload hx hb dX0_knowingAfter_33 (lv_at hl 0 rfl) ?_
                refine lv_ishr hx hb dX0_knowingAfter_35 ?_
                refine lv_topi (fun z409 e_z409 => ?_)
                refine lv_iconst (v := 1) hx hb dX0_knowingAfter_36 (by decide) ?_
                refine lv_iand hx hb dX0_knowingAfter_37 ?_
                have kc1 : (1 : Int32).toInt = 1 := by decide
                refine lv_topi (fun z410 e_z410 => ?_)
                have t_z410 : 0 ≤ z410.toInt ∧ z410.toInt ≤ 1 := by rw [e_z410]; exact and_r (by omega) (by omega)
                refine lv_iconst (v := 1) hx hb dX0_knowingAfter_38 (by decide) ?_
                refine lv_icmp_ne (tgt := 54) hx hb dX0_knowingAfter_39 (by decide) (fun c411 => ?_) (fun c411 => ?_)
                · have c411 := k_ne (a := z410.toInt) (b := 1) rfl (by decide) c411
                  obtain ⟨z412, e_z412⟩ : ∃ y : Int32, y = x401 + 1 := ⟨_, rfl⟩
                  have t_z412 : z412.toInt = x401.toInt + 1 := by rw [e_z412]; exact addk (by decide) (by omega) (by omega)
                  refine lv_iinc (v := z412) (lv' := [(6, .int z412), (5, .int x402), (4, .int x342), (3, .int x343), (0, .ref h0), (1, .int p1), (2, .int p2)]) hx hb dX0_knowingAfter_54 hl (k := 0) rfl (by rw [e_z412]; rfl) (by decide) rfl (fun ls hl => ?_)
                  refine lv_goto (tgt := 23) hx hb dX0_knowingAfter_57 (by decide) ?_
                  exact ih404 z412 x402 _ _ ls (by omega) (by omega) hP hD hS (lv_sub hl [0, 1, 2, 3, 4, 5, 6] rfl)
                · have c411 := k_eq (a := z410.toInt) (b := 1) rfl (by decide) c411
                  refine lv_iload hx hb dX0_knowingAfter_42 (lv_at hl 1 rfl) ?_
                  refine lv_aload_n hx hb dX0_knowingAfter_44 rfl (lv_at hl 4 rfl) ?_
                  refine g_get (C := RX0) (T := TX0) (N := 20) (ci := 0) (v := .ref dr3) FC hKn hP i_X0 0 rfl rfl 13 (by decide) b_65 rfl dX0_knowingAfter_45 ?_
                  refine lv_iload hx hb dX0_knowingAfter_48 (lv_at hl 0 rfl) ?_
                  refine va_iald hx hb hKn.1 hP 1 0 rfl rfl (vp_in_iff.mpr ⟨by omega, by omega⟩) dX0_knowingAfter_50 ?_
                  refine lv_topi (fun z413 e_z413 => ?_)
                  refine lv_ior hx hb dX0_knowingAfter_51 ?_
                  refine lv_topi (fun z414 e_z414 => ?_)
                  refine lv_istore (lv' := [(5, .int z414), (6, .int x401), (4, .int x342), (3, .int x343), (0, .ref h0), (1, .int p1), (2, .int p2)]) hx hb dX0_knowingAfter_52 hl (by decide) rfl (fun ls hl => ?_)
                  obtain ⟨z415, e_z415⟩ : ∃ y : Int32, y = x401 + 1 := ⟨_, rfl⟩
                  have t_z415 : z415.toInt = x401.toInt + 1 := by rw [e_z415]; exact addk (by decide) (by omega) (by omega)
                  refine lv_iinc (v := z415) (lv' := [(6, .int z415), (5, .int z414), (4, .int x342), (3, .int x343), (0, .ref h0), (1, .int p1), (2, .int p2)]) hx hb dX0_knowingAfter_54 hl (k := 1) rfl (by rw [e_z415]; rfl) (by decide) rfl (fun ls hl => ?_)
                  refine lv_goto (tgt := 23) hx hb dX0_knowingAfter_57 (by decide) ?_
                  exact ih404 z415 z414 _ _ ls (by omega) (by omega) hP hD hS (lv_sub hl [0, 1, 2, 3, 4, 5, 6] rfl)
          have kc0 : (0 : Int32).toInt = 0 := by decide
          exact lp403 _ (0 : Int32) x343 _ _ ls (by decide) (Nat.lt_succ_self _) hP hD hS (lv_sub hl [0, 1, 2, 3, 4, 5, 6] rfl)
  have kc0 : (0 : Int32).toInt = 0 := by decide
  exact lp344 _ (0 : Int32) p1 _ _ ls (by decide) (Nat.lt_succ_self _) hP hD hS (lv_sub hl [0, 1, 2, 3, 4] rfl)
set_option maxRecDepth 100000 in
set_option maxHeartbeats 4000000 in
theorem k_X0_drawLeak (l : Launch) (g : GG) (h0 : Nat) (dr0 : Nat) (dr1 : Nat) (dr2 : Nat) (dr3 : Nat) (dr4 : Nat) (dr5 : Nat) (dr6 : Nat) (dr7 : Nat) (dr8 : Nat) (dr9 : Nat) (dstates : Int32) (dreally : Int32) (ddays : Int32) (dheal : Int32) (dleak : Int32) (dlines : Int32) (dhearers : Int32) (dwords : Int32) (dplans : Int32) (dnews : Int32) (p1 : Int32) (i_dstates : 0 ≤ dstates.toInt ∧ dstates.toInt ≤ 8) (i_dreally : 0 ≤ dreally.toInt ∧ dreally.toInt ≤ 7) (i_ddays : 0 ≤ ddays.toInt ∧ ddays.toInt ≤ 10) (i_dhearers : 0 ≤ dhearers.toInt ∧ dhearers.toInt ≤ 4) (i_dwords : 0 ≤ dwords.toInt ∧ dwords.toInt ≤ 8) (i_dplans : 0 ≤ dplans.toInt ∧ dplans.toInt ≤ 4) (i_dnews : 0 ≤ dnews.toInt ∧ dnews.toInt ≤ 6) : Ct l g yX0_drawLeak cX0_drawLeak 5 (some .int) { frames := 0, cells := 0, slots := 0, locals := 0 } [.ref h0, .int p1] [(h0, .inr (0, [.int dstates, .int dreally, .int ddays, .int dheal, .int dleak, .int dlines, .int dhearers, .int dwords, .int dplans, .int dnews, .ref dr0, .ref dr1, .ref dr2, .ref dr3, .ref dr4, .ref dr5, .ref dr6, .ref dr7, .ref dr8, .ref dr9]))] (S := (Nat → Int32) × (Nat → Nat → Int32) × (Nat → Nat → Int64)) (fun u => some (.int (u.1 0))) (fun u => (-1 ≤ (u.1 0).toInt ∧ (u.1 0).toInt ≤ 9)) (fun u => [(h0, .inr (0, [.int dstates, .int dreally, .int ddays, .int dheal, .int dleak, .int dlines, .int dhearers, .int dwords, .int dplans, .int dnews, .ref dr0, .ref dr1, .ref dr2, .ref dr3, .ref dr4, .ref dr5, .ref dr6, .ref dr7, .ref dr8, .ref dr9]))]) := by
  refine Ct.of (by decide) (Nat.le_of_ble_eq_true rfl) ?_
  intro p e s m below meth c A ls FX hP hD hS hl
  obtain ⟨FC, hr, hlk, hKn, hA, hnm, hZ⟩ := id FX
  have FC : CallFix p m c cX0_drawLeak 5 s _ BIG RX0 := FC
  obtain ⟨hx, hb, hml, hown, hB⟩ := id FC
  have hl : lv_has ls 5 [(0, .ref h0), (1, .int p1)] := hl
  refine lv_iload_n hx hb dX0_drawLeak_0 rfl (lv_at hl 1 rfl) ?_
  refine lv_i2l (v := p1.toInt64) hx hb dX0_drawLeak_1 rfl ?_
  refine lv_topl (fun z1 e_z1 => ?_)
  have t_z1 : z1.toInt = p1.toInt := by rw [e_z1]; exact Int32.toInt_toInt64 _
  refine lv_lstore_n (lv' := [(2, .long z1), (0, .ref h0), (1, .int p1)]) hx hb dX0_drawLeak_2 rfl hl (by decide) rfl (fun ls hl => ?_)
  refine lv_iconst (v := 1) hx hb dX0_drawLeak_3 (by decide) ?_
  refine lv_istore (lv' := [(4, .int 1), (2, .long z1), (0, .ref h0), (1, .int p1)]) hx hb dX0_drawLeak_4 hl (by decide) rfl (fun ls hl => ?_)
  have lp89 : ∀ (n91 : Nat) (x87 : Int32) (x88 : Int64) (H : Heap) (locs : List Loc) (ls : Array Slot), 1 ≤ x87.toInt ∧ x87.toInt ≤ 10 → (10 - x87.toInt).toNat < n91 → va_P g.1 vwCl [(h0, .inr (0, [.int dstates, .int dreally, .int ddays, .int dheal, .int dleak, .int dlines, .int dhearers, .int dwords, .int dplans, .int dnews, .ref dr0, .ref dr1, .ref dr2, .ref dr3, .ref dr4, .ref dr5, .ref dr6, .ref dr7, .ref dr8, .ref dr9]))] H → va_D A [(h0, .inr (0, [.int dstates, .int dreally, .int ddays, .int dheal, .int dleak, .int dlines, .int dhearers, .int dwords, .int dplans, .int dnews, .ref dr0, .ref dr1, .ref dr2, .ref dr3, .ref dr4, .ref dr5, .ref dr6, .ref dr7, .ref dr8, .ref dr9]))] → va_S A s.heap H locs → lv_has ls 5 [(4, .int x87), (2, .long x88), (0, .ref h0), (1, .int p1)] → W p l e { frames := 0, cells := 0, slots := 0, locals := 0 } s m ([.ref h0, .int p1].toArray) below meth c H locs 0 0 (MQ below (QX (S := (Nat → Int32) × (Nat → Nat → Int32) × (Nat → Nat → Int64)) (fun u => some (.int (u.1 0))) (fun u => (-1 ≤ (u.1 0).toInt ∧ (u.1 0).toInt ≤ 9)) g (fun u => [(h0, .inr (0, [.int dstates, .int dreally, .int ddays, .int dheal, .int dleak, .int dlines, .int dhearers, .int dwords, .int dplans, .int dnews, .ref dr0, .ref dr1, .ref dr2, .ref dr3, .ref dr4, .ref dr5, .ref dr6, .ref dr7, .ref dr8, .ref dr9]))]) A) ([.ref h0, .int p1].toArray) s 0 0 A) (F0 m 6 ls []) := by
    intro n91
    induction n91 with
    | zero =>
      intro x87 x88 H locs ls h_x87 hn92
      exact absurd hn92 (Nat.not_lt_zero _)
    | succ n91 ih90 =>
      intro x87 x88 H locs ls h_x87 hn92 hP hD hS hl
      refine lv_iload hx hb dX0_drawLeak_6 (lv_at hl 0 rfl) ?_
      refine lv_aload_n hx hb dX0_drawLeak_8 rfl (lv_at hl 2 rfl) ?_
      refine g_get (C := RX0) (T := TX0) (N := 20) (ci := 0) (v := .int ddays) FC hKn hP i_X0 0 rfl rfl 2 (by decide) b_4 rfl dX0_drawLeak_9 ?_
      refine lv_icmp_ge (tgt := 56) hx hb dX0_drawLeak_12 (by decide) (fun c93 => ?_) (fun c93 => ?_)
      · have c93 := k_le (a := ddays.toInt) (b := x87.toInt) rfl rfl c93
        refine lv_iconst (v := -1) hx hb dX0_drawLeak_56 (by decide) ?_
        exact rt_i FX ((fun k => match k with | 0 => (-1 : Int32) | _ => 0), (fun _ => fun _ => 0), (fun _ => fun _ => 0)) rfl (show -1 ≤ ((-1 : Int32)).toInt ∧ ((-1 : Int32)).toInt ≤ 9 by decide) (hP.sub [0] rfl) (hD.sub [0] (by decide) rfl) hS (Nat.le_of_ble_eq_true rfl) (Nat.le_of_ble_eq_true rfl) dX0_drawLeak_57
      · have c93 := k_nle (a := ddays.toInt) (b := x87.toInt) rfl rfl c93
        refine lv_ldc2 hx hb hown (hB _ b_66) dX0_drawLeak_15 ?_
        refine lv_lload_n hx hb dX0_drawLeak_18 rfl (lv_at hl 1 rfl) ?_
        refine lv_lmul hx hb dX0_drawLeak_19 ?_
        refine lv_topl (fun z94 e_z94 => ?_)
        refine lv_ldc2 hx hb hown (hB _ b_67) dX0_drawLeak_20 ?_
        refine lv_ladd hx hb dX0_drawLeak_23 ?_
        refine lv_topl (fun z95 e_z95 => ?_)
        refine lv_ldc2 hx hb hown (hB _ b_68) dX0_drawLeak_24 ?_
        refine lv_lrem hx hb dX0_drawLeak_27 (by decide) ?_
        refine lv_topl (fun z96 e_z96 => ?_)
        refine lv_lstore_n (lv' := [(2, .long z96), (4, .int x87), (0, .ref h0), (1, .int p1)]) hx hb dX0_drawLeak_28 rfl hl (by decide) rfl (fun ls hl => ?_)
        refine lv_lload_n hx hb dX0_drawLeak_29 rfl (lv_at hl 0 rfl) ?_
        refine lv_ldc2 hx hb hown (hB _ b_69) dX0_drawLeak_30 ?_
        refine lv_ldiv hx hb dX0_drawLeak_33 (by decide) ?_
        refine lv_topl (fun z97 e_z97 => ?_)
        refine lv_ldc2 hx hb hown (hB _ b_70) dX0_drawLeak_34 ?_
        refine lv_lrem hx hb dX0_drawLeak_37 (by decide) ?_
        refine lv_topl (fun z98 e_z98 => ?_)
        refine lv_aload_n hx hb dX0_drawLeak_38 rfl (lv_at hl 2 rfl) ?_
        refine g_get (C := RX0) (T := TX0) (N := 20) (ci := 0) (v := .int dleak) FC hKn hP i_X0 0 rfl rfl 4 (by decide) b_60 rfl dX0_drawLeak_39 ?_
        refine lv_i2l (v := dleak.toInt64) hx hb dX0_drawLeak_42 rfl ?_
        refine lv_topl (fun z99 e_z99 => ?_)
        have t_z99 : z99.toInt = dleak.toInt := by rw [e_z99]; exact Int32.toInt_toInt64 _
        refine W.lcmp hx hb dX0_drawLeak_43 ?_
        refine lv_if_ge (tgt := 50) hx hb dX0_drawLeak_44 (by decide) (fun c100 => ?_) (fun c100 => ?_)
        · have c100 := k_le (a := 0) (b := (lg_cmp z98 z99).toInt) (by decide) rfl c100
          have c100 := kc_geT c100
          obtain ⟨z101, e_z101⟩ : ∃ y : Int32, y = x87 + 1 := ⟨_, rfl⟩
          have t_z101 : z101.toInt = x87.toInt + 1 := by rw [e_z101]; exact addk (by decide) (by omega) (by omega)
          refine lv_iinc (v := z101) (lv' := [(4, .int z101), (2, .long z96), (0, .ref h0), (1, .int p1)]) hx hb dX0_drawLeak_50 hl (k := 1) rfl (by rw [e_z101]; rfl) (by decide) rfl (fun ls hl => ?_)
          refine lv_goto (tgt := 6) hx hb dX0_drawLeak_53 (by decide) ?_
          exact ih90 z101 z96 _ _ ls (by omega) (by omega) hP hD hS (lv_sub hl [0, 1, 2, 3] rfl)
        · have c100 := k_nle (a := 0) (b := (lg_cmp z98 z99).toInt) (by decide) rfl c100
          have c100 := kc_geF c100
          refine lv_iload hx hb dX0_drawLeak_47 (lv_at hl 1 rfl) ?_
          exact rt_i FX ((fun k => match k with | 0 => x87 | _ => 0), (fun _ => fun _ => 0), (fun _ => fun _ => 0)) rfl (show -1 ≤ x87.toInt ∧ x87.toInt ≤ 9 by omega) (hP.sub [0] rfl) (hD.sub [0] (by decide) rfl) hS (Nat.le_of_ble_eq_true rfl) (Nat.le_of_ble_eq_true rfl) dX0_drawLeak_49
  have kc1 : (1 : Int32).toInt = 1 := by decide
  exact lp89 _ (1 : Int32) z1 _ _ ls (by decide) (Nat.lt_succ_self _) hP hD hS (lv_sub hl [0, 1, 2, 3] rfl)
set_option maxRecDepth 100000 in
set_option maxHeartbeats 4000000 in
theorem k_X0_valueAt (l : Launch) (g : GG) (h0 : Nat) (dr0 : Nat) (dr1 : Nat) (dr2 : Nat) (dr3 : Nat) (dr4 : Nat) (dr5 : Nat) (dr6 : Nat) (dr7 : Nat) (dr8 : Nat) (dr9 : Nat) (dstates : Int32) (dreally : Int32) (ddays : Int32) (dheal : Int32) (dleak : Int32) (dlines : Int32) (dhearers : Int32) (dwords : Int32) (dplans : Int32) (dnews : Int32) (dgrades : Nat → Int32) (dthoughts : Nat → Int32) (p1 : Int32) (p2 : Int32) (i_dstates : 0 ≤ dstates.toInt ∧ dstates.toInt ≤ 8) (i_dreally : 0 ≤ dreally.toInt ∧ dreally.toInt ≤ 7) (i_ddays : 0 ≤ ddays.toInt ∧ ddays.toInt ≤ 10) (i_dhearers : 0 ≤ dhearers.toInt ∧ dhearers.toInt ≤ 4) (i_dwords : 0 ≤ dwords.toInt ∧ dwords.toInt ≤ 8) (i_dplans : 0 ≤ dplans.toInt ∧ dplans.toInt ≤ 4) (i_dnews : 0 ≤ dnews.toInt ∧ dnews.toInt ≤ 6) (i_p2 : 0 ≤ p2.toInt ∧ p2.toInt ≤ 7) : Ct l g yX0_valueAt cX0_valueAt 3 (some .int) { frames := 0, cells := 0, slots := 0, locals := 0 } [.ref h0, .int p1, .int p2] [(h0, .inr (0, [.int dstates, .int dreally, .int ddays, .int dheal, .int dleak, .int dlines, .int dhearers, .int dwords, .int dplans, .int dnews, .ref dr0, .ref dr1, .ref dr2, .ref dr3, .ref dr4, .ref dr5, .ref dr6, .ref dr7, .ref dr8, .ref dr9])), (dr0, .inl (g.2 0, 8, .inl dgrades)), (dr1, .inl (g.2 0, 32, .inl dthoughts))] (S := (Nat → Int32) × (Nat → Nat → Int32) × (Nat → Nat → Int64)) (fun u => some (.int (u.1 0))) (fun u => True) (fun u => [(h0, .inr (0, [.int dstates, .int dreally, .int ddays, .int dheal, .int dleak, .int dlines, .int dhearers, .int dwords, .int dplans, .int dnews, .ref dr0, .ref dr1, .ref dr2, .ref dr3, .ref dr4, .ref dr5, .ref dr6, .ref dr7, .ref dr8, .ref dr9])), (dr0, .inl (g.2 0, 8, .inl dgrades)), (dr1, .inl (g.2 0, 32, .inl dthoughts))]) := by
  refine Ct.of (by decide) (Nat.le_of_ble_eq_true rfl) ?_
  intro p e s m below meth c A ls FX hP hD hS hl
  obtain ⟨FC, hr, hlk, hKn, hA, hnm, hZ⟩ := id FX
  have FC : CallFix p m c cX0_valueAt 3 s _ BIG RX0 := FC
  obtain ⟨hx, hb, hml, hown, hB⟩ := id FC
  have hl : lv_has ls 3 [(0, .ref h0), (1, .int p1), (2, .int p2)] := hl
  refine lv_iload_n hx hb dX0_valueAt_0 rfl (lv_at hl 1 rfl) ?_
  refine lv_if_ne (tgt := 11) hx hb dX0_valueAt_1 (by decide) (fun c1 => ?_) (fun c1 => ?_)
  · have c1 := k_ne (a := p1.toInt) (b := 0) rfl (by decide) c1
    refine lv_iload_n hx hb dX0_valueAt_11 rfl (lv_at hl 1 rfl) ?_
    refine lv_iconst (v := 2) hx hb dX0_valueAt_12 (by decide) ?_
    refine lv_icmp_ne (tgt := 25) hx hb dX0_valueAt_13 (by decide) (fun c2 => ?_) (fun c2 => ?_)
    · have c2 := k_ne (a := p1.toInt) (b := 2) rfl (by decide) c2
      refine lv_aload_n hx hb dX0_valueAt_25 rfl (lv_at hl 0 rfl) ?_
      refine g_get (C := RX0) (T := TX0) (N := 20) (ci := 0) (v := .int dreally) FC hKn hP i_X0 0 rfl rfl 1 (by decide) b_3 rfl dX0_valueAt_26 ?_
      exact rt_i FX ((fun k => match k with | 0 => dreally | _ => 0), (fun _ => fun _ => 0), (fun _ => fun _ => 0)) rfl trivial (hP.sub [0, 1, 2] rfl) (hD.sub [0, 1, 2] (by decide) rfl) hS (Nat.le_of_ble_eq_true rfl) (Nat.le_of_ble_eq_true rfl) dX0_valueAt_29
    · have c2 := k_eq (a := p1.toInt) (b := 2) rfl (by decide) c2
      refine lv_aload_n hx hb dX0_valueAt_16 rfl (lv_at hl 0 rfl) ?_
      refine g_get (C := RX0) (T := TX0) (N := 20) (ci := 0) (v := .ref dr1) FC hKn hP i_X0 0 rfl rfl 11 (by decide) b_10 rfl dX0_valueAt_17 ?_
      refine lv_iload_n hx hb dX0_valueAt_20 rfl (lv_at hl 2 rfl) ?_
      refine va_iald hx hb hKn.1 hP 2 0 rfl rfl (vp_in_iff.mpr ⟨by omega, by omega⟩) dX0_valueAt_21 ?_
      refine lv_topi (fun z3 e_z3 => ?_)
      refine lv_goto (tgt := 29) hx hb dX0_valueAt_22 (by decide) ?_
      exact rt_i FX ((fun k => match k with | 0 => z3 | _ => 0), (fun _ => fun _ => 0), (fun _ => fun _ => 0)) rfl trivial (hP.sub [0, 1, 2] rfl) (hD.sub [0, 1, 2] (by decide) rfl) hS (Nat.le_of_ble_eq_true rfl) (Nat.le_of_ble_eq_true rfl) dX0_valueAt_29
  · have c1 := k_eq (a := p1.toInt) (b := 0) rfl (by decide) c1
    refine lv_aload_n hx hb dX0_valueAt_4 rfl (lv_at hl 0 rfl) ?_
    refine g_get (C := RX0) (T := TX0) (N := 20) (ci := 0) (v := .ref dr0) FC hKn hP i_X0 0 rfl rfl 10 (by decide) b_17 rfl dX0_valueAt_5 ?_
    refine lv_iload_n hx hb dX0_valueAt_8 rfl (lv_at hl 2 rfl) ?_
    refine va_iald hx hb hKn.1 hP 1 0 rfl rfl (vp_in_iff.mpr ⟨by omega, by omega⟩) dX0_valueAt_9 ?_
    refine lv_topi (fun z4 e_z4 => ?_)
    exact rt_i FX ((fun k => match k with | 0 => z4 | _ => 0), (fun _ => fun _ => 0), (fun _ => fun _ => 0)) rfl trivial (hP.sub [0, 1, 2] rfl) (hD.sub [0, 1, 2] (by decide) rfl) hS (Nat.le_of_ble_eq_true rfl) (Nat.le_of_ble_eq_true rfl) dX0_valueAt_10
