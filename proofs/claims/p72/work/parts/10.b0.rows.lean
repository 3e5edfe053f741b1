set_option maxRecDepth 100000 in
set_option maxHeartbeats 4000000 in
theorem k_X0_stands (l : Launch) (g : GG) (h0 : Nat) (dr0 : Nat) (dr1 : Nat) (dr2 : Nat) (dr3 : Nat) (dr4 : Nat) (dr5 : Nat) (dr6 : Nat) (dr7 : Nat) (dr8 : Nat) (dr9 : Nat) (dstates : Int32) (dreally : Int32) (ddays : Int32) (dheal : Int32) (dleak : Int32) (dlines : Int32) (dhearers : Int32) (dwords : Int32) (dplans : Int32) (dnews : Int32) (i_dstates : 0 ≤ dstates.toInt ∧ dstates.toInt ≤ 8) (i_dreally : 0 ≤ dreally.toInt ∧ dreally.toInt ≤ 7) (i_ddays : 0 ≤ ddays.toInt ∧ ddays.toInt ≤ 10) (i_dhearers : 0 ≤ dhearers.toInt ∧ dhearers.toInt ≤ 4) (i_dwords : 0 ≤ dwords.toInt ∧ dwords.toInt ≤ 8) (i_dplans : 0 ≤ dplans.toInt ∧ dplans.toInt ≤ 4) (i_dnews : 0 ≤ dnews.toInt ∧ dnews.toInt ≤ 6) : Ct l g yX0_stands cX0_stands 1 (some .boolean) { frames := 0, cells := 0, slots := 0, locals := 0 } [.ref h0] [(h0, .inr (0, [.int dstates, .int dreally, .int ddays, .int dheal, .int dleak, .int dlines, .int dhearers, .int dwords, .int dplans, .int dnews, .ref dr0, .ref dr1, .ref dr2, .ref dr3, .ref dr4, .ref dr5, .ref dr6, .ref dr7, .ref dr8, .ref dr9]))] (S := (Nat → Int32) × (Nat → Nat → Int32) × (Nat → Nat → Int64)) (fun u => some (.int (u.1 0))) (fun u => (0 ≤ (u.1 0).toInt ∧ (u.1 0).toInt ≤ 1)) (fun u => [(h0, .inr (0, [.int dstates, .int dreally, .int ddays, .int dheal, .int dleak, .int dlines, .int dhearers, .int dwords, .int dplans, .int dnews, .ref dr0, .ref dr1, .ref dr2, .ref dr3, .ref dr4, .ref dr5, .ref dr6, .ref dr7, .ref dr8, .ref dr9]))]) := by
  refine Ct.of (by decide) (Nat.le_of_ble_eq_true rfl) ?_
  intro p e s m below meth c A ls FX hP hD hS hl
  obtain ⟨FC, hr, hlk, hKn, hA, hnm, hZ⟩ := id FX
  have FC : CallFix p m c cX0_stands 1 s _ BIG RX0 := FC
  obtain ⟨hx, hb, hml, hown, hB⟩ := id FC
  have hl : lv_has ls 1 [(0, .ref h0)] := hl
  refine lv_aload_n hx hb dX0_stands_0 rfl (lv_at hl 0 rfl) ?_
  refine g_get (C := RX0) (T := TX0) (N := 20) (ci := 0) (v := .int dlines) FC hKn hP i_X0 0 rfl rfl 5 (by decide) b_0 rfl dX0_stands_1 ?_
  refine lv_if_le (tgt := 11) hx hb dX0_stands_4 (by decide) (fun c1 => ?_) (fun c1 => ?_)
  · have c1 := k_le (a := dlines.toInt) (b := 0) rfl (by decide) c1
    refine lv_iconst (v := 0) hx hb dX0_stands_11 (by decide) ?_
    exact rt_z FX rfl ((fun k => match k with | 0 => (0 : Int32) | _ => 0), (fun _ => fun _ => 0), (fun _ => fun _ => 0)) rfl (show 0 ≤ ((0 : Int32)).toInt ∧ ((0 : Int32)).toInt ≤ 1 by decide) (hP.sub [0] rfl) (hD.sub [0] (by decide) rfl) hS (Nat.le_of_ble_eq_true rfl) (Nat.le_of_ble_eq_true rfl) dX0_stands_12
  · have c1 := k_nle (a := dlines.toInt) (b := 0) rfl (by decide) c1
    refine lv_iconst (v := 1) hx hb dX0_stands_7 (by decide) ?_
    refine lv_goto (tgt := 12) hx hb dX0_stands_8 (by decide) ?_
    exact rt_z FX rfl ((fun k => match k with | 0 => (1 : Int32) | _ => 0), (fun _ => fun _ => 0), (fun _ => fun _ => 0)) rfl (show 0 ≤ ((1 : Int32)).toInt ∧ ((1 : Int32)).toInt ≤ 1 by decide) (hP.sub [0] rfl) (hD.sub [0] (by decide) rfl) hS (Nat.le_of_ble_eq_true rfl) (Nat.le_of_ble_eq_true rfl) dX0_stands_12
set_option maxRecDepth 100000 in
set_option maxHeartbeats 4000000 in
theorem k_X0_everything (l : Launch) (g : GG) (h0 : Nat) (dr0 : Nat) (dr1 : Nat) (dr2 : Nat) (dr3 : Nat) (dr4 : Nat) (dr5 : Nat) (dr6 : Nat) (dr7 : Nat) (dr8 : Nat) (dr9 : Nat) (dstates : Int32) (dreally : Int32) (ddays : Int32) (dheal : Int32) (dleak : Int32) (dlines : Int32) (dhearers : Int32) (dwords : Int32) (dplans : Int32) (dnews : Int32) (i_dstates : 0 ≤ dstates.toInt ∧ dstates.toInt ≤ 8) (i_dreally : 0 ≤ dreally.toInt ∧ dreally.toInt ≤ 7) (i_ddays : 0 ≤ ddays.toInt ∧ ddays.toInt ≤ 10) (i_dhearers : 0 ≤ dhearers.toInt ∧ dhearers.toInt ≤ 4) (i_dwords : 0 ≤ dwords.toInt ∧ dwords.toInt ≤ 8) (i_dplans : 0 ≤ dplans.toInt ∧ dplans.toInt ≤ 4) (i_dnews : 0 ≤ dnews.toInt ∧ dnews.toInt ≤ 6) : Ct l g yX0_everything cX0_everything 1 (some .int) { frames := 0, cells := 0, slots := 0, locals := 0 } [.ref h0] [(h0, .inr (0, [.int dstates, .int dreally, .int ddays, .int dheal, .int dleak, .int dlines, .int dhearers, .int dwords, .int dplans, .int dnews, .ref dr0, .ref dr1, .ref dr2, .ref dr3, .ref dr4, .ref dr5, .ref dr6, .ref dr7, .ref dr8, .ref dr9]))] (S := (Nat → Int32) × (Nat → Nat → Int32) × (Nat → Nat → Int64)) (fun u => some (.int (u.1 0))) (fun u => (0 ≤ (u.1 0).toInt ∧ (u.1 0).toInt ≤ 255)) (fun u => [(h0, .inr (0, [.int dstates, .int dreally, .int ddays, .int dheal, .int dleak, .int dlines, .int dhearers, .int dwords, .int dplans, .int dnews, .ref dr0, .ref dr1, .ref dr2, .ref dr3, .ref dr4, .ref dr5, .ref dr6, .ref dr7, .ref dr8, .ref dr9]))]) := by
  refine Ct.of (by decide) (Nat.le_of_ble_eq_true rfl) ?_
  intro p e s m below meth c A ls FX hP hD hS hl
  obtain ⟨FC, hr, hlk, hKn, hA, hnm, hZ⟩ := id FX
  have FC : CallFix p m c cX0_everything 1 s _ BIG RX0 := FC
  obtain ⟨hx, hb, hml, hown, hB⟩ := id FC
  have hl : lv_has ls 1 [(0, .ref h0)] := hl
  refine lv_iconst (v := 1) hx hb dX0_everything_0 (by decide) ?_
  refine lv_aload_n hx hb dX0_everything_1 rfl (lv_at hl 0 rfl) ?_
  refine g_get (C := RX0) (T := TX0) (N := 20) (ci := 0) (v := .int dstates) FC hKn hP i_X0 0 rfl rfl 0 (by decide) b_1 rfl dX0_everything_2 ?_
  refine lv_ishl hx hb dX0_everything_5 ?_
  refine lv_topi (fun z1 e_z1 => ?_)
  have t_z1 : 1 ≤ z1.toInt ∧ z1.toInt ≤ 256 := by rw [e_z1]; exact shl_b (n := 8) (by omega) (by omega) (by decide)
  refine lv_iconst (v := 1) hx hb dX0_everything_6 (by decide) ?_
  refine lv_isub hx hb dX0_everything_7 ?_
  have kc1 : (1 : Int32).toInt = 1 := by decide
  refine lv_topi (fun z2 e_z2 => ?_)
  have t_z2 : z2.toInt = z1.toInt - ((1 : Int32)).toInt := by rw [e_z2]; exact fb_subI (by omega) (by omega)
  exact rt_i FX ((fun k => match k with | 0 => z2 | _ => 0), (fun _ => fun _ => 0), (fun _ => fun _ => 0)) rfl (show 0 ≤ z2.toInt ∧ z2.toInt ≤ 255 by omega) (hP.sub [0] rfl) (hD.sub [0] (by decide) rfl) hS (Nat.le_of_ble_eq_true rfl) (Nat.le_of_ble_eq_true rfl) dX0_everything_8
set_option maxRecDepth 100000 in
set_option maxHeartbeats 4000000 in
theorem k_X0_everybody (l : Launch) (g : GG) (h0 : Nat) (dr0 : Nat) (dr1 : Nat) (dr2 : Nat) (dr3 : Nat) (dr4 : Nat) (dr5 : Nat) (dr6 : Nat) (dr7 : Nat) (dr8 : Nat) (dr9 : Nat) (dstates : Int32) (dreally : Int32) (ddays : Int32) (dheal : Int32) (dleak : Int32) (dlines : Int32) (dhearers : Int32) (dwords : Int32) (dplans : Int32) (dnews : Int32) (i_dstates : 0 ≤ dstates.toInt ∧ dstates.toInt ≤ 8) (i_dreally : 0 ≤ dreally.toInt ∧ dreally.toInt ≤ 7) (i_ddays : 0 ≤ ddays.toInt ∧ ddays.toInt ≤ 10) (i_dhearers : 0 ≤ dhearers.toInt ∧ dhearers.toInt ≤ 4) (i_dwords : 0 ≤ dwords.toInt ∧ dwords.toInt ≤ 8) (i_dplans : 0 ≤ dplans.toInt ∧ dplans.toInt ≤ 4) (i_dnews : 0 ≤ dnews.toInt ∧ dnews.toInt ≤ 6) : Ct l g yX0_everybody cX0_everybody 1 (some .int) { frames := 0, cells := 0, slots := 0, locals := 0 } [.ref h0] [(h0, .inr (0, [.int dstates, .int dreally, .int ddays, .int dheal, .int dleak, .int dlines, .int dhearers, .int dwords, .int dplans, .int dnews, .ref dr0, .ref dr1, .ref dr2, .ref dr3, .ref dr4, .ref dr5, .ref dr6, .ref dr7, .ref dr8, .ref dr9]))] (S := (Nat → Int32) × (Nat → Nat → Int32) × (Nat → Nat → Int64)) (fun u => some (.int (u.1 0))) (fun u => (0 ≤ (u.1 0).toInt ∧ (u.1 0).toInt ≤ 15)) (fun u => [(h0, .inr (0, [.int dstates, .int dreally, .int ddays, .int dheal, .int dleak, .int dlines, .int dhearers, .int dwords, .int dplans, .int dnews, .ref dr0, .ref dr1, .ref dr2, .ref dr3, .ref dr4, .ref dr5, .ref dr6, .ref dr7, .ref dr8, .ref dr9]))]) := by
  refine Ct.of (by decide) (Nat.le_of_ble_eq_true rfl) ?_
  intro p e s m below meth c A ls FX hP hD hS hl
  obtain ⟨FC, hr, hlk, hKn, hA, hnm, hZ⟩ := id FX
  have FC : CallFix p m c cX0_everybody 1 s _ BIG RX0 := FC
  obtain ⟨hx, hb, hml, hown, hB⟩ := id FC
  have hl : lv_has ls 1 [(0, .ref h0)] := hl
  refine lv_iconst (v := 1) hx hb dX0_everybody_0 (by decide) ?_
  refine lv_aload_n hx hb dX0_everybody_1 rfl (lv_at hl 0 rfl) ?_
  refine g_get (C := RX0) (T := TX0) (N := 20) (ci := 0) (v := .int dhearers) FC hKn hP i_X0 0 rfl rfl 6 (by decide) b_2 rfl dX0_everybody_2 ?_
  refine lv_ishl hx hb dX0_everybody_5 ?_
  refine lv_topi (fun z1 e_z1 => ?_)
  have t_z1 : 1 ≤ z1.toInt ∧ z1.toInt ≤ 16 := by rw [e_z1]; exact shl_b (n := 4) (by omega) (by omega) (by decide)
  refine lv_iconst (v := 1) hx hb dX0_everybody_6 (by decide) ?_
  refine lv_isub hx hb dX0_everybody_7 ?_
  have kc1 : (1 : Int32).toInt = 1 := by decide
  refine lv_topi (fun z2 e_z2 => ?_)
  have t_z2 : z2.toInt = z1.toInt - ((1 : Int32)).toInt := by rw [e_z2]; exact fb_subI (by omega) (by omega)
  exact rt_i FX ((fun k => match k with | 0 => z2 | _ => 0), (fun _ => fun _ => 0), (fun _ => fun _ => 0)) rfl (show 0 ≤ z2.toInt ∧ z2.toInt ≤ 15 by omega) (hP.sub [0] rfl) (hD.sub [0] (by decide) rfl) hS (Nat.le_of_ble_eq_true rfl) (Nat.le_of_ble_eq_true rfl) dX0_everybody_8
set_option maxRecDepth 100000 in
set_option maxHeartbeats 4000000 in
theorem k_X0_truth (l : Launch) (g : GG) (h0 : Nat) (dr0 : Nat) (dr1 : Nat) (dr2 : Nat) (dr3 : Nat) (dr4 : Nat) (dr5 : Nat) (dr6 : Nat) (dr7 : Nat) (dr8 : Nat) (dr9 : Nat) (dstates : Int32) (dreally : Int32) (ddays : Int32) (dheal : Int32) (dleak : Int32) (dlines : Int32) (dhearers : Int32) (dwords : Int32) (dplans : Int32) (dnews : Int32) (i_dstates : 0 ≤ dstates.toInt ∧ dstates.toInt ≤ 8) (i_dreally : 0 ≤ dreally.toInt ∧ dreally.toInt ≤ 7) (i_ddays : 0 ≤ ddays.toInt ∧ ddays.toInt ≤ 10) (i_dhearers : 0 ≤ dhearers.toInt ∧ dhearers.toInt ≤ 4) (i_dwords : 0 ≤ dwords.toInt ∧ dwords.toInt ≤ 8) (i_dplans : 0 ≤ dplans.toInt ∧ dplans.toInt ≤ 4) (i_dnews : 0 ≤ dnews.toInt ∧ dnews.toInt ≤ 6) : Ct l g yX0_truth cX0_truth 1 (some .int) { frames := 0, cells := 0, slots := 0, locals := 0 } [.ref h0] [(h0, .inr (0, [.int dstates, .int dreally, .int ddays, .int dheal, .int dleak, .int dlines, .int dhearers, .int dwords, .int dplans, .int dnews, .ref dr0, .ref dr1, .ref dr2, .ref dr3, .ref dr4, .ref dr5, .ref dr6, .ref dr7, .ref dr8, .ref dr9]))] (S := (Nat → Int32) × (Nat → Nat → Int32) × (Nat → Nat → Int64)) (fun u => some (.int (u.1 0))) (fun u => (1 ≤ (u.1 0).toInt ∧ (u.1 0).toInt ≤ 128)) (fun u => [(h0, .inr (0, [.int dstates, .int dreally, .int ddays, .int dheal, .int dleak, .int dlines, .int dhearers, .int dwords, .int dplans, .int dnews, .ref dr0, .ref dr1, .ref dr2, .ref dr3, .ref dr4, .ref dr5, .ref dr6, .ref dr7, .ref dr8, .ref dr9]))]) := by
  refine Ct.of (by decide) (Nat.le_of_ble_eq_true rfl) ?_
  intro p e s m below meth c A ls FX hP hD hS hl
  obtain ⟨FC, hr, hlk, hKn, hA, hnm, hZ⟩ := id FX
  have FC : CallFix p m c cX0_truth 1 s _ BIG RX0 := FC
  obtain ⟨hx, hb, hml, hown, hB⟩ := id FC
  have hl : lv_has ls 1 [(0, .ref h0)] := hl
  refine lv_iconst (v := 1) hx hb dX0_truth_0 (by decide) ?_
  refine lv_aload_n hx hb dX0_truth_1 rfl (lv_at hl 0 rfl) ?_
  refine g_get (C := RX0) (T := TX0) (N := 20) (ci := 0) (v := .int dreally) FC hKn hP i_X0 0 rfl rfl 1 (by decide) b_3 rfl dX0_truth_2 ?_
  refine lv_ishl hx hb dX0_truth_5 ?_
  refine lv_topi (fun z1 e_z1 => ?_)
  have t_z1 : 1 ≤ z1.toInt ∧ z1.toInt ≤ 128 := by rw [e_z1]; exact shl_b (n := 7) (by omega) (by omega) (by decide)
  exact rt_i FX ((fun k => match k with | 0 => z1 | _ => 0), (fun _ => fun _ => 0), (fun _ => fun _ => 0)) rfl (show 1 ≤ z1.toInt ∧ z1.toInt ≤ 128 by omega) (hP.sub [0] rfl) (hD.sub [0] (by decide) rfl) hS (Nat.le_of_ble_eq_true rfl) (Nat.le_of_ble_eq_true rfl) dX0_truth_6
set_option maxRecDepth 100000 in
set_option maxHeartbeats 4000000 in
theorem k_X0_hasState (l : Launch) (g : GG) (h0 : Nat) (dr0 : Nat) (dr1 : Nat) (dr2 : Nat) (dr3 : Nat) (dr4 : Nat) (dr5 : Nat) (dr6 : Nat) (dr7 : Nat) (dr8 : Nat) (dr9 : Nat) (dstates : Int32) (dreally : Int32) (ddays : Int32) (dheal : Int32) (dleak : Int32) (dlines : Int32) (dhearers : Int32) (dwords : Int32) (dplans : Int32) (dnews : Int32) (p1 : Int32) (i_dstates : 0 ≤ dstates.toInt ∧ dstates.toInt ≤ 8) (i_dreally : 0 ≤ dreally.toInt ∧ dreally.toInt ≤ 7) (i_ddays : 0 ≤ ddays.toInt ∧ ddays.toInt ≤ 10) (i_dhearers : 0 ≤ dhearers.toInt ∧ dhearers.toInt ≤ 4) (i_dwords : 0 ≤ dwords.toInt ∧ dwords.toInt ≤ 8) (i_dplans : 0 ≤ dplans.toInt ∧ dplans.toInt ≤ 4) (i_dnews : 0 ≤ dnews.toInt ∧ dnews.toInt ≤ 6) : Ct l g yX0_hasState cX0_hasState 2 (some .boolean) { frames := 0, cells := 0, slots := 0, locals := 0 } [.ref h0, .int p1] [(h0, .inr (0, [.int dstates, .int dreally, .int ddays, .int dheal, .int dleak, .int dlines, .int dhearers, .int dwords, .int dplans, .int dnews, .ref dr0, .ref dr1, .ref dr2, .ref dr3, .ref dr4, .ref dr5, .ref dr6, .ref dr7, .ref dr8, .ref dr9]))] (S := (Nat → Int32) × (Nat → Nat → Int32) × (Nat → Nat → Int64)) (fun u => some (.int (u.1 0))) (fun u => (0 ≤ (u.1 0).toInt ∧ (u.1 0).toInt ≤ 1) ∧ ((u.1 0).toInt = 1 → 0 ≤ p1.toInt ∧ p1.toInt < dstates.toInt ∧ p1.toInt ≤ 7)) (fun u => [(h0, .inr (0, [.int dstates, .int dreally, .int ddays, .int dheal, .int dleak, .int dlines, .int dhearers, .int dwords, .int dplans, .int dnews, .ref dr0, .ref dr1, .ref dr2, .ref dr3, .ref dr4, .ref dr5, .ref dr6, .ref dr7, .ref dr8, .ref dr9]))]) := by
  refine Ct.of (by decide) (Nat.le_of_ble_eq_true rfl) ?_
  intro p e s m below meth c A ls FX hP hD hS hl
  obtain ⟨FC, hr, hlk, hKn, hA, hnm, hZ⟩ := id FX
  have FC : CallFix p m c cX0_hasState 2 s _ BIG RX0 := FC
  obtain ⟨hx, hb, hml, hown, hB⟩ := id FC
  have hl : lv_has ls 2 [(0, .ref h0), (1, .int p1)] := hl
  refine lv_iload_n hx hb dX0_hasState_0 rfl (lv_at hl 1 rfl) ?_
  refine lv_if_lt (tgt := 16) hx hb dX0_hasState_1 (by decide) (fun c1 => ?_) (fun c1 => ?_)
  · have c1 := k_lt (a := p1.toInt) (b := 0) rfl (by decide) c1
    refine lv_iconst (v := 0) hx hb dX0_hasState_16 (by decide) ?_
    exact rt_z FX rfl ((fun k => match k with | 0 => (0 : Int32) | _ => 0), (fun _ => fun _ => 0), (fun _ => fun _ => 0)) rfl ⟨(show 0 ≤ ((0 : Int32)).toInt ∧ ((0 : Int32)).toInt ≤ 1 by decide), (fun h => absurd h (by decide))⟩ (hP.sub [0] rfl) (hD.sub [0] (by decide) rfl) hS (Nat.le_of_ble_eq_true rfl) (Nat.le_of_ble_eq_true rfl) dX0_hasState_17
  · have c1 := k_nlt (a := p1.toInt) (b := 0) rfl (by decide) c1
    refine lv_iload_n hx hb dX0_hasState_4 rfl (lv_at hl 1 rfl) ?_
    refine lv_aload_n hx hb dX0_hasState_5 rfl (lv_at hl 0 rfl) ?_
    refine g_get (C := RX0) (T := TX0) (N := 20) (ci := 0) (v := .int dstates) FC hKn hP i_X0 0 rfl rfl 0 (by decide) b_1 rfl dX0_hasState_6 ?_
    refine lv_icmp_ge (tgt := 16) hx hb dX0_hasState_9 (by decide) (fun c2 => ?_) (fun c2 => ?_)
    · have c2 := k_le (a := dstates.toInt) (b := p1.toInt) rfl rfl c2
      refine lv_iconst (v := 0) hx hb dX0_hasState_16 (by decide) ?_
      exact rt_z FX rfl ((fun k => match k with | 0 => (0 : Int32) | _ => 0), (fun _ => fun _ => 0), (fun _ => fun _ => 0)) rfl ⟨(show 0 ≤ ((0 : Int32)).toInt ∧ ((0 : Int32)).toInt ≤ 1 by decide), (fun h => absurd h (by decide))⟩ (hP.sub [0] rfl) (hD.sub [0] (by decide) rfl) hS (Nat.le_of_ble_eq_true rfl) (Nat.le_of_ble_eq_true rfl) dX0_hasState_17
    · have c2 := k_nle (a := dstates.toInt) (b := p1.toInt) rfl rfl c2
      refine lv_iconst (v := 1) hx hb dX0_hasState_12 (by decide) ?_
      refine lv_goto (tgt := 17) hx hb dX0_hasState_13 (by decide) ?_
      exact rt_z FX rfl ((fun k => match k with | 0 => (1 : Int32) | _ => 0), (fun _ => fun _ => 0), (fun _ => fun _ => 0)) rfl ⟨(show 0 ≤ ((1 : Int32)).toInt ∧ ((1 : Int32)).toInt ≤ 1 by decide), (fun _ => by omega)⟩ (hP.sub [0] rfl) (hD.sub [0] (by decide) rfl) hS (Nat.le_of_ble_eq_true rfl) (Nat.le_of_ble_eq_true rfl) dX0_hasState_17
set_option maxRecDepth 100000 in
set_option maxHeartbeats 4000000 in
theorem k_X0_hasDay (l : Launch) (g : GG) (h0 : Nat) (dr0 : Nat) (dr1 : Nat) (dr2 : Nat) (dr3 : Nat) (dr4 : Nat) (dr5 : Nat) (dr6 : Nat) (dr7 : Nat) (dr8 : Nat) (dr9 : Nat) (dstates : Int32) (dreally : Int32) (ddays : Int32) (dheal : Int32) (dleak : Int32) (dlines : Int32) (dhearers : Int32) (dwords : Int32) (dplans : Int32) (dnews : Int32) (p1 : Int32) (i_dstates : 0 ≤ dstates.toInt ∧ dstates.toInt ≤ 8) (i_dreally : 0 ≤ dreally.toInt ∧ dreally.toInt ≤ 7) (i_ddays : 0 ≤ ddays.toInt ∧ ddays.toInt ≤ 10) (i_dhearers : 0 ≤ dhearers.toInt ∧ dhearers.toInt ≤ 4) (i_dwords : 0 ≤ dwords.toInt ∧ dwords.toInt ≤ 8) (i_dplans : 0 ≤ dplans.toInt ∧ dplans.toInt ≤ 4) (i_dnews : 0 ≤ dnews.toInt ∧ dnews.toInt ≤ 6) : Ct l g yX0_hasDay cX0_hasDay 2 (some .boolean) { frames := 0, cells := 0, slots := 0, locals := 0 } [.ref h0, .int p1] [(h0, .inr (0, [.int dstates, .int dreally, .int ddays, .int dheal, .int dleak, .int dlines, .int dhearers, .int dwords, .int dplans, .int dnews, .ref dr0, .ref dr1, .ref dr2, .ref dr3, .ref dr4, .ref dr5, .ref dr6, .ref dr7, .ref dr8, .ref dr9]))] (S := (Nat → Int32) × (Nat → Nat → Int32) × (Nat → Nat → Int64)) (fun u => some (.int (u.1 0))) (fun u => (0 ≤ (u.1 0).toInt ∧ (u.1 0).toInt ≤ 1) ∧ ((u.1 0).toInt = 1 → 0 ≤ p1.toInt ∧ p1.toInt < ddays.toInt ∧ p1.toInt ≤ 9)) (fun u => [(h0, .inr (0, [.int dstates, .int dreally, .int ddays, .int dheal, .int dleak, .int dlines, .int dhearers, .int dwords, .int dplans, .int dnews, .ref dr0, .ref dr1, .ref dr2, .ref dr3, .ref dr4, .ref dr5, .ref dr6, .ref dr7, .ref dr8, .ref dr9]))]) := by
  refine Ct.of (by decide) (Nat.le_of_ble_eq_true rfl) ?_
  intro p e s m below meth c A ls FX hP hD hS hl
  obtain ⟨FC, hr, hlk, hKn, hA, hnm, hZ⟩ := id FX
  have FC : CallFix p m c cX0_hasDay 2 s _ BIG RX0 := FC
  obtain ⟨hx, hb, hml, hown, hB⟩ := id FC
  have hl : lv_has ls 2 [(0, .ref h0), (1, .int p1)] := hl
  refine lv_iload_n hx hb dX0_hasDay_0 rfl (lv_at hl 1 rfl) ?_
  refine lv_if_lt (tgt := 16) hx hb dX0_hasDay_1 (by decide) (fun c1 => ?_) (fun c1 => ?_)
  · have c1 := k_lt (a := p1.toInt) (b := 0) rfl (by decide) c1
    refine lv_iconst (v := 0) hx hb dX0_hasDay_16 (by decide) ?_
    exact rt_z FX rfl ((fun k => match k with | 0 => (0 : Int32) | _ => 0), (fun _ => fun _ => 0), (fun _ => fun _ => 0)) rfl ⟨(show 0 ≤ ((0 : Int32)).toInt ∧ ((0 : Int32)).toInt ≤ 1 by decide), (fun h => absurd h (by decide))⟩ (hP.sub [0] rfl) (hD.sub [0] (by decide) rfl) hS (Nat.le_of_ble_eq_true rfl) (Nat.le_of_ble_eq_true rfl) dX0_hasDay_17
  · have c1 := k_nlt (a := p1.toInt) (b := 0) rfl (by decide) c1
    refine lv_iload_n hx hb dX0_hasDay_4 rfl (lv_at hl 1 rfl) ?_
    refine lv_aload_n hx hb dX0_hasDay_5 rfl (lv_at hl 0 rfl) ?_
    refine g_get (C := RX0) (T := TX0) (N := 20) (ci := 0) (v := .int ddays) FC hKn hP i_X0 0 rfl rfl 2 (by decide) b_4 rfl dX0_hasDay_6 ?_
    refine lv_icmp_ge (tgt := 16) hx hb dX0_hasDay_9 (by decide) (fun c2 => ?_) (fun c2 => ?_)
    · have c2 := k_le (a := ddays.toInt) (b := p1.toInt) rfl rfl c2
      refine lv_iconst (v := 0) hx hb dX0_hasDay_16 (by decide) ?_
      exact rt_z FX rfl ((fun k => match k with | 0 => (0 : Int32) | _ => 0), (fun _ => fun _ => 0), (fun _ => fun _ => 0)) rfl ⟨(show 0 ≤ ((0 : Int32)).toInt ∧ ((0 : Int32)).toInt ≤ 1 by decide), (fun h => absurd h (by decide))⟩ (hP.sub [0] rfl) (hD.sub [0] (by decide) rfl) hS (Nat.le_of_ble_eq_true rfl) (Nat.le_of_ble_eq_true rfl) dX0_hasDay_17
    · have c2 := k_nle (a := ddays.toInt) (b := p1.toInt) rfl rfl c2
      refine lv_iconst (v := 1) hx hb dX0_hasDay_12 (by decide) ?_
      refine lv_goto (tgt := 17) hx hb dX0_hasDay_13 (by decide) ?_
      exact rt_z FX rfl ((fun k => match k with | 0 => (1 : Int32) | _ => 0), (fun _ => fun _ => 0), (fun _ => fun _ => 0)) rfl ⟨(show 0 ≤ ((1 : Int32)).toInt ∧ ((1 : Int32)).toInt ≤ 1 by decide), (fun _ => by omega)⟩ (hP.sub [0] rfl) (hD.sub [0] (by decide) rfl) hS (Nat.le_of_ble_eq_true rfl) (Nat.le_of_ble_eq_true rfl) dX0_hasDay_17
set_option maxRecDepth 100000 in
set_option maxHeartbeats 4000000 in
theorem k_X0_hasHearer (l : Launch) (g : GG) (h0 : Nat) (dr0 : Nat) (dr1 : Nat) (dr2 : Nat) (dr3 : Nat) (dr4 : Nat) (dr5 : Nat) (dr6 : Nat) (dr7 : Nat) (dr8 : Nat) (dr9 : Nat) (dstates : Int32) (dreally : Int32) (ddays : Int32) (dheal : Int32) (dleak : Int32) (dlines : Int32) (dhearers : Int32) (dwords : Int32) (dplans : Int32) (dnews : Int32) (p1 : Int32) (i_dstates : 0 ≤ dstates.toInt ∧ dstates.toInt ≤ 8) (i_dreally : 0 ≤ dreally.toInt ∧ dreally.toInt ≤ 7) (i_ddays : 0 ≤ ddays.toInt ∧ ddays.toInt ≤ 10) (i_dhearers : 0 ≤ dhearers.toInt ∧ dhearers.toInt ≤ 4) (i_dwords : 0 ≤ dwords.toInt ∧ dwords.toInt ≤ 8) (i_dplans : 0 ≤ dplans.toInt ∧ dplans.toInt ≤ 4) (i_dnews : 0 ≤ dnews.toInt ∧ dnews.toInt ≤ 6) : Ct l g yX0_hasHearer cX0_hasHearer 2 (some .boolean) { frames := 0, cells := 0, slots := 0, locals := 0 } [.ref h0, .int p1] [(h0, .inr (0, [.int dstates, .int dreally, .int ddays, .int dheal, .int dleak, .int dlines, .int dhearers, .int dwords, .int dplans, .int dnews, .ref dr0, .ref dr1, .ref dr2, .ref dr3, .ref dr4, .ref dr5, .ref dr6, .ref dr7, .ref dr8, .ref dr9]))] (S := (Nat → Int32) × (Nat → Nat → Int32) × (Nat → Nat → Int64)) (fun u => some (.int (u.1 0))) (fun u => (0 ≤ (u.1 0).toInt ∧ (u.1 0).toInt ≤ 1) ∧ ((u.1 0).toInt = 1 → 0 ≤ p1.toInt ∧ p1.toInt < dhearers.toInt ∧ p1.toInt ≤ 3)) (fun u => [(h0, .inr (0, [.int dstates, .int dreally, .int ddays, .int dheal, .int dleak, .int dlines, .int dhearers, .int dwords, .int dplans, .int dnews, .ref dr0, .ref dr1, .ref dr2, .ref dr3, .ref dr4, .ref dr5, .ref dr6, .ref dr7, .ref dr8, .ref dr9]))]) := by
  refine Ct.of (by decide) (Nat.le_of_ble_eq_true rfl) ?_
  intro p e s m below meth c A ls FX hP hD hS hl
  obtain ⟨FC, hr, hlk, hKn, hA, hnm, hZ⟩ := id FX
  have FC : CallFix p m c cX0_hasHearer 2 s _ BIG RX0 := FC
  obtain ⟨hx, hb, hml, hown, hB⟩ := id FC
  have hl : lv_has ls 2 [(0, .ref h0), (1, .int p1)] := hl
  refine lv_iload_n hx hb dX0_hasHearer_0 rfl (lv_at hl 1 rfl) ?_
  refine lv_if_lt (tgt := 16) hx hb dX0_hasHearer_1 (by decide) (fun c1 => ?_) (fun c1 => ?_)
  · have c1 := k_lt (a := p1.toInt) (b := 0) rfl (by decide) c1
    refine lv_iconst (v := 0) hx hb dX0_hasHearer_16 (by decide) ?_
    exact rt_z FX rfl ((fun k => match k with | 0 => (0 : Int32) | _ => 0), (fun _ => fun _ => 0), (fun _ => fun _ => 0)) rfl ⟨(show 0 ≤ ((0 : Int32)).toInt ∧ ((0 : Int32)).toInt ≤ 1 by decide), (fun h => absurd h (by decide))⟩ (hP.sub [0] rfl) (hD.sub [0] (by decide) rfl) hS (Nat.le_of_ble_eq_true rfl) (Nat.le_of_ble_eq_true rfl) dX0_hasHearer_17
  · have c1 := k_nlt (a := p1.toInt) (b := 0) rfl (by decide) c1
    refine lv_iload_n hx hb dX0_hasHearer_4 rfl (lv_at hl 1 rfl) ?_
    refine lv_aload_n hx hb dX0_hasHearer_5 rfl (lv_at hl 0 rfl) ?_
    refine g_get (C := RX0) (T := TX0) (N := 20) (ci := 0) (v := .int dhearers) FC hKn hP i_X0 0 rfl rfl 6 (by decide) b_2 rfl dX0_hasHearer_6 ?_
    refine lv_icmp_ge (tgt := 16) hx hb dX0_hasHearer_9 (by decide) (fun c2 => ?_) (fun c2 => ?_)
    · have c2 := k_le (a := dhearers.toInt) (b := p1.toInt) rfl rfl c2
      refine lv_iconst (v := 0) hx hb dX0_hasHearer_16 (by decide) ?_
      exact rt_z FX rfl ((fun k => match k with | 0 => (0 : Int32) | _ => 0), (fun _ => fun _ => 0), (fun _ => fun _ => 0)) rfl ⟨(show 0 ≤ ((0 : Int32)).toInt ∧ ((0 : Int32)).toInt ≤ 1 by decide), (fun h => absurd h (by decide))⟩ (hP.sub [0] rfl) (hD.sub [0] (by decide) rfl) hS (Nat.le_of_ble_eq_true rfl) (Nat.le_of_ble_eq_true rfl) dX0_hasHearer_17
    · have c2 := k_nle (a := dhearers.toInt) (b := p1.toInt) rfl rfl c2
      refine lv_iconst (v := 1) hx hb dX0_hasHearer_12 (by decide) ?_
      refine lv_goto (tgt := 17) hx hb dX0_hasHearer_13 (by decide) ?_
      exact rt_z FX rfl ((fun k => match k with | 0 => (1 : Int32) | _ => 0), (fun _ => fun _ => 0), (fun _ => fun _ => 0)) rfl ⟨(show 0 ≤ ((1 : Int32)).toInt ∧ ((1 : Int32)).toInt ≤ 1 by decide), (fun _ => by omega)⟩ (hP.sub [0] rfl) (hD.sub [0] (by decide) rfl) hS (Nat.le_of_ble_eq_true rfl) (Nat.le_of_ble_eq_true rfl) dX0_hasHearer_17
set_option maxRecDepth 100000 in
set_option maxHeartbeats 4000000 in
theorem k_X0_hasWord (l : Launch) (g : GG) (h0 : Nat) (dr0 : Nat) (dr1 : Nat) (dr2 : Nat) (dr3 : Nat) (dr4 : Nat) (dr5 : Nat) (dr6 : Nat) (dr7 : Nat) (dr8 : Nat) (dr9 : Nat) (dstates : Int32) (dreally : Int32) (ddays : Int32) (dheal : Int32) (dleak : Int32) (dlines : Int32) (dhearers : Int32) (dwords : Int32) (dplans : Int32) (dnews : Int32) (p1 : Int32) (i_dstates : 0 ≤ dstates.toInt ∧ dstates.toInt ≤ 8) (i_dreally : 0 ≤ dreally.toInt ∧ dreally.toInt ≤ 7) (i_ddays : 0 ≤ ddays.toInt ∧ ddays.toInt ≤ 10) (i_dhearers : 0 ≤ dhearers.toInt ∧ dhearers.toInt ≤ 4) (i_dwords : 0 ≤ dwords.toInt ∧ dwords.toInt ≤ 8) (i_dplans : 0 ≤ dplans.toInt ∧ dplans.toInt ≤ 4) (i_dnews : 0 ≤ dnews.toInt ∧ dnews.toInt ≤ 6) : Ct l g yX0_hasWord cX0_hasWord 2 (some .boolean) { frames := 0, cells := 0, slots := 0, locals := 0 } [.ref h0, .int p1] [(h0, .inr (0, [.int dstates, .int dreally, .int ddays, .int dheal, .int dleak, .int dlines, .int dhearers, .int dwords, .int dplans, .int dnews, .ref dr0, .ref dr1, .ref dr2, .ref dr3, .ref dr4, .ref dr5, .ref dr6, .ref dr7, .ref dr8, .ref dr9]))] (S := (Nat → Int32) × (Nat → Nat → Int32) × (Nat → Nat → Int64)) (fun u => some (.int (u.1 0))) (fun u => (0 ≤ (u.1 0).toInt ∧ (u.1 0).toInt ≤ 1) ∧ ((u.1 0).toInt = 1 → 0 ≤ p1.toInt ∧ p1.toInt < dwords.toInt ∧ p1.toInt ≤ 7)) (fun u => [(h0, .inr (0, [.int dstates, .int dreally, .int ddays, .int dheal, .int dleak, .int dlines, .int dhearers, .int dwords, .int dplans, .int dnews, .ref dr0, .ref dr1, .ref dr2, .ref dr3, .ref dr4, .ref dr5, .ref dr6, .ref dr7, .ref dr8, .ref dr9]))]) := by
  refine Ct.of (by decide) (Nat.le_of_ble_eq_true rfl) ?_
  intro p e s m below meth c A ls FX hP hD hS hl
  obtain ⟨FC, hr, hlk, hKn, hA, hnm, hZ⟩ := id FX
  have FC : CallFix p m c cX0_hasWord 2 s _ BIG RX0 := FC
  obtain ⟨hx, hb, hml, hown, hB⟩ := id FC
  have hl : lv_has ls 2 [(0, .ref h0), (1, .int p1)] := hl
  refine lv_iload_n hx hb dX0_hasWord_0 rfl (lv_at hl 1 rfl) ?_
  refine lv_if_lt (tgt := 16) hx hb dX0_hasWord_1 (by decide) (fun c1 => ?_) (fun c1 => ?_)
  · have c1 := k_lt (a := p1.toInt) (b := 0) rfl (by decide) c1
    refine lv_iconst (v := 0) hx hb dX0_hasWord_16 (by decide) ?_
    exact rt_z FX rfl ((fun k => match k with | 0 => (0 : Int32) | _ => 0), (fun _ => fun _ => 0), (fun _ => fun _ => 0)) rfl ⟨(show 0 ≤ ((0 : Int32)).toInt ∧ ((0 : Int32)).toInt ≤ 1 by decide), (fun h => absurd h (by decide))⟩ (hP.sub [0] rfl) (hD.sub [0] (by decide) rfl) hS (Nat.le_of_ble_eq_true rfl) (Nat.le_of_ble_eq_true rfl) dX0_hasWord_17
  · have c1 := k_nlt (a := p1.toInt) (b := 0) rfl (by decide) c1
    refine lv_iload_n hx hb dX0_hasWord_4 rfl (lv_at hl 1 rfl) ?_
    refine lv_aload_n hx hb dX0_hasWord_5 rfl (lv_at hl 0 rfl) ?_
    refine g_get (C := RX0) (T := TX0) (N := 20) (ci := 0) (v := .int dwords) FC hKn hP i_X0 0 rfl rfl 7 (by decide) b_5 rfl dX0_hasWord_6 ?_
    refine lv_icmp_ge (tgt := 16) hx hb dX0_hasWord_9 (by decide) (fun c2 => ?_) (fun c2 => ?_)
    · have c2 := k_le (a := dwords.toInt) (b := p1.toInt) rfl rfl c2
      refine lv_iconst (v := 0) hx hb dX0_hasWord_16 (by decide) ?_
      exact rt_z FX rfl ((fun k => match k with | 0 => (0 : Int32) | _ => 0), (fun _ => fun _ => 0), (fun _ => fun _ => 0)) rfl ⟨(show 0 ≤ ((0 : Int32)).toInt ∧ ((0 : Int32)).toInt ≤ 1 by decide), (fun h => absurd h (by decide))⟩ (hP.sub [0] rfl) (hD.sub [0] (by decide) rfl) hS (Nat.le_of_ble_eq_true rfl) (Nat.le_of_ble_eq_true rfl) dX0_hasWord_17
    · have c2 := k_nle (a := dwords.toInt) (b := p1.toInt) rfl rfl c2
      refine lv_iconst (v := 1) hx hb dX0_hasWord_12 (by decide) ?_
      refine lv_goto (tgt := 17) hx hb dX0_hasWord_13 (by decide) ?_
      exact rt_z FX rfl ((fun k => match k with | 0 => (1 : Int32) | _ => 0), (fun _ => fun _ => 0), (fun _ => fun _ => 0)) rfl ⟨(show 0 ≤ ((1 : Int32)).toInt ∧ ((1 : Int32)).toInt ≤ 1 by decide), (fun _ => by omega)⟩ (hP.sub [0] rfl) (hD.sub [0] (by decide) rfl) hS (Nat.le_of_ble_eq_true rfl) (Nat.le_of_ble_eq_true rfl) dX0_hasWord_17
set_option maxRecDepth 100000 in
set_option maxHeartbeats 4000000 in
theorem k_X0_hasPlan (l : Launch) (g : GG) (h0 : Nat) (dr0 : Nat) (dr1 : Nat) (dr2 : Nat) (dr3 : Nat) (dr4 : Nat) (dr5 : Nat) (dr6 : Nat) (dr7 : Nat) (dr8 : Nat) (dr9 : Nat) (dstates : Int32) (dreally : Int32) (ddays : Int32) (dheal : Int32) (dleak : Int32) (dlines : Int32) (dhearers : Int32) (dwords : Int32) (dplans : Int32) (dnews : Int32) (p1 : Int32) (i_dstates : 0 ≤ dstates.toInt ∧ dstates.toInt ≤ 8) (i_dreally : 0 ≤ dreally.toInt ∧ dreally.toInt ≤ 7) (i_ddays : 0 ≤ ddays.toInt ∧ ddays.toInt ≤ 10) (i_dhearers : 0 ≤ dhearers.toInt ∧ dhearers.toInt ≤ 4) (i_dwords : 0 ≤ dwords.toInt ∧ dwords.toInt ≤ 8) (i_dplans : 0 ≤ dplans.toInt ∧ dplans.toInt ≤ 4) (i_dnews : 0 ≤ dnews.toInt ∧ dnews.toInt ≤ 6) : Ct l g yX0_hasPlan cX0_hasPlan 2 (some .boolean) { frames := 0, cells := 0, slots := 0, locals := 0 } [.ref h0, .int p1] [(h0, .inr (0, [.int dstates, .int dreally, .int ddays, .int dheal, .int dleak, .int dlines, .int dhearers, .int dwords, .int dplans, .int dnews, .ref dr0, .ref dr1, .ref dr2, .ref dr3, .ref dr4, .ref dr5, .ref dr6, .ref dr7, .ref dr8, .ref dr9]))] (S := (Nat → Int32) × (Nat → Nat → Int32) × (Nat → Nat → Int64)) (fun u => some (.int (u.1 0))) (fun u => (0 ≤ (u.1 0).toInt ∧ (u.1 0).toInt ≤ 1) ∧ ((u.1 0).toInt = 1 → 0 ≤ p1.toInt ∧ p1.toInt < dplans.toInt ∧ p1.toInt ≤ 3)) (fun u => [(h0, .inr (0, [.int dstates, .int dreally, .int ddays, .int dheal, .int dleak, .int dlines, .int dhearers, .int dwords, .int dplans, .int dnews, .ref dr0, .ref dr1, .ref dr2, .ref dr3, .ref dr4, .ref dr5, .ref dr6, .ref dr7, .ref dr8, .ref dr9]))]) := by
  refine Ct.of (by decide) (Nat.le_of_ble_eq_true rfl) ?_
  intro p e s m below meth c A ls FX hP hD hS hl
  obtain ⟨FC, hr, hlk, hKn, hA, hnm, hZ⟩ := id FX
  have FC : CallFix p m c cX0_hasPlan 2 s _ BIG RX0 := FC
  obtain ⟨hx, hb, hml, hown, hB⟩ := id FC
  have hl : lv_has ls 2 [(0, .ref h0), (1, .int p1)] := hl
  refine lv_iload_n hx hb dX0_hasPlan_0 rfl (lv_at hl 1 rfl) ?_
  refine lv_if_lt (tgt := 16) hx hb dX0_hasPlan_1 (by decide) (fun c1 => ?_) (fun c1 => ?_)
  · have c1 := k_lt (a := p1.toInt) (b := 0) rfl (by decide) c1
    refine lv_iconst (v := 0) hx hb dX0_hasPlan_16 (by decide) ?_
    exact rt_z FX rfl ((fun k => match k with | 0 => (0 : Int32) | _ => 0), (fun _ => fun _ => 0), (fun _ => fun _ => 0)) rfl ⟨(show 0 ≤ ((0 : Int32)).toInt ∧ ((0 : Int32)).toInt ≤ 1 by decide), (fun h => absurd h (by decide))⟩ (hP.sub [0] rfl) (hD.sub [0] (by decide) rfl) hS (Nat.le_of_ble_eq_true rfl) (Nat.le_of_ble_eq_true rfl) dX0_hasPlan_17
  · have c1 := k_nlt (a := p1.toInt) (b := 0) rfl (by decide) c1
    refine lv_iload_n hx hb dX0_hasPlan_4 rfl (lv_at hl 1 rfl) ?_
    refine lv_aload_n hx hb dX0_hasPlan_5 rfl (lv_at hl 0 rfl) ?_
    refine g_get (C := RX0) (T := TX0) (N := 20) (ci := 0) (v := .int dplans) FC hKn hP i_X0 0 rfl rfl 8 (by decide) b_6 rfl dX0_hasPlan_6 ?_
    refine lv_icmp_ge (tgt := 16) hx hb dX0_hasPlan_9 (by decide) (fun c2 => ?_) (fun c2 => ?_)
    · have c2 := k_le (a := dplans.toInt) (b := p1.toInt) rfl rfl c2
      refine lv_iconst (v := 0) hx hb dX0_hasPlan_16 (by decide) ?_
      exact rt_z FX rfl ((fun k => match k with | 0 => (0 : Int32) | _ => 0), (fun _ => fun _ => 0), (fun _ => fun _ => 0)) rfl ⟨(show 0 ≤ ((0 : Int32)).toInt ∧ ((0 : Int32)).toInt ≤ 1 by decide), (fun h => absurd h (by decide))⟩ (hP.sub [0] rfl) (hD.sub [0] (by decide) rfl) hS (Nat.le_of_ble_eq_true rfl) (Nat.le_of_ble_eq_true rfl) dX0_hasPlan_17
    · have c2 := k_nle (a := dplans.toInt) (b := p1.toInt) rfl rfl c2
      refine lv_iconst (v := 1) hx hb dX0_hasPlan_12 (by decide) ?_
      refine lv_goto (tgt := 17) hx hb dX0_hasPlan_13 (by decide) ?_
      exact rt_z FX rfl ((fun k => match k with | 0 => (1 : Int32) | _ => 0), (fun _ => fun _ => 0), (fun _ => fun _ => 0)) rfl ⟨(show 0 ≤ ((1 : Int32)).toInt ∧ ((1 : Int32)).toInt ≤ 1 by decide), (fun _ => by omega)⟩ (hP.sub [0] rfl) (hD.sub [0] (by decide) rfl) hS (Nat.le_of_ble_eq_true rfl) (Nat.le_of_ble_eq_true rfl) dX0_hasPlan_17
set_option maxRecDepth 100000 in
set_option maxHeartbeats 4000000 in
theorem k_X0_hasNews (l : Launch) (g : GG) (h0 : Nat) (dr0 : Nat) (dr1 : Nat) (dr2 : Nat) (dr3 : Nat) (dr4 : Nat) (dr5 : Nat) (dr6 : Nat) (dr7 : Nat) (dr8 : Nat) (dr9 : Nat) (dstates : Int32) (dreally : Int32) (ddays : Int32) (dheal : Int32) (dleak : Int32) (dlines : Int32) (dhearers : Int32) (dwords : Int32) (dplans : Int32) (dnews : Int32) (p1 : Int32) (i_dstates : 0 ≤ dstates.toInt ∧ dstates.toInt ≤ 8) (i_dreally : 0 ≤ dreally.toInt ∧ dreally.toInt ≤ 7) (i_ddays : 0 ≤ ddays.toInt ∧ ddays.toInt ≤ 10) (i_dhearers : 0 ≤ dhearers.toInt ∧ dhearers.toInt ≤ 4) (i_dwords : 0 ≤ dwords.toInt ∧ dwords.toInt ≤ 8) (i_dplans : 0 ≤ dplans.toInt ∧ dplans.toInt ≤ 4) (i_dnews : 0 ≤ dnews.toInt ∧ dnews.toInt ≤ 6) : Ct l g yX0_hasNews cX0_hasNews 2 (some .boolean) { frames := 0, cells := 0, slots := 0, locals := 0 } [.ref h0, .int p1] [(h0, .inr (0, [.int dstates, .int dreally, .int ddays, .int dheal, .int dleak, .int dlines, .int dhearers, .int dwords, .int dplans, .int dnews, .ref dr0, .ref dr1, .ref dr2, .ref dr3, .ref dr4, .ref dr5, .ref dr6, .ref dr7, .ref dr8, .ref dr9]))] (S := (Nat → Int32) × (Nat → Nat → Int32) × (Nat → Nat → Int64)) (fun u => some (.int (u.1 0))) (fun u => (0 ≤ (u.1 0).toInt ∧ (u.1 0).toInt ≤ 1) ∧ ((u.1 0).toInt = 1 → 0 ≤ p1.toInt ∧ p1.toInt < dnews.toInt ∧ p1.toInt ≤ 5)) (fun u => [(h0, .inr (0, [.int dstates, .int dreally, .int ddays, .int dheal, .int dleak, .int dlines, .int dhearers, .int dwords, .int dplans, .int dnews, .ref dr0, .ref dr1, .ref dr2, .ref dr3, .ref dr4, .ref dr5, .ref dr6, .ref dr7, .ref dr8, .ref dr9]))]) := by
  refine Ct.of (by decide) (Nat.le_of_ble_eq_true rfl) ?_
  intro p e s m below meth c A ls FX hP hD hS hl
  obtain ⟨FC, hr, hlk, hKn, hA, hnm, hZ⟩ := id FX
  have FC : CallFix p m c cX0_hasNews 2 s _ BIG RX0 := FC
  obtain ⟨hx, hb, hml, hown, hB⟩ := id FC
  have hl : lv_has ls 2 [(0, .ref h0), (1, .int p1)] := hl
  refine lv_iload_n hx hb dX0_hasNews_0 rfl (lv_at hl 1 rfl) ?_
  refine lv_if_lt (tgt := 16) hx hb dX0_hasNews_1 (by decide) (fun c1 => ?_) (fun c1 => ?_)
  · have c1 := k_lt (a := p1.toInt) (b := 0) rfl (by decide) c1
    refine lv_iconst (v := 0) hx hb dX0_hasNews_16 (by decide) ?_
    exact rt_z FX rfl ((fun k => match k with | 0 => (0 : Int32) | _ => 0), (fun _ => fun _ => 0), (fun _ => fun _ => 0)) rfl ⟨(show 0 ≤ ((0 : Int32)).toInt ∧ ((0 : Int32)).toInt ≤ 1 by decide), (fun h => absurd h (by decide))⟩ (hP.sub [0] rfl) (hD.sub [0] (by decide) rfl) hS (Nat.le_of_ble_eq_true rfl) (Nat.le_of_ble_eq_true rfl) dX0_hasNews_17
  · have c1 := k_nlt (a := p1.toInt) (b := 0) rfl (by decide) c1
    refine lv_iload_n hx hb dX0_hasNews_4 rfl (lv_at hl 1 rfl) ?_
    refine lv_aload_n hx hb dX0_hasNews_5 rfl (lv_at hl 0 rfl) ?_
    refine g_get (C := RX0) (T := TX0) (N := 20) (ci := 0) (v := .int dnews) FC hKn hP i_X0 0 rfl rfl 9 (by decide) b_7 rfl dX0_hasNews_6 ?_
    refine lv_icmp_ge (tgt := 16) hx hb dX0_hasNews_9 (by decide) (fun c2 => ?_) (fun c2 => ?_)
    · have c2 := k_le (a := dnews.toInt) (b := p1.toInt) rfl rfl c2
      refine lv_iconst (v := 0) hx hb dX0_hasNews_16 (by decide) ?_
      exact rt_z FX rfl ((fun k => match k with | 0 => (0 : Int32) | _ => 0), (fun _ => fun _ => 0), (fun _ => fun _ => 0)) rfl ⟨(show 0 ≤ ((0 : Int32)).toInt ∧ ((0 : Int32)).toInt ≤ 1 by decide), (fun h => absurd h (by decide))⟩ (hP.sub [0] rfl) (hD.sub [0] (by decide) rfl) hS (Nat.le_of_ble_eq_true rfl) (Nat.le_of_ble_eq_true rfl) dX0_hasNews_17
    · have c2 := k_nle (a := dnews.toInt) (b := p1.toInt) rfl rfl c2
      refine lv_iconst (v := 1) hx hb dX0_hasNews_12 (by decide) ?_
      refine lv_goto (tgt := 17) hx hb dX0_hasNews_13 (by decide) ?_
      exact rt_z FX rfl ((fun k => match k with | 0 => (1 : Int32) | _ => 0), (fun _ => fun _ => 0), (fun _ => fun _ => 0)) rfl ⟨(show 0 ≤ ((1 : Int32)).toInt ∧ ((1 : Int32)).toInt ≤ 1 by decide), (fun _ => by omega)⟩ (hP.sub [0] rfl) (hD.sub [0] (by decide) rfl) hS (Nat.le_of_ble_eq_true rfl) (Nat.le_of_ble_eq_true rfl) dX0_hasNews_17
set_option maxRecDepth 100000 in
set_option maxHeartbeats 4000000 in
theorem k_X0_canTell (l : Launch) (g : GG) (h0 : Nat) (dr0 : Nat) (dr1 : Nat) (dr2 : Nat) (dr3 : Nat) (dr4 : Nat) (dr5 : Nat) (dr6 : Nat) (dr7 : Nat) (dr8 : Nat) (dr9 : Nat) (dstates : Int32) (dreally : Int32) (ddays : Int32) (dheal : Int32) (dleak : Int32) (dlines : Int32) (dhearers : Int32) (dwords : Int32) (dplans : Int32) (dnews : Int32) (p1 : Int32) (i_dstates : 0 ≤ dstates.toInt ∧ dstates.toInt ≤ 8) (i_dreally : 0 ≤ dreally.toInt ∧ dreally.toInt ≤ 7) (i_ddays : 0 ≤ ddays.toInt ∧ ddays.toInt ≤ 10) (i_dhearers : 0 ≤ dhearers.toInt ∧ dhearers.toInt ≤ 4) (i_dwords : 0 ≤ dwords.toInt ∧ dwords.toInt ≤ 8) (i_dplans : 0 ≤ dplans.toInt ∧ dplans.toInt ≤ 4) (i_dnews : 0 ≤ dnews.toInt ∧ dnews.toInt ≤ 6) : Ct l g yX0_canTell cX0_canTell 2 (some .boolean) { frames := 1, cells := 0, slots := 0, locals := 21 } [.ref h0, .int p1] [(h0, .inr (0, [.int dstates, .int dreally, .int ddays, .int dheal, .int dleak, .int dlines, .int dhearers, .int dwords, .int dplans, .int dnews, .ref dr0, .ref dr1, .ref dr2, .ref dr3, .ref dr4, .ref dr5, .ref dr6, .ref dr7, .ref dr8, .ref dr9]))] (S := (Nat → Int32) × (Nat → Nat → Int32) × (Nat → Nat → Int64)) (fun u => some (.int (u.1 0))) (fun u => (0 ≤ (u.1 0).toInt ∧ (u.1 0).toInt ≤ 1)) (fun u => [(h0, .inr (0, [.int dstates, .int dreally, .int ddays, .int dheal, .int dleak, .int dlines, .int dhearers, .int dwords, .int dplans, .int dnews, .ref dr0, .ref dr1, .ref dr2, .ref dr3, .ref dr4, .ref dr5, .ref dr6, .ref dr7, .ref dr8, .ref dr9]))]) := by
  refine Ct.of (by decide) (Nat.le_of_ble_eq_true rfl) ?_
  intro p e s m below meth c A ls FX hP hD hS hl
  obtain ⟨FC, hr, hlk, hKn, hA, hnm, hZ⟩ := id FX
  have FC : CallFix p m c cX0_canTell 2 s _ BIG RX0 := FC
  obtain ⟨hx, hb, hml, hown, hB⟩ := id FC
  have hl : lv_has ls 2 [(0, .ref h0), (1, .int p1)] := hl
  refine lv_aload_n hx hb dX0_canTell_0 rfl (lv_at hl 0 rfl) ?_
  refine lv_iload_n hx hb dX0_canTell_1 rfl (lv_at hl 1 rfl) ?_
  refine call_V (As := [.int p1]) (rest := []) (wr := []) FC hKn hZ (k_X0_hasWord l g h0 dr0 dr1 dr2 dr3 dr4 dr5 dr6 dr7 dr8 dr9 dstates dreally ddays dheal dleak dlines dhearers dwords dplans dnews p1 (by omega) (by omega) (by omega) (by omega) (by omega) (by omega) (by omega)) m_yX0_hasWord b_8 (ci := 0) rfl rfl rfl hP hD hS hA [0] [] rfl (by decide) rfl (by decide) (by decide) rfl hl.1 rfl (Nat.le_of_ble_eq_true rfl) dX0_canTell_2 ⟨(Nat.le_of_ble_eq_true rfl), (Nat.le_of_ble_eq_true rfl)⟩ ⟨(Nat.le_of_ble_eq_true rfl), (Nat.le_of_ble_eq_true rfl)⟩ (fun u1 H locs q2 hP hD hS => ?_)
  obtain ⟨q2_0, q2_1⟩ := q2
  have hP : va_P g.1 vwCl [(h0, .inr (0, [.int dstates, .int dreally, .int ddays, .int dheal, .int dleak, .int dlines, .int dhearers, .int dwords, .int dplans, .int dnews, .ref dr0, .ref dr1, .ref dr2, .ref dr3, .ref dr4, .ref dr5, .ref dr6, .ref dr7, .ref dr8, .ref dr9]))] H := hP
  have hD : va_D A [(h0, .inr (0, [.int dstates, .int dreally, .int ddays, .int dheal, .int dleak, .int dlines, .int dhearers, .int dwords, .int dplans, .int dnews, .ref dr0, .ref dr1, .ref dr2, .ref dr3, .ref dr4, .ref dr5, .ref dr6, .ref dr7, .ref dr8, .ref dr9]))] := hD
  refine W.eq (g2 := F0 m 5 ls [.int (u1.1 0)]) rfl ?_
  rcases (show (u1.1 0).toInt = 0 ∨ (u1.1 0).toInt = 1 by omega) with c3 | c3
  · skip
    refine lv_if_ne (tgt := 14) hx hb dX0_canTell_5 (by decide) (fun c4 => ?_) (fun c4 => ?_)
    · have c4 := k_ne (a := (u1.1 0).toInt) (b := 0) rfl (by decide) c4
      exfalso; omega
    · have c4 := k_eq (a := (u1.1 0).toInt) (b := 0) rfl (by decide) c4
      refine lv_iload_n hx hb dX0_canTell_8 rfl (lv_at hl 1 rfl) ?_
      refine lv_bipush (v := 8) hx hb dX0_canTell_9 (by decide) ?_
      refine lv_icmp_ne (tgt := 18) hx hb dX0_canTell_11 (by decide) (fun c5 => ?_) (fun c5 => ?_)
      · have c5 := k_ne (a := p1.toInt) (b := 8) rfl (by decide) c5
        refine lv_iconst (v := 0) hx hb dX0_canTell_18 (by decide) ?_
        exact rt_z FX rfl ((fun k => match k with | 0 => (0 : Int32) | _ => 0), (fun _ => fun _ => 0), (fun _ => fun _ => 0)) rfl (show 0 ≤ ((0 : Int32)).toInt ∧ ((0 : Int32)).toInt ≤ 1 by decide) (hP.sub [0] rfl) (hD.sub [0] (by decide) rfl) hS (Nat.le_of_ble_eq_true rfl) (Nat.le_of_ble_eq_true rfl) dX0_canTell_19
      · have c5 := k_eq (a := p1.toInt) (b := 8) rfl (by decide) c5
        refine lv_iconst (v := 1) hx hb dX0_canTell_14 (by decide) ?_
        refine lv_goto (tgt := 19) hx hb dX0_canTell_15 (by decide) ?_
        exact rt_z FX rfl ((fun k => match k with | 0 => (1 : Int32) | _ => 0), (fun _ => fun _ => 0), (fun _ => fun _ => 0)) rfl (show 0 ≤ ((1 : Int32)).toInt ∧ ((1 : Int32)).toInt ≤ 1 by decide) (hP.sub [0] rfl) (hD.sub [0] (by decide) rfl) hS (Nat.le_of_ble_eq_true rfl) (Nat.le_of_ble_eq_true rfl) dX0_canTell_19
  · have c3_r := q2_1 c3
    refine lv_if_ne (tgt := 14) hx hb dX0_canTell_5 (by decide) (fun c6 => ?_) (fun c6 => ?_)
    · have c6 := k_ne (a := (u1.1 0).toInt) (b := 0) rfl (by decide) c6
      refine lv_iconst (v := 1) hx hb dX0_canTell_14 (by decide) ?_
      refine lv_goto (tgt := 19) hx hb dX0_canTell_15 (by decide) ?_
      exact rt_z FX rfl ((fun k => match k with | 0 => (1 : Int32) | _ => 0), (fun _ => fun _ => 0), (fun _ => fun _ => 0)) rfl (show 0 ≤ ((1 : Int32)).toInt ∧ ((1 : Int32)).toInt ≤ 1 by decide) (hP.sub [0] rfl) (hD.sub [0] (by decide) rfl) hS (Nat.le_of_ble_eq_true rfl) (Nat.le_of_ble_eq_true rfl) dX0_canTell_19
    · have c6 := k_eq (a := (u1.1 0).toInt) (b := 0) rfl (by decide) c6
      exfalso; omega
set_option maxRecDepth 100000 in
set_option maxHeartbeats 4000000 in
theorem k_X0_hasBelief (l : Launch) (g : GG) (h0 : Nat) (dr0 : Nat) (dr1 : Nat) (dr2 : Nat) (dr3 : Nat) (dr4 : Nat) (dr5 : Nat) (dr6 : Nat) (dr7 : Nat) (dr8 : Nat) (dr9 : Nat) (dstates : Int32) (dreally : Int32) (ddays : Int32) (dheal : Int32) (dleak : Int32) (dlines : Int32) (dhearers : Int32) (dwords : Int32) (dplans : Int32) (dnews : Int32) (p1 : Int32) (i_dstates : 0 ≤ dstates.toInt ∧ dstates.toInt ≤ 8) (i_dreally : 0 ≤ dreally.toInt ∧ dreally.toInt ≤ 7) (i_ddays : 0 ≤ ddays.toInt ∧ ddays.toInt ≤ 10) (i_dhearers : 0 ≤ dhearers.toInt ∧ dhearers.toInt ≤ 4) (i_dwords : 0 ≤ dwords.toInt ∧ dwords.toInt ≤ 8) (i_dplans : 0 ≤ dplans.toInt ∧ dplans.toInt ≤ 4) (i_dnews : 0 ≤ dnews.toInt ∧ dnews.toInt ≤ 6) : Ct l g yX0_hasBelief cX0_hasBelief 2 (some .boolean) { frames := 1, cells := 0, slots := 0, locals := 20 } [.ref h0, .int p1] [(h0, .inr (0, [.int dstates, .int dreally, .int ddays, .int dheal, .int dleak, .int dlines, .int dhearers, .int dwords, .int dplans, .int dnews, .ref dr0, .ref dr1, .ref dr2, .ref dr3, .ref dr4, .ref dr5, .ref dr6, .ref dr7, .ref dr8, .ref dr9]))] (S := (Nat → Int32) × (Nat → Nat → Int32) × (Nat → Nat → Int64)) (fun u => some (.int (u.1 0))) (fun u => (0 ≤ (u.1 0).toInt ∧ (u.1 0).toInt ≤ 1) ∧ ((u.1 0).toInt = 1 → 1 ≤ p1.toInt ∧ p1.toInt ≤ 255)) (fun u => [(h0, .inr (0, [.int dstates, .int dreally, .int ddays, .int dheal, .int dleak, .int dlines, .int dhearers, .int dwords, .int dplans, .int dnews, .ref dr0, .ref dr1, .ref dr2, .ref dr3, .ref dr4, .ref dr5, .ref dr6, .ref dr7, .ref dr8, .ref dr9]))]) := by
  refine Ct.of (by decide) (Nat.le_of_ble_eq_true rfl) ?_
  intro p e s m below meth c A ls FX hP hD hS hl
  obtain ⟨FC, hr, hlk, hKn, hA, hnm, hZ⟩ := id FX
  have FC : CallFix p m c cX0_hasBelief 2 s _ BIG RX0 := FC
  obtain ⟨hx, hb, hml, hown, hB⟩ := id FC
  have hl : lv_has ls 2 [(0, .ref h0), (1, .int p1)] := hl
  refine lv_iload_n hx hb dX0_hasBelief_0 rfl (lv_at hl 1 rfl) ?_
  refine lv_iconst (v := 1) hx hb dX0_hasBelief_1 (by decide) ?_
  refine lv_icmp_lt (tgt := 17) hx hb dX0_hasBelief_2 (by decide) (fun c1 => ?_) (fun c1 => ?_)
  · have c1 := k_lt (a := p1.toInt) (b := 1) rfl (by decide) c1
    refine lv_iconst (v := 0) hx hb dX0_hasBelief_17 (by decide) ?_
    exact rt_z FX rfl ((fun k => match k with | 0 => (0 : Int32) | _ => 0), (fun _ => fun _ => 0), (fun _ => fun _ => 0)) rfl ⟨(show 0 ≤ ((0 : Int32)).toInt ∧ ((0 : Int32)).toInt ≤ 1 by decide), (fun h => absurd h (by decide))⟩ (hP.sub [0] rfl) (hD.sub [0] (by decide) rfl) hS (Nat.le_of_ble_eq_true rfl) (Nat.le_of_ble_eq_true rfl) dX0_hasBelief_18
  · have c1 := k_nlt (a := p1.toInt) (b := 1) rfl (by decide) c1
    refine lv_iload_n hx hb dX0_hasBelief_5 rfl (lv_at hl 1 rfl) ?_
    refine lv_aload_n hx hb dX0_hasBelief_6 rfl (lv_at hl 0 rfl) ?_
    refine call_V (As := []) (rest := [.int p1]) (wr := []) FC hKn hZ (k_X0_everything l g h0 dr0 dr1 dr2 dr3 dr4 dr5 dr6 dr7 dr8 dr9 dstates dreally ddays dheal dleak dlines dhearers dwords dplans dnews (by omega) (by omega) (by omega) (by omega) (by omega) (by omega) (by omega)) m_yX0_everything b_9 (ci := 0) rfl rfl rfl hP hD hS hA [0] [] rfl (by decide) rfl (by decide) (by decide) rfl hl.1 rfl (Nat.le_of_ble_eq_true rfl) dX0_hasBelief_7 ⟨(Nat.le_of_ble_eq_true rfl), (Nat.le_of_ble_eq_true rfl)⟩ ⟨(Nat.le_of_ble_eq_true rfl), (Nat.le_of_ble_eq_true rfl)⟩ (fun u2 H locs q3 hP hD hS => ?_)
    have q3_0 : 0 ≤ (u2.1 0).toInt ∧ (u2.1 0).toInt ≤ 255 := q3
    have hP : va_P g.1 vwCl [(h0, .inr (0, [.int dstates, .int dreally, .int ddays, .int dheal, .int dleak, .int dlines, .int dhearers, .int dwords, .int dplans, .int dnews, .ref dr0, .ref dr1, .ref dr2, .ref dr3, .ref dr4, .ref dr5, .ref dr6, .ref dr7, .ref dr8, .ref dr9]))] H := hP
    have hD : va_D A [(h0, .inr (0, [.int dstates, .int dreally, .int ddays, .int dheal, .int dleak, .int dlines, .int dhearers, .int dwords, .int dplans, .int dnews, .ref dr0, .ref dr1, .ref dr2, .ref dr3, .ref dr4, .ref dr5, .ref dr6, .ref dr7, .ref dr8, .ref dr9]))] := hD
    refine W.eq (g2 := F0 m 10 ls [.int (u2.1 0), .int p1]) rfl ?_
    refine lv_icmp_gt (tgt := 17) hx hb dX0_hasBelief_10 (by decide) (fun c4 => ?_) (fun c4 => ?_)
    · have c4 := k_lt (a := (u2.1 0).toInt) (b := p1.toInt) rfl rfl c4
      refine lv_iconst (v := 0) hx hb dX0_hasBelief_17 (by decide) ?_
      exact rt_z FX rfl ((fun k => match k with | 0 => (0 : Int32) | _ => 0), (fun _ => fun _ => 0), (fun _ => fun _ => 0)) rfl ⟨(show 0 ≤ ((0 : Int32)).toInt ∧ ((0 : Int32)).toInt ≤ 1 by decide), (fun h => absurd h (by decide))⟩ (hP.sub [0] rfl) (hD.sub [0] (by decide) rfl) hS (Nat.le_of_ble_eq_true rfl) (Nat.le_of_ble_eq_true rfl) dX0_hasBelief_18
    · have c4 := k_nlt (a := (u2.1 0).toInt) (b := p1.toInt) rfl rfl c4
      refine lv_iconst (v := 1) hx hb dX0_hasBelief_13 (by decide) ?_
      refine lv_goto (tgt := 18) hx hb dX0_hasBelief_14 (by decide) ?_
      exact rt_z FX rfl ((fun k => match k with | 0 => (1 : Int32) | _ => 0), (fun _ => fun _ => 0), (fun _ => fun _ => 0)) rfl ⟨(show 0 ≤ ((1 : Int32)).toInt ∧ ((1 : Int32)).toInt ≤ 1 by decide), (fun _ => by omega)⟩ (hP.sub [0] rfl) (hD.sub [0] (by decide) rfl) hS (Nat.le_of_ble_eq_true rfl) (Nat.le_of_ble_eq_true rfl) dX0_hasBelief_18
set_option maxRecDepth 100000 in
set_option maxHeartbeats 4000000 in
theorem k_X0_thoughtOf (l : Launch) (g : GG) (h0 : Nat) (dr0 : Nat) (dr1 : Nat) (dr2 : Nat) (dr3 : Nat) (dr4 : Nat) (dr5 : Nat) (dr6 : Nat) (dr7 : Nat) (dr8 : Nat) (dr9 : Nat) (dstates : Int32) (dreally : Int32) (ddays : Int32) (dheal : Int32) (dleak : Int32) (dlines : Int32) (dhearers : Int32) (dwords : Int32) (dplans : Int32) (dnews : Int32) (dthoughts : Nat → Int32) (p1 : Int32) (p2 : Int32) (i_dstates : 0 ≤ dstates.toInt ∧ dstates.toInt ≤ 8) (i_dreally : 0 ≤ dreally.toInt ∧ dreally.toInt ≤ 7) (i_ddays : 0 ≤ ddays.toInt ∧ ddays.toInt ≤ 10) (i_dhearers : 0 ≤ dhearers.toInt ∧ dhearers.toInt ≤ 4) (i_dwords : 0 ≤ dwords.toInt ∧ dwords.toInt ≤ 8) (i_dplans : 0 ≤ dplans.toInt ∧ dplans.toInt ≤ 4) (i_dnews : 0 ≤ dnews.toInt ∧ dnews.toInt ≤ 6) (i_p1 : 0 ≤ p1.toInt ∧ p1.toInt ≤ 3) (i_p2 : 0 ≤ p2.toInt ∧ p2.toInt ≤ 7) : Ct l g yX0_thoughtOf cX0_thoughtOf 3 (some .int) { frames := 0, cells := 0, slots := 0, locals := 0 } [.ref h0, .int p1, .int p2] [(h0, .inr (0, [.int dstates, .int dreally, .int ddays, .int dheal, .int dleak, .int dlines, .int dhearers, .int dwords, .int dplans, .int dnews, .ref dr0, .ref dr1, .ref dr2, .ref dr3, .ref dr4, .ref dr5, .ref dr6, .ref dr7, .ref dr8, .ref dr9])), (dr1, .inl (g.2 0, 32, .inl dthoughts))] (S := (Nat → Int32) × (Nat → Nat → Int32) × (Nat → Nat → Int64)) (fun u => some (.int (u.1 0))) (fun u => True) (fun u => [(h0, .inr (0, [.int dstates, .int dreally, .int ddays, .int dheal, .int dleak, .int dlines, .int dhearers, .int dwords, .int dplans, .int dnews, .ref dr0, .ref dr1, .ref dr2, .ref dr3, .ref dr4, .ref dr5, .ref dr6, .ref dr7, .ref dr8, .ref dr9])), (dr1, .inl (g.2 0, 32, .inl dthoughts))]) := by
  refine Ct.of (by decide) (Nat.le_of_ble_eq_true rfl) ?_
  intro p e s m below meth c A ls FX hP hD hS hl
  obtain ⟨FC, hr, hlk, hKn, hA, hnm, hZ⟩ := id FX
  have FC : CallFix p m c cX0_thoughtOf 3 s _ BIG RX0 := FC
  obtain ⟨hx, hb, hml, hown, hB⟩ := id FC
  have hl : lv_has ls 3 [(0, .ref h0), (1, .int p1), (2, .int p2)] := hl
  refine lv_aload_n hx hb dX0_thoughtOf_0 rfl (lv_at hl 0 rfl) ?_
  refine g_get (C := RX0) (T := TX0) (N := 20) (ci := 0) (v := .ref dr1) FC hKn hP i_X0 0 rfl rfl 11 (by decide) b_10 rfl dX0_thoughtOf_1 ?_
  refine lv_iload_n hx hb dX0_thoughtOf_4 rfl (lv_at hl 1 rfl) ?_
  refine lv_bipush (v := 8) hx hb dX0_thoughtOf_5 (by decide) ?_
  refine lv_imul hx hb dX0_thoughtOf_7 ?_
  have kc8 : (8 : Int32).toInt = 8 := by decide
  refine lv_topi (fun z1 e_z1 => ?_)
  have t_z1 : z1.toInt = p1.toInt * 8 := by rw [e_z1, fb_mulI (by rw [show (8 : Int32).toInt = 8 by decide]; omega) (by rw [show (8 : Int32).toInt = 8 by decide]; omega), show (8 : Int32).toInt = 8 by decide]
  refine lv_iload_n hx hb dX0_thoughtOf_8 rfl (lv_at hl 2 rfl) ?_
  refine lv_iadd hx hb dX0_thoughtOf_9 ?_
  refine lv_topi (fun z2 e_z2 => ?_)
  have t_z2 : z2.toInt = z1.toInt + p2.toInt := by rw [e_z2]; exact fb_addI (by omega) (by omega)
  refine va_iald hx hb hKn.1 hP 1 0 rfl rfl (vp_in_iff.mpr ⟨by omega, by omega⟩) dX0_thoughtOf_10 ?_
  refine lv_topi (fun z3 e_z3 => ?_)
  exact rt_i FX ((fun k => match k with | 0 => z3 | _ => 0), (fun _ => fun _ => 0), (fun _ => fun _ => 0)) rfl trivial (hP.sub [0, 1] rfl) (hD.sub [0, 1] (by decide) rfl) hS (Nat.le_of_ble_eq_true rfl) (Nat.le_of_ble_eq_true rfl) dX0_thoughtOf_11
set_option maxRecDepth 100000 in
set_option maxHeartbeats 4000000 in
theorem k_X0_isTrue (l : Launch) (g : GG) (h0 : Nat) (dr0 : Nat) (dr1 : Nat) (dr2 : Nat) (dr3 : Nat) (dr4 : Nat) (dr5 : Nat) (dr6 : Nat) (dr7 : Nat) (dr8 : Nat) (dr9 : Nat) (dstates : Int32) (dreally : Int32) (ddays : Int32) (dheal : Int32) (dleak : Int32) (dlines : Int32) (dhearers : Int32) (dwords : Int32) (dplans : Int32) (dnews : Int32) (dmeanings : Nat → Int32) (p1 : Int32) (i_dstates : 0 ≤ dstates.toInt ∧ dstates.toInt ≤ 8) (i_dreally : 0 ≤ dreally.toInt ∧ dreally.toInt ≤ 7) (i_ddays : 0 ≤ ddays.toInt ∧ ddays.toInt ≤ 10) (i_dhearers : 0 ≤ dhearers.toInt ∧ dhearers.toInt ≤ 4) (i_dwords : 0 ≤ dwords.toInt ∧ dwords.toInt ≤ 8) (i_dplans : 0 ≤ dplans.toInt ∧ dplans.toInt ≤ 4) (i_dnews : 0 ≤ dnews.toInt ∧ dnews.toInt ≤ 6) (i_dmeanings : ab dmeanings 8 0 255) (i_p1 : 0 ≤ p1.toInt ∧ p1.toInt ≤ 7) : Ct l g yX0_isTrue cX0_isTrue 2 (some .boolean) { frames := 0, cells := 0, slots := 0, locals := 0 } [.ref h0, .int p1] [(h0, .inr (0, [.int dstates, .int dreally, .int ddays, .int dheal, .int dleak, .int dlines, .int dhearers, .int dwords, .int dplans, .int dnews, .ref dr0, .ref dr1, .ref dr2, .ref dr3, .ref dr4, .ref dr5, .ref dr6, .ref dr7, .ref dr8, .ref dr9])), (dr5, .inl (g.2 0, 8, .inl dmeanings))] (S := (Nat → Int32) × (Nat → Nat → Int32) × (Nat → Nat → Int64)) (fun u => some (.int (u.1 0))) (fun u => (0 ≤ (u.1 0).toInt ∧ (u.1 0).toInt ≤ 1)) (fun u => [(h0, .inr (0, [.int dstates, .int dreally, .int ddays, .int dheal, .int dleak, .int dlines, .int dhearers, .int dwords, .int dplans, .int dnews, .ref dr0, .ref dr1, .ref dr2, .ref dr3, .ref dr4, .ref dr5, .ref dr6, .ref dr7, .ref dr8, .ref dr9])), (dr5, .inl (g.2 0, 8, .inl dmeanings))]) := by
  refine Ct.of (by decide) (Nat.le_of_ble_eq_true rfl) ?_
  intro p e s m below meth c A ls FX hP hD hS hl
  obtain ⟨FC, hr, hlk, hKn, hA, hnm, hZ⟩ := id FX
  have FC : CallFix p m c cX0_isTrue 2 s _ BIG RX0 := FC
  obtain ⟨hx, hb, hml, hown, hB⟩ := id FC
  have hl : lv_has ls 2 [(0, .ref h0), (1, .int p1)] := hl
  refine lv_aload_n hx hb dX0_isTrue_0 rfl (lv_at hl 0 rfl) ?_
  refine g_get (C := RX0) (T := TX0) (N := 20) (ci := 0) (v := .ref dr5) FC hKn hP i_X0 0 rfl rfl 15 (by decide) b_11 rfl dX0_isTrue_1 ?_
  refine lv_iload_n hx hb dX0_isTrue_4 rfl (lv_at hl 1 rfl) ?_
  refine va_iald hx hb hKn.1 hP 1 0 rfl rfl (vp_in_iff.mpr ⟨by omega, by omega⟩) dX0_isTrue_5 ?_
  refine lv_topi (fun z1 e_z1 => ?_)
  have t_z1 : 0 ≤ z1.toInt ∧ z1.toInt ≤ 255 := by rw [e_z1]; exact i_dmeanings _ (clt (by omega) (by omega))
  refine lv_aload_n hx hb dX0_isTrue_6 rfl (lv_at hl 0 rfl) ?_
  refine g_get (C := RX0) (T := TX0) (N := 20) (ci := 0) (v := .int dreally) FC hKn hP i_X0 0 rfl rfl 1 (by decide) b_3 rfl dX0_isTrue_7 ?_
  refine lv_ishr hx hb dX0_isTrue_10 ?_
  refine lv_topi (fun z2 e_z2 => ?_)
  refine lv_iconst (v := 1) hx hb dX0_isTrue_11 (by decide) ?_
  refine lv_iand hx hb dX0_isTrue_12 ?_
  have kc1 : (1 : Int32).toInt = 1 := by decide
  refine lv_topi (fun z3 e_z3 => ?_)
  have t_z3 : 0 ≤ z3.toInt ∧ z3.toInt ≤ 1 := by rw [e_z3]; exact and_r (by omega) (by omega)
  refine lv_iconst (v := 1) hx hb dX0_isTrue_13 (by decide) ?_
  refine lv_icmp_ne (tgt := 21) hx hb dX0_isTrue_14 (by decide) (fun c4 => ?_) (fun c4 => ?_)
  · have c4 := k_ne (a := z3.toInt) (b := 1) rfl (by decide) c4
    refine lv_iconst (v := 0) hx hb dX0_isTrue_21 (by decide) ?_
    exact rt_z FX rfl ((fun k => match k with | 0 => (0 : Int32) | _ => 0), (fun _ => fun _ => 0), (fun _ => fun _ => 0)) rfl (show 0 ≤ ((0 : Int32)).toInt ∧ ((0 : Int32)).toInt ≤ 1 by decide) (hP.sub [0, 1] rfl) (hD.sub [0, 1] (by decide) rfl) hS (Nat.le_of_ble_eq_true rfl) (Nat.le_of_ble_eq_true rfl) dX0_isTrue_22
  · have c4 := k_eq (a := z3.toInt) (b := 1) rfl (by decide) c4
    refine lv_iconst (v := 1) hx hb dX0_isTrue_17 (by decide) ?_
    refine lv_goto (tgt := 22) hx hb dX0_isTrue_18 (by decide) ?_
    exact rt_z FX rfl ((fun k => match k with | 0 => (1 : Int32) | _ => 0), (fun _ => fun _ => 0), (fun _ => fun _ => 0)) rfl (show 0 ≤ ((1 : Int32)).toInt ∧ ((1 : Int32)).toInt ≤ 1 by decide) (hP.sub [0, 1] rfl) (hD.sub [0, 1] (by decide) rfl) hS (Nat.le_of_ble_eq_true rfl) (Nat.le_of_ble_eq_true rfl) dX0_isTrue_22
set_option maxRecDepth 100000 in
set_option maxHeartbeats 4000000 in
theorem k_X0_shameOf (l : Launch) (g : GG) (h0 : Nat) (dr0 : Nat) (dr1 : Nat) (dr2 : Nat) (dr3 : Nat) (dr4 : Nat) (dr5 : Nat) (dr6 : Nat) (dr7 : Nat) (dr8 : Nat) (dr9 : Nat) (dstates : Int32) (dreally : Int32) (ddays : Int32) (dheal : Int32) (dleak : Int32) (dlines : Int32) (dhearers : Int32) (dwords : Int32) (dplans : Int32) (dnews : Int32) (dmeanings : Nat → Int32) (dshames : Nat → Int32) (p1 : Int32) (i_dstates : 0 ≤ dstates.toInt ∧ dstates.toInt ≤ 8) (i_dreally : 0 ≤ dreally.toInt ∧ dreally.toInt ≤ 7) (i_ddays : 0 ≤ ddays.toInt ∧ ddays.toInt ≤ 10) (i_dhearers : 0 ≤ dhearers.toInt ∧ dhearers.toInt ≤ 4) (i_dwords : 0 ≤ dwords.toInt ∧ dwords.toInt ≤ 8) (i_dplans : 0 ≤ dplans.toInt ∧ dplans.toInt ≤ 4) (i_dnews : 0 ≤ dnews.toInt ∧ dnews.toInt ≤ 6) (i_dmeanings : ab dmeanings 8 0 255) : Ct l g yX0_shameOf cX0_shameOf 2 (some .int) { frames := 1, cells := 0, slots := 0, locals := 21 } [.ref h0, .int p1] [(h0, .inr (0, [.int dstates, .int dreally, .int ddays, .int dheal, .int dleak, .int dlines, .int dhearers, .int dwords, .int dplans, .int dnews, .ref dr0, .ref dr1, .ref dr2, .ref dr3, .ref dr4, .ref dr5, .ref dr6, .ref dr7, .ref dr8, .ref dr9])), (dr5, .inl (g.2 0, 8, .inl dmeanings)), (dr4, .inl (g.2 0, 8, .inl dshames))] (S := (Nat → Int32) × (Nat → Nat → Int32) × (Nat → Nat → Int64)) (fun u => some (.int (u.1 0))) (fun u => True) (fun u => [(h0, .inr (0, [.int dstates, .int dreally, .int ddays, .int dheal, .int dleak, .int dlines, .int dhearers, .int dwords, .int dplans, .int dnews, .ref dr0, .ref dr1, .ref dr2, .ref dr3, .ref dr4, .ref dr5, .ref dr6, .ref dr7, .ref dr8, .ref dr9])), (dr5, .inl (g.2 0, 8, .inl dmeanings)), (dr4, .inl (g.2 0, 8, .inl dshames))]) := by
  refine Ct.of (by decide) (Nat.le_of_ble_eq_true rfl) ?_
  intro p e s m below meth c A ls FX hP hD hS hl
  obtain ⟨FC, hr, hlk, hKn, hA, hnm, hZ⟩ := id FX
  have FC : CallFix p m c cX0_shameOf 2 s _ BIG RX0 := FC
  obtain ⟨hx, hb, hml, hown, hB⟩ := id FC
  have hl : lv_has ls 2 [(0, .ref h0), (1, .int p1)] := hl
  refine lv_aload_n hx hb dX0_shameOf_0 rfl (lv_at hl 0 rfl) ?_
  refine lv_iload_n hx hb dX0_shameOf_1 rfl (lv_at hl 1 rfl) ?_
  refine call_V (As := [.int p1]) (rest := []) (wr := [(dr5, .inl (g.2 0, 8, .inl dmeanings)), (dr4, .inl (g.2 0, 8, .inl dshames))]) FC hKn hZ (k_X0_hasWord l g h0 dr0 dr1 dr2 dr3 dr4 dr5 dr6 dr7 dr8 dr9 dstates dreally ddays dheal dleak dlines dhearers dwords dplans dnews p1 (by omega) (by omega) (by omega) (by omega) (by omega) (by omega) (by omega)) m_yX0_hasWord b_8 (ci := 0) rfl rfl rfl hP hD hS hA [0] [1, 2] rfl (by decide) rfl (by decide) (by decide) rfl hl.1 rfl (Nat.le_of_ble_eq_true rfl) dX0_shameOf_2 ⟨(Nat.le_of_ble_eq_true rfl), (Nat.le_of_ble_eq_true rfl)⟩ ⟨(Nat.le_of_ble_eq_true rfl), (Nat.le_of_ble_eq_true rfl)⟩ (fun u1 H locs q2 hP hD hS => ?_)
  obtain ⟨q2_0, q2_1⟩ := q2
  have hP : va_P g.1 vwCl [(dr5, .inl (g.2 0, 8, .inl dmeanings)), (dr4, .inl (g.2 0, 8, .inl dshames)), (h0, .inr (0, [.int dstates, .int dreally, .int ddays, .int dheal, .int dleak, .int dlines, .int dhearers, .int dwords, .int dplans, .int dnews, .ref dr0, .ref dr1, .ref dr2, .ref dr3, .ref dr4, .ref dr5, .ref dr6, .ref dr7, .ref dr8, .ref dr9]))] H := hP
  have hD : va_D A [(dr5, .inl (g.2 0, 8, .inl dmeanings)), (dr4, .inl (g.2 0, 8, .inl dshames)), (h0, .inr (0, [.int dstates, .int dreally, .int ddays, .int dheal, .int dleak, .int dlines, .int dhearers, .int dwords, .int dplans, .int dnews, .ref dr0, .ref dr1, .ref dr2, .ref dr3, .ref dr4, .ref dr5, .ref dr6, .ref dr7, .ref dr8, .ref dr9]))] := hD
  refine W.eq (g2 := F0 m 5 ls [.int (u1.1 0)]) rfl ?_
  rcases (show (u1.1 0).toInt = 0 ∨ (u1.1 0).toInt = 1 by omega) with c3 | c3
  · skip
    refine lv_if_eq (tgt := 25) hx hb dX0_shameOf_5 (by decide) (fun c4 => ?_) (fun c4 => ?_)
    · have c4 := k_eq (a := (u1.1 0).toInt) (b := 0) rfl (by decide) c4
      refine lv_iconst (v := 0) hx hb dX0_shameOf_25 (by decide) ?_
      exact rt_i FX ((fun k => match k with | 0 => (0 : Int32) | _ => 0), (fun _ => fun _ => 0), (fun _ => fun _ => 0)) rfl trivial (hP.sub [2, 0, 1] rfl) (hD.sub [2, 0, 1] (by decide) rfl) hS (Nat.le_of_ble_eq_true rfl) (Nat.le_of_ble_eq_true rfl) dX0_shameOf_26
    · have c4 := k_ne (a := (u1.1 0).toInt) (b := 0) rfl (by decide) c4
      exfalso; omega
  · have c3_r := q2_1 c3
    refine lv_if_eq (tgt := 25) hx hb dX0_shameOf_5 (by decide) (fun c5 => ?_) (fun c5 => ?_)
    · have c5 := k_eq (a := (u1.1 0).toInt) (b := 0) rfl (by decide) c5
      exfalso; omega
    · have c5 := k_ne (a := (u1.1 0).toInt) (b := 0) rfl (by decide) c5
      refine lv_aload_n hx hb dX0_shameOf_8 rfl (lv_at hl 0 rfl) ?_
      refine lv_iload_n hx hb dX0_shameOf_9 rfl (lv_at hl 1 rfl) ?_
      refine call_V (As := [.int p1]) (rest := []) (wr := [(dr4, .inl (g.2 0, 8, .inl dshames))]) FC hKn hZ (k_X0_isTrue l g h0 dr0 dr1 dr2 dr3 dr4 dr5 dr6 dr7 dr8 dr9 dstates dreally ddays dheal dleak dlines dhearers dwords dplans dnews dmeanings p1 (by omega) (by omega) (by omega) (by omega) (by omega) (by omega) (by omega) i_dmeanings (by omega)) m_yX0_isTrue b_12 (ci := 0) rfl rfl rfl hP hD hS hA [2, 0] [1] rfl (by decide) rfl (by decide) (by decide) rfl hl.1 rfl (Nat.le_of_ble_eq_true rfl) dX0_shameOf_10 ⟨(Nat.le_of_ble_eq_true rfl), (Nat.le_of_ble_eq_true rfl)⟩ ⟨(Nat.le_of_ble_eq_true rfl), (Nat.le_of_ble_eq_true rfl)⟩ (fun u6 H locs q7 hP hD hS => ?_)
      have q7_0 : 0 ≤ (u6.1 0).toInt ∧ (u6.1 0).toInt ≤ 1 := q7
      have hP : va_P g.1 vwCl [(dr4, .inl (g.2 0, 8, .inl dshames)), (h0, .inr (0, [.int dstates, .int dreally, .int ddays, .int dheal, .int dleak, .int dlines, .int dhearers, .int dwords, .int dplans, .int dnews, .ref dr0, .ref dr1, .ref dr2, .ref dr3, .ref dr4, .ref dr5, .ref dr6, .ref dr7, .ref dr8, .ref dr9])), (dr5, .inl (g.2 0, 8, .inl dmeanings))] H := hP
      have hD : va_D A [(dr4, .inl (g.2 0, 8, .inl dshames)), (h0, .inr (0, [.int dstates, .int dreally, .int ddays, .int dheal, .int dleak, .int dlines, .int dhearers, .int dwords, .int dplans, .int dnews, .ref dr0, .ref dr1, .ref dr2, .ref dr3, .ref dr4, .ref dr5, .ref dr6, .ref dr7, .ref dr8, .ref dr9])), (dr5, .inl (g.2 0, 8, .inl dmeanings))] := hD
      refine W.eq (g2 := F0 m 13 ls [.int (u6.1 0)]) rfl ?_
      refine lv_if_ne (tgt := 25) hx hb dX0_shameOf_13 (by decide) (fun c8 => ?_) (fun c8 => ?_)
      · have c8 := k_ne (a := (u6.1 0).toInt) (b := 0) rfl (by decide) c8
        refine lv_iconst (v := 0) hx hb dX0_shameOf_25 (by decide) ?_
        exact rt_i FX ((fun k => match k with | 0 => (0 : Int32) | _ => 0), (fun _ => fun _ => 0), (fun _ => fun _ => 0)) rfl trivial (hP.sub [1, 2, 0] rfl) (hD.sub [1, 2, 0] (by decide) rfl) hS (Nat.le_of_ble_eq_true rfl) (Nat.le_of_ble_eq_true rfl) dX0_shameOf_26
      · have c8 := k_eq (a := (u6.1 0).toInt) (b := 0) rfl (by decide) c8
        refine lv_aload_n hx hb dX0_shameOf_16 rfl (lv_at hl 0 rfl) ?_
        refine g_get (C := RX0) (T := TX0) (N := 20) (ci := 0) (v := .ref dr4) FC hKn hP i_X0 1 rfl rfl 14 (by decide) b_13 rfl dX0_shameOf_17 ?_
        refine lv_iload_n hx hb dX0_shameOf_20 rfl (lv_at hl 1 rfl) ?_
        refine va_iald hx hb hKn.1 hP 0 0 rfl rfl (vp_in_iff.mpr ⟨by omega, by omega⟩) dX0_shameOf_21 ?_
        refine lv_topi (fun z9 e_z9 => ?_)
        refine lv_goto (tgt := 26) hx hb dX0_shameOf_22 (by decide) ?_
        exact rt_i FX ((fun k => match k with | 0 => z9 | _ => 0), (fun _ => fun _ => 0), (fun _ => fun _ => 0)) rfl trivial (hP.sub [1, 2, 0] rfl) (hD.sub [1, 2, 0] (by decide) rfl) hS (Nat.le_of_ble_eq_true rfl) (Nat.le_of_ble_eq_true rfl) dX0_shameOf_26
set_option maxRecDepth 100000 in
set_option maxHeartbeats 4000000 in
theorem k_X0_planWord (l : Launch) (g : GG) (h0 : Nat) (dr0 : Nat) (dr1 : Nat) (dr2 : Nat) (dr3 : Nat) (dr4 : Nat) (dr5 : Nat) (dr6 : Nat) (dr7 : Nat) (dr8 : Nat) (dr9 : Nat) (dstates : Int32) (dreally : Int32) (ddays : Int32) (dheal : Int32) (dleak : Int32) (dlines : Int32) (dhearers : Int32) (dwords : Int32) (dplans : Int32) (dnews : Int32) (dplanSizes : Nat → Int32) (dplanWords : Nat → Int32) (p1 : Int32) (p2 : Int32) (i_dstates : 0 ≤ dstates.toInt ∧ dstates.toInt ≤ 8) (i_dreally : 0 ≤ dreally.toInt ∧ dreally.toInt ≤ 7) (i_ddays : 0 ≤ ddays.toInt ∧ ddays.toInt ≤ 10) (i_dhearers : 0 ≤ dhearers.toInt ∧ dhearers.toInt ≤ 4) (i_dwords : 0 ≤ dwords.toInt ∧ dwords.toInt ≤ 8) (i_dplans : 0 ≤ dplans.toInt ∧ dplans.toInt ≤ 4) (i_dnews : 0 ≤ dnews.toInt ∧ dnews.toInt ≤ 6) (i_dplanSizes : ab dplanSizes 4 0 5) (i_p1 : 0 ≤ p1.toInt ∧ p1.toInt ≤ 3) : Ct l g yX0_planWord cX0_planWord 3 (some .int) { frames := 0, cells := 0, slots := 0, locals := 0 } [.ref h0, .int p1, .int p2] [(h0, .inr (0, [.int dstates, .int dreally, .int ddays, .int dheal, .int dleak, .int dlines, .int dhearers, .int dwords, .int dplans, .int dnews, .ref dr0, .ref dr1, .ref dr2, .ref dr3, .ref dr4, .ref dr5, .ref dr6, .ref dr7, .ref dr8, .ref dr9])), (dr6, .inl (g.2 0, 4, .inl dplanSizes)), (dr7, .inl (g.2 0, 20, .inl dplanWords))] (S := (Nat → Int32) × (Nat → Nat → Int32) × (Nat → Nat → Int64)) (fun u => some (.int (u.1 0))) (fun u => True) (fun u => [(h0, .inr (0, [.int dstates, .int dreally, .int ddays, .int dheal, .int dleak, .int dlines, .int dhearers, .int dwords, .int dplans, .int dnews, .ref dr0, .ref dr1, .ref dr2, .ref dr3, .ref dr4, .ref dr5, .ref dr6, .ref dr7, .ref dr8, .ref dr9])), (dr6, .inl (g.2 0, 4, .inl dplanSizes)), (dr7, .inl (g.2 0, 20, .inl dplanWords))]) := by
  refine Ct.of (by decide) (Nat.le_of_ble_eq_true rfl) ?_
  intro p e s m below meth c A ls FX hP hD hS hl
  obtain ⟨FC, hr, hlk, hKn, hA, hnm, hZ⟩ := id FX
  have FC : CallFix p m c cX0_planWord 3 s _ BIG RX0 := FC
  obtain ⟨hx, hb, hml, hown, hB⟩ := id FC
  have hl : lv_has ls 3 [(0, .ref h0), (1, .int p1), (2, .int p2)] := hl
  refine lv_iload_n hx hb dX0_planWord_0 rfl (lv_at hl 2 rfl) ?_
  refine lv_if_lt (tgt := 27) hx hb dX0_planWord_1 (by decide) (fun c1 => ?_) (fun c1 => ?_)
  · have c1 := k_lt (a := p2.toInt) (b := 0) rfl (by decide) c1
    refine lv_iconst (v := -1) hx hb dX0_planWord_27 (by decide) ?_
    exact rt_i FX ((fun k => match k with | 0 => (-1 : Int32) | _ => 0), (fun _ => fun _ => 0), (fun _ => fun _ => 0)) rfl trivial (hP.sub [0, 1, 2] rfl) (hD.sub [0, 1, 2] (by decide) rfl) hS (Nat.le_of_ble_eq_true rfl) (Nat.le_of_ble_eq_true rfl) dX0_planWord_28
  · have c1 := k_nlt (a := p2.toInt) (b := 0) rfl (by decide) c1
    refine lv_iload_n hx hb dX0_planWord_4 rfl (lv_at hl 2 rfl) ?_
    refine lv_aload_n hx hb dX0_planWord_5 rfl (lv_at hl 0 rfl) ?_
    refine g_get (C := RX0) (T := TX0) (N := 20) (ci := 0) (v := .ref dr6) FC hKn hP i_X0 0 rfl rfl 16 (by decide) b_14 rfl dX0_planWord_6 ?_
    refine lv_iload_n hx hb dX0_planWord_9 rfl (lv_at hl 1 rfl) ?_
    refine va_iald hx hb hKn.1 hP 1 0 rfl rfl (vp_in_iff.mpr ⟨by omega, by omega⟩) dX0_planWord_10 ?_
    refine lv_topi (fun z2 e_z2 => ?_)
    have t_z2 : 0 ≤ z2.toInt ∧ z2.toInt ≤ 5 := by rw [e_z2]; exact i_dplanSizes _ (clt (by omega) (by omega))
    refine lv_icmp_ge (tgt := 27) hx hb dX0_planWord_11 (by decide) (fun c3 => ?_) (fun c3 => ?_)
    · have c3 := k_le (a := z2.toInt) (b := p2.toInt) rfl rfl c3
      refine lv_iconst (v := -1) hx hb dX0_planWord_27 (by decide) ?_
      exact rt_i FX ((fun k => match k with | 0 => (-1 : Int32) | _ => 0), (fun _ => fun _ => 0), (fun _ => fun _ => 0)) rfl trivial (hP.sub [0, 1, 2] rfl) (hD.sub [0, 1, 2] (by decide) rfl) hS (Nat.le_of_ble_eq_true rfl) (Nat.le_of_ble_eq_true rfl) dX0_planWord_28
    · have c3 := k_nle (a := z2.toInt) (b := p2.toInt) rfl rfl c3
      refine lv_aload_n hx hb dX0_planWord_14 rfl (lv_at hl 0 rfl) ?_
      refine g_get (C := RX0) (T := TX0) (N := 20) (ci := 0) (v := .ref dr7) FC hKn hP i_X0 0 rfl rfl 17 (by decide) b_15 rfl dX0_planWord_15 ?_
      refine lv_iload_n hx hb dX0_planWord_18 rfl (lv_at hl 1 rfl) ?_
      refine lv_iconst (v := 5) hx hb dX0_planWord_19 (by decide) ?_
      refine lv_imul hx hb dX0_planWord_20 ?_
      have kc5 : (5 : Int32).toInt = 5 := by decide
      refine lv_topi (fun z4 e_z4 => ?_)
      have t_z4 : z4.toInt = p1.toInt * 5 := by rw [e_z4, fb_mulI (by rw [show (5 : Int32).toInt = 5 by decide]; omega) (by rw [show (5 : Int32).toInt = 5 by decide]; omega), show (5 : Int32).toInt = 5 by decide]
      refine lv_iload_n hx hb dX0_planWord_21 rfl (lv_at hl 2 rfl) ?_
      refine lv_iadd hx hb dX0_planWord_22 ?_
      refine lv_topi (fun z5 e_z5 => ?_)
      have t_z5 : z5.toInt = z4.toInt + p2.toInt := by rw [e_z5]; exact fb_addI (by omega) (by omega)
      refine va_iald hx hb hKn.1 hP 2 0 rfl rfl (vp_in_iff.mpr ⟨by omega, by omega⟩) dX0_planWord_23 ?_
      refine lv_topi (fun z6 e_z6 => ?_)
      refine lv_goto (tgt := 28) hx hb dX0_planWord_24 (by decide) ?_
      exact rt_i FX ((fun k => match k with | 0 => z6 | _ => 0), (fun _ => fun _ => 0), (fun _ => fun _ => 0)) rfl trivial (hP.sub [0, 1, 2] rfl) (hD.sub [0, 1, 2] (by decide) rfl) hS (Nat.le_of_ble_eq_true rfl) (Nat.le_of_ble_eq_true rfl) dX0_planWord_28
set_option maxRecDepth 100000 in
set_option maxHeartbeats 4000000 in
theorem k_X0_meanOf (l : Launch) (g : GG) (h0 : Nat) (dr0 : Nat) (dr1 : Nat) (dr2 : Nat) (dr3 : Nat) (dr4 : Nat) (dr5 : Nat) (dr6 : Nat) (dr7 : Nat) (dr8 : Nat) (dr9 : Nat) (dstates : Int32) (dreally : Int32) (ddays : Int32) (dheal : Int32) (dleak : Int32) (dlines : Int32) (dhearers : Int32) (dwords : Int32) (dplans : Int32) (dnews : Int32) (dthoughts : Nat → Int32) (dgrades : Nat → Int32) (p1 : Int32) (p2 : Int32) (i_dstates : 0 ≤ dstates.toInt ∧ dstates.toInt ≤ 8) (i_dreally : 0 ≤ dreally.toInt ∧ dreally.toInt ≤ 7) (i_ddays : 0 ≤ ddays.toInt ∧ ddays.toInt ≤ 10) (i_dhearers : 0 ≤ dhearers.toInt ∧ dhearers.toInt ≤ 4) (i_dwords : 0 ≤ dwords.toInt ∧ dwords.toInt ≤ 8) (i_dplans : 0 ≤ dplans.toInt ∧ dplans.toInt ≤ 4) (i_dnews : 0 ≤ dnews.toInt ∧ dnews.toInt ≤ 6) (i_p1 : 0 ≤ p1.toInt ∧ p1.toInt ≤ 3) : Ct l g yX0_meanOf cX0_meanOf 9 (some .int) { frames := 1, cells := 0, slots := 0, locals := 22 } [.ref h0, .int p1, .int p2] [(h0, .inr (0, [.int dstates, .int dreally, .int ddays, .int dheal, .int dleak, .int dlines, .int dhearers, .int dwords, .int dplans, .int dnews, .ref dr0, .ref dr1, .ref dr2, .ref dr3, .ref dr4, .ref dr5, .ref dr6, .ref dr7, .ref dr8, .ref dr9])), (dr1, .inl (g.2 0, 32, .inl dthoughts)), (dr0, .inl (g.2 0, 8, .inl dgrades))] (S := (Nat → Int32) × (Nat → Nat → Int32) × (Nat → Nat → Int64)) (fun u => some (.int (u.1 0))) (fun u => True) (fun u => [(h0, .inr (0, [.int dstates, .int dreally, .int ddays, .int dheal, .int dleak, .int dlines, .int dhearers, .int dwords, .int dplans, .int dnews, .ref dr0, .ref dr1, .ref dr2, .ref dr3, .ref dr4, .ref dr5, .ref dr6, .ref dr7, .ref dr8, .ref dr9])), (dr1, .inl (g.2 0, 32, .inl dthoughts)), (dr0, .inl (g.2 0, 8, .inl dgrades))]) := by
  refine Ct.of (by decide) (Nat.le_of_ble_eq_true rfl) ?_
  intro p e s m below meth c A ls FX hP hD hS hl
  obtain ⟨FC, hr, hlk, hKn, hA, hnm, hZ⟩ := id FX
  have FC : CallFix p m c cX0_meanOf 9 s _ BIG RX0 := FC
  obtain ⟨hx, hb, hml, hown, hB⟩ := id FC
  have hl : lv_has ls 9 [(0, .ref h0), (1, .int p1), (2, .int p2)] := hl
  refine lv_iconst (v := 0) hx hb dX0_meanOf_0 (by decide) ?_
  refine lv_istore_n (lv' := [(3, .int 0), (0, .ref h0), (1, .int p1), (2, .int p2)]) hx hb dX0_meanOf_1 rfl hl (by decide) rfl (fun ls hl => ?_)
  refine lv_iconst (v := 0) hx hb dX0_meanOf_2 (by decide) ?_
  refine lv_istore (lv' := [(4, .int 0), (3, .int 0), (0, .ref h0), (1, .int p1), (2, .int p2)]) hx hb dX0_meanOf_3 hl (by decide) rfl (fun ls hl => ?_)
  refine lv_iconst (v := 0) hx hb dX0_meanOf_5 (by decide) ?_
  refine lv_istore (lv' := [(5, .int 0), (4, .int 0), (3, .int 0), (0, .ref h0), (1, .int p1), (2, .int p2)]) hx hb dX0_meanOf_6 hl (by decide) rfl (fun ls hl => ?_)
  refine lv_iconst (v := 0) hx hb dX0_meanOf_8 (by decide) ?_
  refine lv_istore (lv' := [(6, .int 0), (5, .int 0), (4, .int 0), (3, .int 0), (0, .ref h0), (1, .int p1), (2, .int p2)]) hx hb dX0_meanOf_9 hl (by decide) rfl (fun ls hl => ?_)
  refine lv_iconst (v := 0) hx hb dX0_meanOf_11 (by decide) ?_
  refine lv_istore (lv' := [(7, .int 0), (6, .int 0), (5, .int 0), (4, .int 0), (3, .int 0), (0, .ref h0), (1, .int p1), (2, .int p2)]) hx hb dX0_meanOf_12 hl (by decide) rfl (fun ls hl => ?_)
  have lp217 : ∀ (n219 : Nat) (x212 : Int32) (x213 : Int32) (x214 : Int32) (x215 : Int32) (x216 : Int32) (H : Heap) (locs : List Loc) (ls : Array Slot), 0 ≤ x212.toInt ∧ x212.toInt ≤ 8 → (8 - x212.toInt).toNat < n219 → va_P g.1 vwCl [(h0, .inr (0, [.int dstates, .int dreally, .int ddays, .int dheal, .int dleak, .int dlines, .int dhearers, .int dwords, .int dplans, .int dnews, .ref dr0, .ref dr1, .ref dr2, .ref dr3, .ref dr4, .ref dr5, .ref dr6, .ref dr7, .ref dr8, .ref dr9])), (dr1, .inl (g.2 0, 32, .inl dthoughts)), (dr0, .inl (g.2 0, 8, .inl dgrades))] H → va_D A [(h0, .inr (0, [.int dstates, .int dreally, .int ddays, .int dheal, .int dleak, .int dlines, .int dhearers, .int dwords, .int dplans, .int dnews, .ref dr0, .ref dr1, .ref dr2, .ref dr3, .ref dr4, .ref dr5, .ref dr6, .ref dr7, .ref dr8, .ref dr9])), (dr1, .inl (g.2 0, 32, .inl dthoughts)), (dr0, .inl (g.2 0, 8, .inl dgrades))] → va_S A s.heap H locs → lv_has ls 9 [(7, .int x212), (6, .int x213), (5, .int x214), (4, .int x215), (3, .int x216), (0, .ref h0), (1, .int p1), (2, .int p2)] → W p l e { frames := 1, cells := 0, slots := 0, locals := 22 } s m ([.ref h0, .int p1, .int p2].toArray) below meth c H locs 0 0 (MQ below (QX (S := (Nat → Int32) × (Nat → Nat → Int32) × (Nat → Nat → Int64)) (fun u => some (.int (u.1 0))) (fun u => True) g (fun u => [(h0, .inr (0, [.int dstates, .int dreally, .int ddays, .int dheal, .int dleak, .int dlines, .int dhearers, .int dwords, .int dplans, .int dnews, .ref dr0, .ref dr1, .ref dr2, .ref dr3, .ref dr4, .ref dr5, .ref dr6, .ref dr7, .ref dr8, .ref dr9])), (dr1, .inl (g.2 0, 32, .inl dthoughts)), (dr0, .inl (g.2 0, 8, .inl dgrades))]) A) ([.ref h0, .int p1, .int p2].toArray) s 0 0 A) (F0 m 14 ls []) := by
    intro n219
    induction n219 with
    | zero =>
      intro x212 x213 x214 x215 x216 H locs ls h_x212 hn220
      exact absurd hn220 (Nat.not_lt_zero _)
    | succ n219 ih218 =>
      intro x212 x213 x214 x215 x216 H locs ls h_x212 hn220 hP hD hS hl
      refine lv_iload hx hb dX0_meanOf_14 (lv_at hl 0 rfl) ?_
      refine lv_aload_n hx hb dX0_meanOf_16 rfl (lv_at hl 5 rfl) ?_
      refine g_get (C := RX0) (T := TX0) (N := 20) (ci := 0) (v := .int dstates) FC hKn hP i_X0 0 rfl rfl 0 (by decide) b_1 rfl dX0_meanOf_17 ?_
      refine lv_icmp_ge (tgt := 83) hx hb dX0_meanOf_20 (by decide) (fun c221 => ?_) (fun c221 => ?_)
      · have c221 := k_le (a := dstates.toInt) (b := x212.toInt) rfl rfl c221
        refine lv_iload_n hx hb dX0_meanOf_83 rfl (lv_at hl 4 rfl) ?_
        refine lv_if_le (tgt := 95) hx hb dX0_meanOf_84 (by decide) (fun c222 => ?_) (fun c222 => ?_)
        · have c222 := k_le (a := x216.toInt) (b := 0) rfl (by decide) c222
          refine lv_iload hx hb dX0_meanOf_95 (lv_at hl 2 rfl) ?_
          refine lv_if_le (tgt := 111) hx hb dX0_meanOf_97 (by decide) (fun c223 => ?_) (fun c223 => ?_)
          · have c223 := k_le (a := x214.toInt) (b := 0) rfl (by decide) c223
            refine lv_iconst (v := 0) hx hb dX0_meanOf_111 (by decide) ?_
            exact rt_i FX ((fun k => match k with | 0 => (0 : Int32) | _ => 0), (fun _ => fun _ => 0), (fun _ => fun _ => 0)) rfl trivial (hP.sub [0, 1, 2] rfl) (hD.sub [0, 1, 2] (by decide) rfl) hS (Nat.le_of_ble_eq_true rfl) (Nat.le_of_ble_eq_true rfl) dX0_meanOf_112
          · have c223 := k_nle (a := x214.toInt) (b := 0) rfl (by decide) c223
            refine lv_bipush (v := 100) hx hb dX0_meanOf_100 (by decide) ?_
            refine lv_iload hx hb dX0_meanOf_102 (lv_at hl 1 rfl) ?_
            refine lv_imul hx hb dX0_meanOf_104 ?_
            refine lv_topi (fun z224 e_z224 => ?_)
            refine lv_iload hx hb dX0_meanOf_105 (lv_at hl 2 rfl) ?_
            refine lv_idiv hx hb dX0_meanOf_107 (ne0 (by omega)) ?_
            refine lv_topi (fun z225 e_z225 => ?_)
            refine lv_goto (tgt := 112) hx hb dX0_meanOf_108 (by decide) ?_
            exact rt_i FX ((fun k => match k with | 0 => z225 | _ => 0), (fun _ => fun _ => 0), (fun _ => fun _ => 0)) rfl trivial (hP.sub [0, 1, 2] rfl) (hD.sub [0, 1, 2] (by decide) rfl) hS (Nat.le_of_ble_eq_true rfl) (Nat.le_of_ble_eq_true rfl) dX0_meanOf_112
        · have c222 := k_nle (a := x216.toInt) (b := 0) rfl (by decide) c222
          refine lv_bipush (v := 100) hx hb dX0_meanOf_87 (by decide) ?_
          refine lv_iload hx hb dX0_meanOf_89 (lv_at hl 3 rfl) ?_
          refine lv_imul hx hb dX0_meanOf_91 ?_
          refine lv_topi (fun z226 e_z226 => ?_)
          refine lv_iload_n hx hb dX0_meanOf_92 rfl (lv_at hl 4 rfl) ?_
          refine lv_idiv hx hb dX0_meanOf_93 (ne0 (by omega)) ?_
          refine lv_topi (fun z227 e_z227 => ?_)
          exact rt_i FX ((fun k => match k with | 0 => z227 | _ => 0), (fun _ => fun _ => 0), (fun _ => fun _ => 0)) rfl trivial (hP.sub [0, 1, 2] rfl) (hD.sub [0, 1, 2] (by decide) rfl) hS (Nat.le_of_ble_eq_true rfl) (Nat.le_of_ble_eq_true rfl) dX0_meanOf_94
      · have c221 := k_nle (a := dstates.toInt) (b := x212.toInt) rfl rfl c221
        refine lv_iload_n hx hb dX0_meanOf_23 rfl (lv_at hl 7 rfl) ?_
        refine lv_iload hx hb dX0_meanOf_24 (lv_at hl 0 rfl) ?_
        refine lv_ishr hx hb dX0_meanOf_26 ?_
        refine lv_topi (fun z228 e_z228 => ?_)
        refine lv_iconst (v := 1) hx hb dX0_meanOf_27 (by decide) ?_
        refine lv_iand hx hb dX0_meanOf_28 ?_
        have kc1 : (1 : Int32).toInt = 1 := by decide
        refine lv_topi (fun z229 e_z229 => ?_)
        have t_z229 : 0 ≤ z229.toInt ∧ z229.toInt ≤ 1 := by rw [e_z229]; exact and_r (by omega) (by omega)
        refine lv_iconst (v := 1) hx hb dX0_meanOf_29 (by decide) ?_
        refine lv_icmp_ne (tgt := 77) hx hb dX0_meanOf_30 (by decide) (fun c230 => ?_) (fun c230 => ?_)
        · have c230 := k_ne (a := z229.toInt) (b := 1) rfl (by decide) c230
          obtain ⟨z231, e_z231⟩ : ∃ y : Int32, y = x212 + 1 := ⟨_, rfl⟩
          have t_z231 : z231.toInt = x212.toInt + 1 := by rw [e_z231]; exact addk (by decide) (by omega) (by omega)
          refine lv_iinc (v := z231) (lv' := [(7, .int z231), (6, .int x213), (5, .int x214), (4, .int x215), (3, .int x216), (0, .ref h0), (1, .int p1), (2, .int p2)]) hx hb dX0_meanOf_77 hl (k := 0) rfl (by rw [e_z231]; rfl) (by decide) rfl (fun ls hl => ?_)
          refine lv_goto (tgt := 14) hx hb dX0_meanOf_80 (by decide) ?_
          exact ih218 z231 x213 x214 x215 x216 _ _ ls (by omega) (by omega) hP hD hS (lv_sub hl [0, 1, 2, 3, 4, 5, 6, 7] rfl)
        · have c230 := k_eq (a := z229.toInt) (b := 1) rfl (by decide) c230
          refine lv_aload_n hx hb dX0_meanOf_33 rfl (lv_at hl 5 rfl) ?_
          refine lv_iload_n hx hb dX0_meanOf_34 rfl (lv_at hl 6 rfl) ?_
          refine lv_iload hx hb dX0_meanOf_35 (lv_at hl 0 rfl) ?_
          refine call_V (As := [.int p1, .int x212]) (rest := []) (wr := [(dr0, .inl (g.2 0, 8, .inl dgrades))]) FC hKn hZ (k_X0_thoughtOf l g h0 dr0 dr1 dr2 dr3 dr4 dr5 dr6 dr7 dr8 dr9 dstates dreally ddays dheal dleak dlines dhearers dwords dplans dnews dthoughts p1 x212 (by omega) (by omega) (by omega) (by omega) (by omega) (by omega) (by omega) (by omega) (by omega)) m_yX0_thoughtOf b_16 (ci := 0) rfl rfl rfl hP hD hS hA [0, 1] [2] rfl (by decide) rfl (by decide) (by decide) rfl hl.1 rfl (Nat.le_of_ble_eq_true rfl) dX0_meanOf_37 ⟨(Nat.le_of_ble_eq_true rfl), (Nat.le_of_ble_eq_true rfl)⟩ ⟨(Nat.le_of_ble_eq_true rfl), (Nat.le_of_ble_eq_true rfl)⟩ (fun u232 H locs q233 hP hD hS => ?_)
          have hP : va_P g.1 vwCl [(dr0, .inl (g.2 0, 8, .inl dgrades)), (h0, .inr (0, [.int dstates, .int dreally, .int ddays, .int dheal, .int dleak, .int dlines, .int dhearers, .int dwords, .int dplans, .int dnews, .ref dr0, .ref dr1, .ref dr2, .ref dr3, .ref dr4, .ref dr5, .ref dr6, .ref dr7, .ref dr8, .ref dr9])), (dr1, .inl (g.2 0, 32, .inl dthoughts))] H := hP
          have hD : va_D A [(dr0, .inl (g.2 0, 8, .inl dgrades)), (h0, .inr (0, [.int dstates, .int dreally, .int ddays, .int dheal, .int dleak, .int dlines, .int dhearers, .int dwords, .int dplans, .int dnews, .ref dr0, .ref dr1, .ref dr2, .ref dr3, .ref dr4, .ref dr5, .ref dr6, .ref dr7, .ref dr8, .ref dr9])), (dr1, .inl (g.2 0, 32, .inl dthoughts))] := hD
          refine W.eq (g2 := F0 m 40 ls [.int (u232.1 0)]) rfl ?_
          refine lv_istore (lv' := [(8, .int (u232.1 0)), (7, .int x212), (6, .int x213), (5, .int x214), (4, .int x215), (3, .int x216), (0, .ref h0), (1, .int p1), (2, .int p2)]) hx hb dX0_meanOf_40 hl (by decide) rfl (fun ls hl => ?_)
          refine lv_iload_n hx hb dX0_meanOf_42 rfl (lv_at hl 5 rfl) ?_
          refine lv_iload hx hb dX0_meanOf_43 (lv_at hl 0 rfl) ?_
          refine lv_iadd hx hb dX0_meanOf_45 ?_
          refine lv_topi (fun z234 e_z234 => ?_)
          refine lv_istore_n (lv' := [(3, .int z234), (8, .int (u232.1 0)), (7, .int x212), (6, .int x213), (5, .int x214), (4, .int x215), (0, .ref h0), (1, .int p1), (2, .int p2)]) hx hb dX0_meanOf_46 rfl hl (by decide) rfl (fun ls hl => ?_)
          refine lv_iload hx hb dX0_meanOf_47 (lv_at hl 5 rfl) ?_
          refine lv_iload hx hb dX0_meanOf_49 (lv_at hl 1 rfl) ?_
          refine lv_aload_n hx hb dX0_meanOf_51 rfl (lv_at hl 6 rfl) ?_
          refine g_get (C := RX0) (T := TX0) (N := 20) (ci := 0) (v := .ref dr0) FC hKn hP i_X0 1 rfl rfl 10 (by decide) b_17 rfl dX0_meanOf_52 ?_
          refine lv_iload hx hb dX0_meanOf_55 (lv_at hl 2 rfl) ?_
          refine va_iald hx hb hKn.1 hP 0 0 rfl rfl (vp_in_iff.mpr ⟨by omega, by omega⟩) dX0_meanOf_57 ?_
          refine lv_topi (fun z235 e_z235 => ?_)
          refine lv_imul hx hb dX0_meanOf_58 ?_
          refine lv_topi (fun z236 e_z236 => ?_)
          refine lv_iadd hx hb dX0_meanOf_59 ?_
          refine lv_topi (fun z237 e_z237 => ?_)
          refine lv_istore (lv' := [(4, .int z237), (3, .int z234), (8, .int (u232.1 0)), (7, .int x212), (6, .int x213), (5, .int x214), (0, .ref h0), (1, .int p1), (2, .int p2)]) hx hb dX0_meanOf_60 hl (by decide) rfl (fun ls hl => ?_)
          obtain ⟨z238, e_z238⟩ : ∃ y : Int32, y = x214 + 1 := ⟨_, rfl⟩
          refine lv_iinc (v := z238) (lv' := [(5, .int z238), (4, .int z237), (3, .int z234), (8, .int (u232.1 0)), (7, .int x212), (6, .int x213), (0, .ref h0), (1, .int p1), (2, .int p2)]) hx hb dX0_meanOf_62 hl (k := 5) rfl (by rw [e_z238]; rfl) (by decide) rfl (fun ls hl => ?_)
          refine lv_iload hx hb dX0_meanOf_65 (lv_at hl 5 rfl) ?_
          refine lv_aload_n hx hb dX0_meanOf_67 rfl (lv_at hl 6 rfl) ?_
          refine g_get (C := RX0) (T := TX0) (N := 20) (ci := 0) (v := .ref dr0) FC hKn hP i_X0 1 rfl rfl 10 (by decide) b_17 rfl dX0_meanOf_68 ?_
          refine lv_iload hx hb dX0_meanOf_71 (lv_at hl 4 rfl) ?_
          refine va_iald hx hb hKn.1 hP 0 0 rfl rfl (vp_in_iff.mpr ⟨by omega, by omega⟩) dX0_meanOf_73 ?_
          refine tp_i (v := z235) e_z235.symm ?_
          refine lv_iadd hx hb dX0_meanOf_74 ?_
          refine lv_topi (fun z239 e_z239 => ?_)
          refine lv_istore (lv' := [(6, .int z239), (5, .int z238), (4, .int z237), (3, .int z234), (8, .int (u232.1 0)), (7, .int x212), (0, .ref h0), (1, .int p1), (2, .int p2)]) hx hb dX0_meanOf_75 hl (by decide) rfl (fun ls hl => ?_)
          obtain ⟨z240, e_z240⟩ : ∃ y : Int32, y = x212 + 1 := ⟨_, rfl⟩
          have t_z240 : z240.toInt = x212.toInt + 1 := by rw [e_z240]; exact addk (by decide) (by omega) (by omega)
          refine lv_iinc (v := z240) (lv' := [(7, .int z240), (6, .int z239), (5, .int z238), (4, .int z237), (3, .int z234), (8, .int (u232.1 0)), (0, .ref h0), (1, .int p1), (2, .int p2)]) hx hb dX0_meanOf_77 hl (k := 5) rfl (by rw [e_z240]; rfl) (by decide) rfl (fun ls hl => ?_)
          refine lv_goto (tgt := 14) hx hb dX0_meanOf_80 (by decide) ?_
          exact ih218 z240 z239 z238 z237 z234 _ _ ls (by omega) (by omega) (hP.sub [1, 2, 0] rfl) (hD.sub [1, 2, 0] (by decide) rfl) hS (lv_sub hl [0, 1, 2, 3, 4, 6, 7, 8] rfl)
  have kc0 : (0 : Int32).toInt = 0 := by decide
  exact lp217 _ (0 : Int32) (0 : Int32) (0 : Int32) (0 : Int32) (0 : Int32) _ _ ls (by decide) (Nat.lt_succ_self _) hP hD hS (lv_sub hl [0, 1, 2, 3, 4, 5, 6, 7] rfl)
set_option maxRecDepth 100000 in
set_option maxHeartbeats 4000000 in
theorem k_X0_commonDivisor (l : Launch) (g : GG) (p1 : Int32) (p2 : Int32) : Ct l g yX0_commonDivisor cX0_commonDivisor 6 (some .int) { frames := 0, cells := 0, slots := 0, locals := 0 } [.int p1, .int p2] [] (S := (Nat → Int32) × (Nat → Nat → Int32) × (Nat → Nat → Int64)) (fun u => some (.int (u.1 0))) (fun u => True) (fun u => []) := by
  refine Ct.of (by decide) (Nat.le_of_ble_eq_true rfl) ?_
  intro p e s m below meth c A ls FX hP hD hS hl
  obtain ⟨FC, hr, hlk, hKn, hA, hnm, hZ⟩ := id FX
  have FC : CallFix p m c cX0_commonDivisor 6 s _ BIG RX0 := FC
  obtain ⟨hx, hb, hml, hown, hB⟩ := id FC
  have hl : lv_has ls 6 [(0, .int p1), (1, .int p2)] := hl
  refine lv_iload_n hx hb dX0_commonDivisor_0 rfl (lv_at hl 0 rfl) ?_
  refine lv_istore_n (lv' := [(2, .int p1), (0, .int p1), (1, .int p2)]) hx hb dX0_commonDivisor_1 rfl hl (by decide) rfl (fun ls hl => ?_)
  refine lv_iload_n hx hb dX0_commonDivisor_2 rfl (lv_at hl 2 rfl) ?_
  refine lv_istore_n (lv' := [(3, .int p2), (2, .int p1), (0, .int p1), (1, .int p2)]) hx hb dX0_commonDivisor_3 rfl hl (by decide) rfl (fun ls hl => ?_)
  refine lv_iconst (v := 0) hx hb dX0_commonDivisor_4 (by decide) ?_
  refine lv_istore (lv' := [(4, .int 0), (3, .int p2), (2, .int p1), (0, .int p1), (1, .int p2)]) hx hb dX0_commonDivisor_5 hl (by decide) rfl (fun ls hl => ?_)
  have lp55 : ∀ (n57 : Nat) (x52 : Int32) (x53 : Int32) (x54 : Int32) (H : Heap) (locs : List Loc) (ls : Array Slot), 0 ≤ x52.toInt ∧ x52.toInt ≤ 64 → (64 - x52.toInt).toNat < n57 → va_P g.1 vwCl [] H → va_D A [] → va_S A s.heap H locs → lv_has ls 6 [(4, .int x52), (3, .int x53), (2, .int x54), (0, .int p1), (1, .int p2)] → W p l e { frames := 0, cells := 0, slots := 0, locals := 0 } s m ([.int p1, .int p2].toArray) below meth c H locs 0 0 (MQ below (QX (S := (Nat → Int32) × (Nat → Nat → Int32) × (Nat → Nat → Int64)) (fun u => some (.int (u.1 0))) (fun u => True) g (fun u => []) A) ([.int p1, .int p2].toArray) s 0 0 A) (F0 m 7 ls []) := by
    intro n57
    induction n57 with
    | zero =>
      intro x52 x53 x54 H locs ls h_x52 hn58
      exact absurd hn58 (Nat.not_lt_zero _)
    | succ n57 ih56 =>
      intro x52 x53 x54 H locs ls h_x52 hn58 hP hD hS hl
      refine lv_iload hx hb dX0_commonDivisor_7 (lv_at hl 0 rfl) ?_
      refine lv_bipush (v := 64) hx hb dX0_commonDivisor_9 (by decide) ?_
      refine lv_icmp_ge (tgt := 34) hx hb dX0_commonDivisor_11 (by decide) (fun c59 => ?_) (fun c59 => ?_)
      · have c59 := k_le (a := 64) (b := x52.toInt) (by decide) rfl c59
        refine lv_iload_n hx hb dX0_commonDivisor_34 rfl (lv_at hl 2 rfl) ?_
        exact rt_i FX ((fun k => match k with | 0 => x54 | _ => 0), (fun _ => fun _ => 0), (fun _ => fun _ => 0)) rfl trivial (hP.sub [] rfl) (hD.sub [] (by decide) rfl) hS (Nat.le_of_ble_eq_true rfl) (Nat.le_of_ble_eq_true rfl) dX0_commonDivisor_35
      · have c59 := k_nle (a := 64) (b := x52.toInt) (by decide) rfl c59
        refine lv_iload_n hx hb dX0_commonDivisor_14 rfl (lv_at hl 1 rfl) ?_
        refine lv_if_le (tgt := 34) hx hb dX0_commonDivisor_15 (by decide) (fun c60 => ?_) (fun c60 => ?_)
        · have c60 := k_le (a := x53.toInt) (b := 0) rfl (by decide) c60
          refine lv_iload_n hx hb dX0_commonDivisor_34 rfl (lv_at hl 2 rfl) ?_
          exact rt_i FX ((fun k => match k with | 0 => x54 | _ => 0), (fun _ => fun _ => 0), (fun _ => fun _ => 0)) rfl trivial (hP.sub [] rfl) (hD.sub [] (by decide) rfl) hS (Nat.le_of_ble_eq_true rfl) (Nat.le_of_ble_eq_true rfl) dX0_commonDivisor_35
        · have c60 := k_nle (a := x53.toInt) (b := 0) rfl (by decide) c60
          refine lv_iload_n hx hb dX0_commonDivisor_18 rfl (lv_at hl 2 rfl) ?_
          refine lv_iload_n hx hb dX0_commonDivisor_19 rfl (lv_at hl 1 rfl) ?_
          refine lv_irem hx hb dX0_commonDivisor_20 (ne0 (by omega)) ?_
          refine lv_topi (fun z61 e_z61 => ?_)
          refine lv_istore (lv' := [(5, .int z61), (4, .int x52), (3, .int x53), (2, .int x54), (0, .int p1), (1, .int p2)]) hx hb dX0_commonDivisor_21 hl (by decide) rfl (fun ls hl => ?_)
          refine lv_iload_n hx hb dX0_commonDivisor_23 rfl (lv_at hl 2 rfl) ?_
          refine lv_istore_n (lv' := [(2, .int x53), (5, .int z61), (4, .int x52), (3, .int x53), (0, .int p1), (1, .int p2)]) hx hb dX0_commonDivisor_24 rfl hl (by decide) rfl (fun ls hl => ?_)
          refine lv_iload hx hb dX0_commonDivisor_25 (lv_at hl 1 rfl) ?_
          refine lv_istore_n (lv' := [(3, .int z61), (2, .int x53), (5, .int z61), (4, .int x52), (0, .int p1), (1, .int p2)]) hx hb dX0_commonDivisor_27 rfl hl (by decide) rfl (fun ls hl => ?_)
          obtain ⟨z62, e_z62⟩ : ∃ y : Int32, y = x52 + 1 := ⟨_, rfl⟩
          have t_z62 : z62.toInt = x52.toInt + 1 := by rw [e_z62]; exact addk (by decide) (by omega) (by omega)
          refine lv_iinc (v := z62) (lv' := [(4, .int z62), (3, .int z61), (2, .int x53), (5, .int z61), (0, .int p1), (1, .int p2)]) hx hb dX0_commonDivisor_28 hl (k := 3) rfl (by rw [e_z62]; rfl) (by decide) rfl (fun ls hl => ?_)
          refine lv_goto (tgt := 7) hx hb dX0_commonDivisor_31 (by decide) ?_
          exact ih56 z62 z61 x53 _ _ ls (by omega) (by omega) hP hD hS (lv_sub hl [0, 1, 2, 4, 5] rfl)
  have kc0 : (0 : Int32).toInt = 0 := by decide
  exact lp55 _ (0 : Int32) p2 p1 _ _ ls (by decide) (Nat.lt_succ_self _) hP hD hS (lv_sub hl [0, 1, 2, 3, 4] rfl)
set_option maxRecDepth 100000 in
set_option maxHeartbeats 4000000 in
theorem k_X0_nextBelief (l : Launch) (g : GG) (h0 : Nat) (dr0 : Nat) (dr1 : Nat) (dr2 : Nat) (dr3 : Nat) (dr4 : Nat) (dr5 : Nat) (dr6 : Nat) (dr7 : Nat) (dr8 : Nat) (dr9 : Nat) (dstates : Int32) (dreally : Int32) (ddays : Int32) (dheal : Int32) (dleak : Int32) (dlines : Int32) (dhearers : Int32) (dwords : Int32) (dplans : Int32) (dnews : Int32) (dmeanings : Nat → Int32) (p1 : Int32) (p2 : Int32) (i_dstates : 0 ≤ dstates.toInt ∧ dstates.toInt ≤ 8) (i_dreally : 0 ≤ dreally.toInt ∧ dreally.toInt ≤ 7) (i_ddays : 0 ≤ ddays.toInt ∧ ddays.toInt ≤ 10) (i_dhearers : 0 ≤ dhearers.toInt ∧ dhearers.toInt ≤ 4) (i_dwords : 0 ≤ dwords.toInt ∧ dwords.toInt ≤ 8) (i_dplans : 0 ≤ dplans.toInt ∧ dplans.toInt ≤ 4) (i_dnews : 0 ≤ dnews.toInt ∧ dnews.toInt ≤ 6) (i_dmeanings : ab dmeanings 8 0 255) (i_p1 : 0 ≤ p1.toInt ∧ p1.toInt ≤ 255) : Ct l g yX0_nextBelief cX0_nextBelief 4 (some .int) { frames := 1, cells := 0, slots := 0, locals := 21 } [.ref h0, .int p1, .int p2] [(h0, .inr (0, [.int dstates, .int dreally, .int ddays, .int dheal, .int dleak, .int dlines, .int dhearers, .int dwords, .int dplans, .int dnews, .ref dr0, .ref dr1, .ref dr2, .ref dr3, .ref dr4, .ref dr5, .ref dr6, .ref dr7, .ref dr8, .ref dr9])), (dr5, .inl (g.2 0, 8, .inl dmeanings))] (S := (Nat → Int32) × (Nat → Nat → Int32) × (Nat → Nat → Int64)) (fun u => some (.int (u.1 0))) (fun u => (0 ≤ (u.1 0).toInt ∧ (u.1 0).toInt ≤ 255)) (fun u => [(h0, .inr (0, [.int dstates, .int dreally, .int ddays, .int dheal, .int dleak, .int dlines, .int dhearers, .int dwords, .int dplans, .int dnews, .ref dr0, .ref dr1, .ref dr2, .ref dr3, .ref dr4, .ref dr5, .ref dr6, .ref dr7, .ref dr8, .ref dr9])), (dr5, .inl (g.2 0, 8, .inl dmeanings))]) := by
  refine Ct.of (by decide) (Nat.le_of_ble_eq_true rfl) ?_
  intro p e s m below meth c A ls FX hP hD hS hl
  obtain ⟨FC, hr, hlk, hKn, hA, hnm, hZ⟩ := id FX
  have FC : CallFix p m c cX0_nextBelief 4 s _ BIG RX0 := FC
  obtain ⟨hx, hb, hml, hown, hB⟩ := id FC
  have hl : lv_has ls 4 [(0, .ref h0), (1, .int p1), (2, .int p2)] := hl
  refine lv_aload_n hx hb dX0_nextBelief_0 rfl (lv_at hl 0 rfl) ?_
  refine lv_iload_n hx hb dX0_nextBelief_1 rfl (lv_at hl 2 rfl) ?_
  refine call_V (As := [.int p2]) (rest := []) (wr := [(dr5, .inl (g.2 0, 8, .inl dmeanings))]) FC hKn hZ (k_X0_hasWord l g h0 dr0 dr1 dr2 dr3 dr4 dr5 dr6 dr7 dr8 dr9 dstates dreally ddays dheal dleak dlines dhearers dwords dplans dnews p2 (by omega) (by omega) (by omega) (by omega) (by omega) (by omega) (by omega)) m_yX0_hasWord b_8 (ci := 0) rfl rfl rfl hP hD hS hA [0] [1] rfl (by decide) rfl (by decide) (by decide) rfl hl.1 rfl (Nat.le_of_ble_eq_true rfl) dX0_nextBelief_2 ⟨(Nat.le_of_ble_eq_true rfl), (Nat.le_of_ble_eq_true rfl)⟩ ⟨(Nat.le_of_ble_eq_true rfl), (Nat.le_of_ble_eq_true rfl)⟩ (fun u1 H locs q2 hP hD hS => ?_)
  obtain ⟨q2_0, q2_1⟩ := q2
  have hP : va_P g.1 vwCl [(dr5, .inl (g.2 0, 8, .inl dmeanings)), (h0, .inr (0, [.int dstates, .int dreally, .int ddays, .int dheal, .int dleak, .int dlines, .int dhearers, .int dwords, .int dplans, .int dnews, .ref dr0, .ref dr1, .ref dr2, .ref dr3, .ref dr4, .ref dr5, .ref dr6, .ref dr7, .ref dr8, .ref dr9]))] H := hP
  have hD : va_D A [(dr5, .inl (g.2 0, 8, .inl dmeanings)), (h0, .inr (0, [.int dstates, .int dreally, .int ddays, .int dheal, .int dleak, .int dlines, .int dhearers, .int dwords, .int dplans, .int dnews, .ref dr0, .ref dr1, .ref dr2, .ref dr3, .ref dr4, .ref dr5, .ref dr6, .ref dr7, .ref dr8, .ref dr9]))] := hD
  refine W.eq (g2 := F0 m 5 ls [.int (u1.1 0)]) rfl ?_
  rcases (show (u1.1 0).toInt = 0 ∨ (u1.1 0).toInt = 1 by omega) with c3 | c3
  · skip
    refine lv_if_ne (tgt := 10) hx hb dX0_nextBelief_5 (by decide) (fun c4 => ?_) (fun c4 => ?_)
    · have c4 := k_ne (a := (u1.1 0).toInt) (b := 0) rfl (by decide) c4
      exfalso; omega
    · have c4 := k_eq (a := (u1.1 0).toInt) (b := 0) rfl (by decide) c4
      refine lv_iload_n hx hb dX0_nextBelief_8 rfl (lv_at hl 1 rfl) ?_
      exact rt_i FX ((fun k => match k with | 0 => p1 | _ => 0), (fun _ => fun _ => 0), (fun _ => fun _ => 0)) rfl (show 0 ≤ p1.toInt ∧ p1.toInt ≤ 255 by omega) (hP.sub [1, 0] rfl) (hD.sub [1, 0] (by decide) rfl) hS (Nat.le_of_ble_eq_true rfl) (Nat.le_of_ble_eq_true rfl) dX0_nextBelief_9
  · have c3_r := q2_1 c3
    refine lv_if_ne (tgt := 10) hx hb dX0_nextBelief_5 (by decide) (fun c5 => ?_) (fun c5 => ?_)
    · have c5 := k_ne (a := (u1.1 0).toInt) (b := 0) rfl (by decide) c5
      refine lv_iload_n hx hb dX0_nextBelief_10 rfl (lv_at hl 1 rfl) ?_
      refine lv_aload_n hx hb dX0_nextBelief_11 rfl (lv_at hl 0 rfl) ?_
      refine g_get (C := RX0) (T := TX0) (N := 20) (ci := 0) (v := .ref dr5) FC hKn hP i_X0 1 rfl rfl 15 (by decide) b_11 rfl dX0_nextBelief_12 ?_
      refine lv_iload_n hx hb dX0_nextBelief_15 rfl (lv_at hl 2 rfl) ?_
      refine va_iald hx hb hKn.1 hP 0 0 rfl rfl (vp_in_iff.mpr ⟨by omega, by omega⟩) dX0_nextBelief_16 ?_
      refine lv_topi (fun z6 e_z6 => ?_)
      have t_z6 : 0 ≤ z6.toInt ∧ z6.toInt ≤ 255 := by rw [e_z6]; exact i_dmeanings _ (clt (by omega) (by omega))
      refine lv_iand hx hb dX0_nextBelief_17 ?_
      refine lv_topi (fun z7 e_z7 => ?_)
      have t_z7 : 0 ≤ z7.toInt ∧ z7.toInt ≤ 255 := by rw [e_z7]; exact and_l (by omega) (by omega)
      refine lv_istore_n (lv' := [(3, .int z7), (0, .ref h0), (1, .int p1), (2, .int p2)]) hx hb dX0_nextBelief_18 rfl hl (by decide) rfl (fun ls hl => ?_)
      refine lv_iload_n hx hb dX0_nextBelief_19 rfl (lv_at hl 0 rfl) ?_
      refine lv_if_ne (tgt := 32) hx hb dX0_nextBelief_20 (by decide) (fun c8 => ?_) (fun c8 => ?_)
      · have c8 := k_ne (a := z7.toInt) (b := 0) rfl (by decide) c8
        refine lv_iload_n hx hb dX0_nextBelief_32 rfl (lv_at hl 0 rfl) ?_
        exact rt_i FX ((fun k => match k with | 0 => z7 | _ => 0), (fun _ => fun _ => 0), (fun _ => fun _ => 0)) rfl (show 0 ≤ z7.toInt ∧ z7.toInt ≤ 255 by omega) (hP.sub [1, 0] rfl) (hD.sub [1, 0] (by decide) rfl) hS (Nat.le_of_ble_eq_true rfl) (Nat.le_of_ble_eq_true rfl) dX0_nextBelief_33
      · have c8 := k_eq (a := z7.toInt) (b := 0) rfl (by decide) c8
        refine lv_aload_n hx hb dX0_nextBelief_23 rfl (lv_at hl 1 rfl) ?_
        refine g_get (C := RX0) (T := TX0) (N := 20) (ci := 0) (v := .ref dr5) FC hKn hP i_X0 1 rfl rfl 15 (by decide) b_11 rfl dX0_nextBelief_24 ?_
        refine lv_iload_n hx hb dX0_nextBelief_27 rfl (lv_at hl 3 rfl) ?_
        refine va_iald hx hb hKn.1 hP 0 0 rfl rfl (vp_in_iff.mpr ⟨by omega, by omega⟩) dX0_nextBelief_28 ?_
        refine tp_i (v := z6) e_z6.symm ?_
        refine lv_goto (tgt := 33) hx hb dX0_nextBelief_29 (by decide) ?_
        exact rt_i FX ((fun k => match k with | 0 => z6 | _ => 0), (fun _ => fun _ => 0), (fun _ => fun _ => 0)) rfl (show 0 ≤ z6.toInt ∧ z6.toInt ≤ 255 by omega) (hP.sub [1, 0] rfl) (hD.sub [1, 0] (by decide) rfl) hS (Nat.le_of_ble_eq_true rfl) (Nat.le_of_ble_eq_true rfl) dX0_nextBelief_33
    · have c5 := k_eq (a := (u1.1 0).toInt) (b := 0) rfl (by decide) c5
      exfalso; omega
