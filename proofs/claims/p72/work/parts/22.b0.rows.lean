set_option maxRecDepth 100000 in
set_option maxHeartbeats 4000000 in
theorem k_X11_grade (l : Launch) (g : GG) (h0 : Nat) (rd0 : Nat) (d0 : Nat) (im0 : Nat) (ig0 : Nat) (rw0 : Nat) (we0 : Nat) (mi0 : Nat) (re0 : Nat) (pl0 : Nat) (ri0 : Nat) (le0 : Nat) (dr0 : Nat) (dr1 : Nat) (dr2 : Nat) (dr3 : Nat) (dr4 : Nat) (dr5 : Nat) (dr6 : Nat) (dr7 : Nat) (dr8 : Nat) (dr9 : Nat) (dstates : Int32) (dreally : Int32) (ddays : Int32) (dheal : Int32) (dleak : Int32) (dlines : Int32) (dhearers : Int32) (dwords : Int32) (dplans : Int32) (dnews : Int32) (dgrades : Nat → Int32) (p1 : Int32) (i_dstates : 0 ≤ dstates.toInt ∧ dstates.toInt ≤ 8) (i_dreally : 0 ≤ dreally.toInt ∧ dreally.toInt ≤ 7) (i_ddays : 0 ≤ ddays.toInt ∧ ddays.toInt ≤ 10) (i_dhearers : 0 ≤ dhearers.toInt ∧ dhearers.toInt ≤ 4) (i_dwords : 0 ≤ dwords.toInt ∧ dwords.toInt ≤ 8) (i_dplans : 0 ≤ dplans.toInt ∧ dplans.toInt ≤ 4) (i_dnews : 0 ≤ dnews.toInt ∧ dnews.toInt ≤ 6) : Ct l g yX11_grade cX11_grade 2 (some .int) { frames := 1, cells := 0, slots := 0, locals := 21 } [.ref h0, .int p1] [(h0, .inr (11, [.ref rd0, .ref d0, .ref im0, .ref ig0, .ref rw0, .ref we0, .ref mi0, .ref re0, .ref pl0, .ref ri0, .ref le0])), (d0, .inr (0, [.int dstates, .int dreally, .int ddays, .int dheal, .int dleak, .int dlines, .int dhearers, .int dwords, .int dplans, .int dnews, .ref dr0, .ref dr1, .ref dr2, .ref dr3, .ref dr4, .ref dr5, .ref dr6, .ref dr7, .ref dr8, .ref dr9])), (dr0, .inl (g.2 0, 8, .inl dgrades))] (S := (Nat → Int32) × (Nat → Nat → Int32) × (Nat → Nat → Int64)) (fun u => some (.int (u.1 0))) (fun u => True) (fun u => [(h0, .inr (11, [.ref rd0, .ref d0, .ref im0, .ref ig0, .ref rw0, .ref we0, .ref mi0, .ref re0, .ref pl0, .ref ri0, .ref le0])), (d0, .inr (0, [.int dstates, .int dreally, .int ddays, .int dheal, .int dleak, .int dlines, .int dhearers, .int dwords, .int dplans, .int dnews, .ref dr0, .ref dr1, .ref dr2, .ref dr3, .ref dr4, .ref dr5, .ref dr6, .ref dr7, .ref dr8, .ref dr9])), (dr0, .inl (g.2 0, 8, .inl dgrades))]) := by
  refine Ct.of (by decide) (Nat.le_of_ble_eq_true rfl) ?_
  intro p e s m below meth c A ls FX hP hD hS hl
  obtain ⟨FC, hr, hlk, hKn, hA, hnm, hZ⟩ := id FX
  have FC : CallFix p m c cX11_grade 2 s _ BIG RX11 := FC
  obtain ⟨hx, hb, hml, hown, hB⟩ := id FC
  have hl : lv_has ls 2 [(0, .ref h0), (1, .int p1)] := hl
  refine lv_aload_n hx hb dX11_grade_0 rfl (lv_at hl 0 rfl) ?_
  refine g_get (C := RX11) (T := TX11) (N := 11) (ci := 11) (v := .ref d0) FC hKn hP i_X11 0 rfl rfl 1 (by decide) b_310 rfl dX11_grade_1 ?_
  refine lv_iload_n hx hb dX11_grade_4 rfl (lv_at hl 1 rfl) ?_
  refine call_VN (As := [.int p1]) (rest := []) (wr := [(h0, .inr (11, [.ref rd0, .ref d0, .ref im0, .ref ig0, .ref rw0, .ref we0, .ref mi0, .ref re0, .ref pl0, .ref ri0, .ref le0])), (dr0, .inl (g.2 0, 8, .inl dgrades))]) FC hKn hZ (k_X0_hasState l g d0 dr0 dr1 dr2 dr3 dr4 dr5 dr6 dr7 dr8 dr9 dstates dreally ddays dheal dleak dlines dhearers dwords dplans dnews p1 (by omega) (by omega) (by omega) (by omega) (by omega) (by omega) (by omega)) m_yX0_hasState b_388 (ci := 0) rfl rfl rfl hP hD hS hA [1] [0, 2] rfl (by decide) rfl (by decide) (by decide) rfl hl.1 rfl (Nat.le_of_ble_eq_true rfl) dX11_grade_5 ⟨(Nat.le_of_ble_eq_true rfl), (Nat.le_of_ble_eq_true rfl)⟩ ⟨(Nat.le_of_ble_eq_true rfl), (Nat.le_of_ble_eq_true rfl)⟩ (fun u1 H locs q2 hP hD hS => ?_)
  obtain ⟨q2_0, q2_1⟩ := q2
  have hP : va_P g.1 vwCl [(h0, .inr (11, [.ref rd0, .ref d0, .ref im0, .ref ig0, .ref rw0, .ref we0, .ref mi0, .ref re0, .ref pl0, .ref ri0, .ref le0])), (dr0, .inl (g.2 0, 8, .inl dgrades)), (d0, .inr (0, [.int dstates, .int dreally, .int ddays, .int dheal, .int dleak, .int dlines, .int dhearers, .int dwords, .int dplans, .int dnews, .ref dr0, .ref dr1, .ref dr2, .ref dr3, .ref dr4, .ref dr5, .ref dr6, .ref dr7, .ref dr8, .ref dr9]))] H := hP
  have hD : va_D A [(h0, .inr (11, [.ref rd0, .ref d0, .ref im0, .ref ig0, .ref rw0, .ref we0, .ref mi0, .ref re0, .ref pl0, .ref ri0, .ref le0])), (dr0, .inl (g.2 0, 8, .inl dgrades)), (d0, .inr (0, [.int dstates, .int dreally, .int ddays, .int dheal, .int dleak, .int dlines, .int dhearers, .int dwords, .int dplans, .int dnews, .ref dr0, .ref dr1, .ref dr2, .ref dr3, .ref dr4, .ref dr5, .ref dr6, .ref dr7, .ref dr8, .ref dr9]))] := hD
  refine W.eq (g2 := F0 m 8 ls [.int (u1.1 0)]) rfl ?_
  rcases (show (u1.1 0).toInt = 0 ∨ (u1.1 0).toInt = 1 by omega) with c3 | c3
  · skip
    refine lv_if_eq (tgt := 23) hx hb dX11_grade_8 (by decide) (fun c4 => ?_) (fun c4 => ?_)
    · have c4 := k_eq (a := (u1.1 0).toInt) (b := 0) rfl (by decide) c4
      refine lv_bipush (v := -2) hx hb dX11_grade_23 (by decide) ?_
      exact rt_i FX ((fun k => match k with | 0 => (-2 : Int32) | _ => 0), (fun _ => fun _ => 0), (fun _ => fun _ => 0)) rfl trivial (hP.sub [0, 2, 1] rfl) (hD.sub [0, 2, 1] (by decide) rfl) hS (Nat.le_of_ble_eq_true rfl) (Nat.le_of_ble_eq_true rfl) dX11_grade_25
    · have c4 := k_ne (a := (u1.1 0).toInt) (b := 0) rfl (by decide) c4
      exfalso; omega
  · have c3_r := q2_1 c3
    refine lv_if_eq (tgt := 23) hx hb dX11_grade_8 (by decide) (fun c5 => ?_) (fun c5 => ?_)
    · have c5 := k_eq (a := (u1.1 0).toInt) (b := 0) rfl (by decide) c5
      exfalso; omega
    · have c5 := k_ne (a := (u1.1 0).toInt) (b := 0) rfl (by decide) c5
      refine lv_aload_n hx hb dX11_grade_11 rfl (lv_at hl 0 rfl) ?_
      refine g_get (C := RX11) (T := TX11) (N := 11) (ci := 11) (v := .ref d0) FC hKn hP i_X11 0 rfl rfl 1 (by decide) b_310 rfl dX11_grade_12 ?_
      refine g_getN (C := RX0) (T := TX0) (N := 20) (ci := 0) (v := .ref dr0) FC hKn hP i_X0 2 rfl rfl 10 (by decide) b_389 rfl dX11_grade_15 ?_
      refine lv_iload_n hx hb dX11_grade_18 rfl (lv_at hl 1 rfl) ?_
      refine va_iald hx hb hKn.1 hP 1 0 rfl rfl (vp_in_iff.mpr ⟨by omega, by omega⟩) dX11_grade_19 ?_
      refine lv_topi (fun z6 e_z6 => ?_)
      refine lv_goto (tgt := 25) hx hb dX11_grade_20 (by decide) ?_
      exact rt_i FX ((fun k => match k with | 0 => z6 | _ => 0), (fun _ => fun _ => 0), (fun _ => fun _ => 0)) rfl trivial (hP.sub [0, 2, 1] rfl) (hD.sub [0, 2, 1] (by decide) rfl) hS (Nat.le_of_ble_eq_true rfl) (Nat.le_of_ble_eq_true rfl) dX11_grade_25
set_option maxRecDepth 100000 in
set_option maxHeartbeats 4000000 in
theorem k_X11_thinks (l : Launch) (g : GG) (h0 : Nat) (rd0 : Nat) (d0 : Nat) (im0 : Nat) (ig0 : Nat) (rw0 : Nat) (we0 : Nat) (mi0 : Nat) (re0 : Nat) (pl0 : Nat) (ri0 : Nat) (le0 : Nat) (dr0 : Nat) (dr1 : Nat) (dr2 : Nat) (dr3 : Nat) (dr4 : Nat) (dr5 : Nat) (dr6 : Nat) (dr7 : Nat) (dr8 : Nat) (dr9 : Nat) (dstates : Int32) (dreally : Int32) (ddays : Int32) (dheal : Int32) (dleak : Int32) (dlines : Int32) (dhearers : Int32) (dwords : Int32) (dplans : Int32) (dnews : Int32) (dthoughts : Nat → Int32) (dreckonings : Nat → Int32) (p1 : Int32) (p2 : Int32) (i_dstates : 0 ≤ dstates.toInt ∧ dstates.toInt ≤ 8) (i_dreally : 0 ≤ dreally.toInt ∧ dreally.toInt ≤ 7) (i_ddays : 0 ≤ ddays.toInt ∧ ddays.toInt ≤ 10) (i_dhearers : 0 ≤ dhearers.toInt ∧ dhearers.toInt ≤ 4) (i_dwords : 0 ≤ dwords.toInt ∧ dwords.toInt ≤ 8) (i_dplans : 0 ≤ dplans.toInt ∧ dplans.toInt ≤ 4) (i_dnews : 0 ≤ dnews.toInt ∧ dnews.toInt ≤ 6) : Ct l g yX11_thinks cX11_thinks 3 (some .int) { frames := 1, cells := 0, slots := 0, locals := 22 } [.ref h0, .int p1, .int p2] [(h0, .inr (11, [.ref rd0, .ref d0, .ref im0, .ref ig0, .ref rw0, .ref we0, .ref mi0, .ref re0, .ref pl0, .ref ri0, .ref le0])), (d0, .inr (0, [.int dstates, .int dreally, .int ddays, .int dheal, .int dleak, .int dlines, .int dhearers, .int dwords, .int dplans, .int dnews, .ref dr0, .ref dr1, .ref dr2, .ref dr3, .ref dr4, .ref dr5, .ref dr6, .ref dr7, .ref dr8, .ref dr9])), (dr1, .inl (g.2 0, 32, .inl dthoughts)), (dr2, .inl (g.2 0, 4, .inl dreckonings))] (S := (Nat → Int32) × (Nat → Nat → Int32) × (Nat → Nat → Int64)) (fun u => some (.int (u.1 0))) (fun u => True) (fun u => [(h0, .inr (11, [.ref rd0, .ref d0, .ref im0, .ref ig0, .ref rw0, .ref we0, .ref mi0, .ref re0, .ref pl0, .ref ri0, .ref le0])), (d0, .inr (0, [.int dstates, .int dreally, .int ddays, .int dheal, .int dleak, .int dlines, .int dhearers, .int dwords, .int dplans, .int dnews, .ref dr0, .ref dr1, .ref dr2, .ref dr3, .ref dr4, .ref dr5, .ref dr6, .ref dr7, .ref dr8, .ref dr9])), (dr1, .inl (g.2 0, 32, .inl dthoughts)), (dr2, .inl (g.2 0, 4, .inl dreckonings))]) := by
  refine Ct.of (by decide) (Nat.le_of_ble_eq_true rfl) ?_
  intro p e s m below meth c A ls FX hP hD hS hl
  obtain ⟨FC, hr, hlk, hKn, hA, hnm, hZ⟩ := id FX
  have FC : CallFix p m c cX11_thinks 3 s _ BIG RX11 := FC
  obtain ⟨hx, hb, hml, hown, hB⟩ := id FC
  have hl : lv_has ls 3 [(0, .ref h0), (1, .int p1), (2, .int p2)] := hl
  refine lv_aload_n hx hb dX11_thinks_0 rfl (lv_at hl 0 rfl) ?_
  refine g_get (C := RX11) (T := TX11) (N := 11) (ci := 11) (v := .ref d0) FC hKn hP i_X11 0 rfl rfl 1 (by decide) b_310 rfl dX11_thinks_1 ?_
  refine lv_iload_n hx hb dX11_thinks_4 rfl (lv_at hl 1 rfl) ?_
  refine call_VN (As := [.int p1]) (rest := []) (wr := [(h0, .inr (11, [.ref rd0, .ref d0, .ref im0, .ref ig0, .ref rw0, .ref we0, .ref mi0, .ref re0, .ref pl0, .ref ri0, .ref le0])), (dr1, .inl (g.2 0, 32, .inl dthoughts)), (dr2, .inl (g.2 0, 4, .inl dreckonings))]) FC hKn hZ (k_X0_hasHearer l g d0 dr0 dr1 dr2 dr3 dr4 dr5 dr6 dr7 dr8 dr9 dstates dreally ddays dheal dleak dlines dhearers dwords dplans dnews p1 (by omega) (by omega) (by omega) (by omega) (by omega) (by omega) (by omega)) m_yX0_hasHearer b_316 (ci := 0) rfl rfl rfl hP hD hS hA [1] [0, 2, 3] rfl (by decide) rfl (by decide) (by decide) rfl hl.1 rfl (Nat.le_of_ble_eq_true rfl) dX11_thinks_5 ⟨(Nat.le_of_ble_eq_true rfl), (Nat.le_of_ble_eq_true rfl)⟩ ⟨(Nat.le_of_ble_eq_true rfl), (Nat.le_of_ble_eq_true rfl)⟩ (fun u1 H locs q2 hP hD hS => ?_)
  obtain ⟨q2_0, q2_1⟩ := q2
  have hP : va_P g.1 vwCl [(h0, .inr (11, [.ref rd0, .ref d0, .ref im0, .ref ig0, .ref rw0, .ref we0, .ref mi0, .ref re0, .ref pl0, .ref ri0, .ref le0])), (dr1, .inl (g.2 0, 32, .inl dthoughts)), (dr2, .inl (g.2 0, 4, .inl dreckonings)), (d0, .inr (0, [.int dstates, .int dreally, .int ddays, .int dheal, .int dleak, .int dlines, .int dhearers, .int dwords, .int dplans, .int dnews, .ref dr0, .ref dr1, .ref dr2, .ref dr3, .ref dr4, .ref dr5, .ref dr6, .ref dr7, .ref dr8, .ref dr9]))] H := hP
  have hD : va_D A [(h0, .inr (11, [.ref rd0, .ref d0, .ref im0, .ref ig0, .ref rw0, .ref we0, .ref mi0, .ref re0, .ref pl0, .ref ri0, .ref le0])), (dr1, .inl (g.2 0, 32, .inl dthoughts)), (dr2, .inl (g.2 0, 4, .inl dreckonings)), (d0, .inr (0, [.int dstates, .int dreally, .int ddays, .int dheal, .int dleak, .int dlines, .int dhearers, .int dwords, .int dplans, .int dnews, .ref dr0, .ref dr1, .ref dr2, .ref dr3, .ref dr4, .ref dr5, .ref dr6, .ref dr7, .ref dr8, .ref dr9]))] := hD
  refine W.eq (g2 := F0 m 8 ls [.int (u1.1 0)]) rfl ?_
  rcases (show (u1.1 0).toInt = 0 ∨ (u1.1 0).toInt = 1 by omega) with c3 | c3
  · skip
    refine lv_if_ne (tgt := 14) hx hb dX11_thinks_8 (by decide) (fun c4 => ?_) (fun c4 => ?_)
    · have c4 := k_ne (a := (u1.1 0).toInt) (b := 0) rfl (by decide) c4
      exfalso; omega
    · have c4 := k_eq (a := (u1.1 0).toInt) (b := 0) rfl (by decide) c4
      refine lv_bipush (v := -2) hx hb dX11_thinks_11 (by decide) ?_
      exact rt_i FX ((fun k => match k with | 0 => (-2 : Int32) | _ => 0), (fun _ => fun _ => 0), (fun _ => fun _ => 0)) rfl trivial (hP.sub [0, 3, 1, 2] rfl) (hD.sub [0, 3, 1, 2] (by decide) rfl) hS (Nat.le_of_ble_eq_true rfl) (Nat.le_of_ble_eq_true rfl) dX11_thinks_13
  · have c3_r := q2_1 c3
    refine lv_if_ne (tgt := 14) hx hb dX11_thinks_8 (by decide) (fun c5 => ?_) (fun c5 => ?_)
    · have c5 := k_ne (a := (u1.1 0).toInt) (b := 0) rfl (by decide) c5
      refine lv_iload_n hx hb dX11_thinks_14 rfl (lv_at hl 2 rfl) ?_
      refine lv_iconst (v := -1) hx hb dX11_thinks_15 (by decide) ?_
      refine lv_icmp_ne (tgt := 29) hx hb dX11_thinks_16 (by decide) (fun c6 => ?_) (fun c6 => ?_)
      · have c6 := k_ne (a := p2.toInt) (b := -1) rfl (by decide) c6
        refine lv_aload_n hx hb dX11_thinks_29 rfl (lv_at hl 0 rfl) ?_
        refine g_get (C := RX11) (T := TX11) (N := 11) (ci := 11) (v := .ref d0) FC hKn hP i_X11 0 rfl rfl 1 (by decide) b_310 rfl dX11_thinks_30 ?_
        refine lv_iload_n hx hb dX11_thinks_33 rfl (lv_at hl 2 rfl) ?_
        refine call_VN (As := [.int p2]) (rest := []) (wr := [(h0, .inr (11, [.ref rd0, .ref d0, .ref im0, .ref ig0, .ref rw0, .ref we0, .ref mi0, .ref re0, .ref pl0, .ref ri0, .ref le0])), (dr1, .inl (g.2 0, 32, .inl dthoughts)), (dr2, .inl (g.2 0, 4, .inl dreckonings))]) FC hKn hZ (k_X0_hasState l g d0 dr0 dr1 dr2 dr3 dr4 dr5 dr6 dr7 dr8 dr9 dstates dreally ddays dheal dleak dlines dhearers dwords dplans dnews p2 (by omega) (by omega) (by omega) (by omega) (by omega) (by omega) (by omega)) m_yX0_hasState b_388 (ci := 0) rfl rfl rfl hP hD hS hA [3] [0, 1, 2] rfl (by decide) rfl (by decide) (by decide) rfl hl.1 rfl (Nat.le_of_ble_eq_true rfl) dX11_thinks_34 ⟨(Nat.le_of_ble_eq_true rfl), (Nat.le_of_ble_eq_true rfl)⟩ ⟨(Nat.le_of_ble_eq_true rfl), (Nat.le_of_ble_eq_true rfl)⟩ (fun u7 H locs q8 hP hD hS => ?_)
        obtain ⟨q8_0, q8_1⟩ := q8
        have hP : va_P g.1 vwCl [(h0, .inr (11, [.ref rd0, .ref d0, .ref im0, .ref ig0, .ref rw0, .ref we0, .ref mi0, .ref re0, .ref pl0, .ref ri0, .ref le0])), (dr1, .inl (g.2 0, 32, .inl dthoughts)), (dr2, .inl (g.2 0, 4, .inl dreckonings)), (d0, .inr (0, [.int dstates, .int dreally, .int ddays, .int dheal, .int dleak, .int dlines, .int dhearers, .int dwords, .int dplans, .int dnews, .ref dr0, .ref dr1, .ref dr2, .ref dr3, .ref dr4, .ref dr5, .ref dr6, .ref dr7, .ref dr8, .ref dr9]))] H := hP
        have hD : va_D A [(h0, .inr (11, [.ref rd0, .ref d0, .ref im0, .ref ig0, .ref rw0, .ref we0, .ref mi0, .ref re0, .ref pl0, .ref ri0, .ref le0])), (dr1, .inl (g.2 0, 32, .inl dthoughts)), (dr2, .inl (g.2 0, 4, .inl dreckonings)), (d0, .inr (0, [.int dstates, .int dreally, .int ddays, .int dheal, .int dleak, .int dlines, .int dhearers, .int dwords, .int dplans, .int dnews, .ref dr0, .ref dr1, .ref dr2, .ref dr3, .ref dr4, .ref dr5, .ref dr6, .ref dr7, .ref dr8, .ref dr9]))] := hD
        refine W.eq (g2 := F0 m 37 ls [.int (u7.1 0)]) rfl ?_
        rcases (show (u7.1 0).toInt = 0 ∨ (u7.1 0).toInt = 1 by omega) with c9 | c9
        · skip
          refine lv_if_eq (tgt := 52) hx hb dX11_thinks_37 (by decide) (fun c10 => ?_) (fun c10 => ?_)
          · have c10 := k_eq (a := (u7.1 0).toInt) (b := 0) rfl (by decide) c10
            refine lv_bipush (v := -2) hx hb dX11_thinks_52 (by decide) ?_
            exact rt_i FX ((fun k => match k with | 0 => (-2 : Int32) | _ => 0), (fun _ => fun _ => 0), (fun _ => fun _ => 0)) rfl trivial (hP.sub [0, 3, 1, 2] rfl) (hD.sub [0, 3, 1, 2] (by decide) rfl) hS (Nat.le_of_ble_eq_true rfl) (Nat.le_of_ble_eq_true rfl) dX11_thinks_54
          · have c10 := k_ne (a := (u7.1 0).toInt) (b := 0) rfl (by decide) c10
            exfalso; omega
        · have c9_r := q8_1 c9
          refine lv_if_eq (tgt := 52) hx hb dX11_thinks_37 (by decide) (fun c11 => ?_) (fun c11 => ?_)
          · have c11 := k_eq (a := (u7.1 0).toInt) (b := 0) rfl (by decide) c11
            exfalso; omega
          · have c11 := k_ne (a := (u7.1 0).toInt) (b := 0) rfl (by decide) c11
            refine lv_aload_n hx hb dX11_thinks_40 rfl (lv_at hl 0 rfl) ?_
            refine g_get (C := RX11) (T := TX11) (N := 11) (ci := 11) (v := .ref d0) FC hKn hP i_X11 0 rfl rfl 1 (by decide) b_310 rfl dX11_thinks_41 ?_
            refine lv_iload_n hx hb dX11_thinks_44 rfl (lv_at hl 1 rfl) ?_
            refine lv_iload_n hx hb dX11_thinks_45 rfl (lv_at hl 2 rfl) ?_
            refine call_VN (As := [.int p1, .int p2]) (rest := []) (wr := [(h0, .inr (11, [.ref rd0, .ref d0, .ref im0, .ref ig0, .ref rw0, .ref we0, .ref mi0, .ref re0, .ref pl0, .ref ri0, .ref le0])), (dr2, .inl (g.2 0, 4, .inl dreckonings))]) FC hKn hZ (k_X0_thoughtOf l g d0 dr0 dr1 dr2 dr3 dr4 dr5 dr6 dr7 dr8 dr9 dstates dreally ddays dheal dleak dlines dhearers dwords dplans dnews dthoughts p1 p2 (by omega) (by omega) (by omega) (by omega) (by omega) (by omega) (by omega) (by omega) (by omega)) m_yX0_thoughtOf b_390 (ci := 0) rfl rfl rfl hP hD hS hA [3, 1] [0, 2] rfl (by decide) rfl (by decide) (by decide) rfl hl.1 rfl (Nat.le_of_ble_eq_true rfl) dX11_thinks_46 ⟨(Nat.le_of_ble_eq_true rfl), (Nat.le_of_ble_eq_true rfl)⟩ ⟨(Nat.le_of_ble_eq_true rfl), (Nat.le_of_ble_eq_true rfl)⟩ (fun u12 H locs q13 hP hD hS => ?_)
            have hP : va_P g.1 vwCl [(h0, .inr (11, [.ref rd0, .ref d0, .ref im0, .ref ig0, .ref rw0, .ref we0, .ref mi0, .ref re0, .ref pl0, .ref ri0, .ref le0])), (dr2, .inl (g.2 0, 4, .inl dreckonings)), (d0, .inr (0, [.int dstates, .int dreally, .int ddays, .int dheal, .int dleak, .int dlines, .int dhearers, .int dwords, .int dplans, .int dnews, .ref dr0, .ref dr1, .ref dr2, .ref dr3, .ref dr4, .ref dr5, .ref dr6, .ref dr7, .ref dr8, .ref dr9])), (dr1, .inl (g.2 0, 32, .inl dthoughts))] H := hP
            have hD : va_D A [(h0, .inr (11, [.ref rd0, .ref d0, .ref im0, .ref ig0, .ref rw0, .ref we0, .ref mi0, .ref re0, .ref pl0, .ref ri0, .ref le0])), (dr2, .inl (g.2 0, 4, .inl dreckonings)), (d0, .inr (0, [.int dstates, .int dreally, .int ddays, .int dheal, .int dleak, .int dlines, .int dhearers, .int dwords, .int dplans, .int dnews, .ref dr0, .ref dr1, .ref dr2, .ref dr3, .ref dr4, .ref dr5, .ref dr6, .ref dr7, .ref dr8, .ref dr9])), (dr1, .inl (g.2 0, 32, .inl dthoughts))] := hD
            refine W.eq (g2 := F0 m 49 ls [.int (u12.1 0)]) rfl ?_
            refine lv_goto (tgt := 54) hx hb dX11_thinks_49 (by decide) ?_
            exact rt_i FX ((fun k => match k with | 0 => u12.1 0 | _ => 0), (fun _ => fun _ => 0), (fun _ => fun _ => 0)) rfl trivial (hP.sub [0, 2, 3, 1] rfl) (hD.sub [0, 2, 3, 1] (by decide) rfl) hS (Nat.le_of_ble_eq_true rfl) (Nat.le_of_ble_eq_true rfl) dX11_thinks_54
      · have c6 := k_eq (a := p2.toInt) (b := -1) rfl (by decide) c6
        refine lv_aload_n hx hb dX11_thinks_19 rfl (lv_at hl 0 rfl) ?_
        refine g_get (C := RX11) (T := TX11) (N := 11) (ci := 11) (v := .ref d0) FC hKn hP i_X11 0 rfl rfl 1 (by decide) b_310 rfl dX11_thinks_20 ?_
        refine g_getN (C := RX0) (T := TX0) (N := 20) (ci := 0) (v := .ref dr2) FC hKn hP i_X0 3 rfl rfl 12 (by decide) b_391 rfl dX11_thinks_23 ?_
        refine lv_iload_n hx hb dX11_thinks_26 rfl (lv_at hl 1 rfl) ?_
        refine va_iald hx hb hKn.1 hP 2 0 rfl rfl (vp_in_iff.mpr ⟨by omega, by omega⟩) dX11_thinks_27 ?_
        refine lv_topi (fun z14 e_z14 => ?_)
        exact rt_i FX ((fun k => match k with | 0 => z14 | _ => 0), (fun _ => fun _ => 0), (fun _ => fun _ => 0)) rfl trivial (hP.sub [0, 3, 1, 2] rfl) (hD.sub [0, 3, 1, 2] (by decide) rfl) hS (Nat.le_of_ble_eq_true rfl) (Nat.le_of_ble_eq_true rfl) dX11_thinks_28
    · have c5 := k_eq (a := (u1.1 0).toInt) (b := 0) rfl (by decide) c5
      exfalso; omega
set_option maxRecDepth 100000 in
set_option maxHeartbeats 4000000 in
theorem k_X11_word (l : Launch) (g : GG) (h0 : Nat) (rd0 : Nat) (d0 : Nat) (im0 : Nat) (ig0 : Nat) (rw0 : Nat) (we0 : Nat) (mi0 : Nat) (re0 : Nat) (pl0 : Nat) (ri0 : Nat) (le0 : Nat) (dr0 : Nat) (dr1 : Nat) (dr2 : Nat) (dr3 : Nat) (dr4 : Nat) (dr5 : Nat) (dr6 : Nat) (dr7 : Nat) (dr8 : Nat) (dr9 : Nat) (dstates : Int32) (dreally : Int32) (ddays : Int32) (dheal : Int32) (dleak : Int32) (dlines : Int32) (dhearers : Int32) (dwords : Int32) (dplans : Int32) (dnews : Int32) (dshames : Nat → Int32) (dmeanings : Nat → Int32) (p1 : Int32) (p2 : Int32) (i_dstates : 0 ≤ dstates.toInt ∧ dstates.toInt ≤ 8) (i_dreally : 0 ≤ dreally.toInt ∧ dreally.toInt ≤ 7) (i_ddays : 0 ≤ ddays.toInt ∧ ddays.toInt ≤ 10) (i_dhearers : 0 ≤ dhearers.toInt ∧ dhearers.toInt ≤ 4) (i_dwords : 0 ≤ dwords.toInt ∧ dwords.toInt ≤ 8) (i_dplans : 0 ≤ dplans.toInt ∧ dplans.toInt ≤ 4) (i_dnews : 0 ≤ dnews.toInt ∧ dnews.toInt ≤ 6) (i_dmeanings : ab dmeanings 8 0 255) : Ct l g yX11_word cX11_word 3 (some .int) { frames := 1, cells := 0, slots := 0, locals := 21 } [.ref h0, .int p1, .int p2] [(h0, .inr (11, [.ref rd0, .ref d0, .ref im0, .ref ig0, .ref rw0, .ref we0, .ref mi0, .ref re0, .ref pl0, .ref ri0, .ref le0])), (d0, .inr (0, [.int dstates, .int dreally, .int ddays, .int dheal, .int dleak, .int dlines, .int dhearers, .int dwords, .int dplans, .int dnews, .ref dr0, .ref dr1, .ref dr2, .ref dr3, .ref dr4, .ref dr5, .ref dr6, .ref dr7, .ref dr8, .ref dr9])), (dr4, .inl (g.2 0, 8, .inl dshames)), (dr5, .inl (g.2 0, 8, .inl dmeanings))] (S := (Nat → Int32) × (Nat → Nat → Int32) × (Nat → Nat → Int64)) (fun u => some (.int (u.1 0))) (fun u => True) (fun u => [(h0, .inr (11, [.ref rd0, .ref d0, .ref im0, .ref ig0, .ref rw0, .ref we0, .ref mi0, .ref re0, .ref pl0, .ref ri0, .ref le0])), (d0, .inr (0, [.int dstates, .int dreally, .int ddays, .int dheal, .int dleak, .int dlines, .int dhearers, .int dwords, .int dplans, .int dnews, .ref dr0, .ref dr1, .ref dr2, .ref dr3, .ref dr4, .ref dr5, .ref dr6, .ref dr7, .ref dr8, .ref dr9])), (dr4, .inl (g.2 0, 8, .inl dshames)), (dr5, .inl (g.2 0, 8, .inl dmeanings))]) := by
  refine Ct.of (by decide) (Nat.le_of_ble_eq_true rfl) ?_
  intro p e s m below meth c A ls FX hP hD hS hl
  obtain ⟨FC, hr, hlk, hKn, hA, hnm, hZ⟩ := id FX
  have FC : CallFix p m c cX11_word 3 s _ BIG RX11 := FC
  obtain ⟨hx, hb, hml, hown, hB⟩ := id FC
  have hl : lv_has ls 3 [(0, .ref h0), (1, .int p1), (2, .int p2)] := hl
  refine lv_aload_n hx hb dX11_word_0 rfl (lv_at hl 0 rfl) ?_
  refine g_get (C := RX11) (T := TX11) (N := 11) (ci := 11) (v := .ref d0) FC hKn hP i_X11 0 rfl rfl 1 (by decide) b_310 rfl dX11_word_1 ?_
  refine lv_iload_n hx hb dX11_word_4 rfl (lv_at hl 1 rfl) ?_
  refine call_VN (As := [.int p1]) (rest := []) (wr := [(h0, .inr (11, [.ref rd0, .ref d0, .ref im0, .ref ig0, .ref rw0, .ref we0, .ref mi0, .ref re0, .ref pl0, .ref ri0, .ref le0])), (dr4, .inl (g.2 0, 8, .inl dshames)), (dr5, .inl (g.2 0, 8, .inl dmeanings))]) FC hKn hZ (k_X0_hasWord l g d0 dr0 dr1 dr2 dr3 dr4 dr5 dr6 dr7 dr8 dr9 dstates dreally ddays dheal dleak dlines dhearers dwords dplans dnews p1 (by omega) (by omega) (by omega) (by omega) (by omega) (by omega) (by omega)) m_yX0_hasWord b_392 (ci := 0) rfl rfl rfl hP hD hS hA [1] [0, 2, 3] rfl (by decide) rfl (by decide) (by decide) rfl hl.1 rfl (Nat.le_of_ble_eq_true rfl) dX11_word_5 ⟨(Nat.le_of_ble_eq_true rfl), (Nat.le_of_ble_eq_true rfl)⟩ ⟨(Nat.le_of_ble_eq_true rfl), (Nat.le_of_ble_eq_true rfl)⟩ (fun u1 H locs q2 hP hD hS => ?_)
  obtain ⟨q2_0, q2_1⟩ := q2
  have hP : va_P g.1 vwCl [(h0, .inr (11, [.ref rd0, .ref d0, .ref im0, .ref ig0, .ref rw0, .ref we0, .ref mi0, .ref re0, .ref pl0, .ref ri0, .ref le0])), (dr4, .inl (g.2 0, 8, .inl dshames)), (dr5, .inl (g.2 0, 8, .inl dmeanings)), (d0, .inr (0, [.int dstates, .int dreally, .int ddays, .int dheal, .int dleak, .int dlines, .int dhearers, .int dwords, .int dplans, .int dnews, .ref dr0, .ref dr1, .ref dr2, .ref dr3, .ref dr4, .ref dr5, .ref dr6, .ref dr7, .ref dr8, .ref dr9]))] H := hP
  have hD : va_D A [(h0, .inr (11, [.ref rd0, .ref d0, .ref im0, .ref ig0, .ref rw0, .ref we0, .ref mi0, .ref re0, .ref pl0, .ref ri0, .ref le0])), (dr4, .inl (g.2 0, 8, .inl dshames)), (dr5, .inl (g.2 0, 8, .inl dmeanings)), (d0, .inr (0, [.int dstates, .int dreally, .int ddays, .int dheal, .int dleak, .int dlines, .int dhearers, .int dwords, .int dplans, .int dnews, .ref dr0, .ref dr1, .ref dr2, .ref dr3, .ref dr4, .ref dr5, .ref dr6, .ref dr7, .ref dr8, .ref dr9]))] := hD
  refine W.eq (g2 := F0 m 8 ls [.int (u1.1 0)]) rfl ?_
  rcases (show (u1.1 0).toInt = 0 ∨ (u1.1 0).toInt = 1 by omega) with c3 | c3
  · skip
    refine lv_if_ne (tgt := 14) hx hb dX11_word_8 (by decide) (fun c4 => ?_) (fun c4 => ?_)
    · have c4 := k_ne (a := (u1.1 0).toInt) (b := 0) rfl (by decide) c4
      exfalso; omega
    · have c4 := k_eq (a := (u1.1 0).toInt) (b := 0) rfl (by decide) c4
      refine lv_bipush (v := -2) hx hb dX11_word_11 (by decide) ?_
      exact rt_i FX ((fun k => match k with | 0 => (-2 : Int32) | _ => 0), (fun _ => fun _ => 0), (fun _ => fun _ => 0)) rfl trivial (hP.sub [0, 3, 1, 2] rfl) (hD.sub [0, 3, 1, 2] (by decide) rfl) hS (Nat.le_of_ble_eq_true rfl) (Nat.le_of_ble_eq_true rfl) dX11_word_13
  · have c3_r := q2_1 c3
    refine lv_if_ne (tgt := 14) hx hb dX11_word_8 (by decide) (fun c5 => ?_) (fun c5 => ?_)
    · have c5 := k_ne (a := (u1.1 0).toInt) (b := 0) rfl (by decide) c5
      refine lv_iload_n hx hb dX11_word_14 rfl (lv_at hl 2 rfl) ?_
      by_cases c6 : p2.toInt < 0 ∨ 2 < p2.toInt
      · refine lv_tableOut (tgt := 77) hx hb dX11_word_15 c6 (by decide) ?_
        refine lv_bipush (v := -2) hx hb dX11_word_77 (by decide) ?_
        exact rt_i FX ((fun k => match k with | 0 => (-2 : Int32) | _ => 0), (fun _ => fun _ => 0), (fun _ => fun _ => 0)) rfl trivial (hP.sub [0, 3, 1, 2] rfl) (hD.sub [0, 3, 1, 2] (by decide) rfl) hS (Nat.le_of_ble_eq_true rfl) (Nat.le_of_ble_eq_true rfl) dX11_word_79
      · skip
        rcases (show p2.toInt = 0 ∨ p2.toInt = 1 ∨ p2.toInt = 2 by omega) with hv | hv | hv
        · obtain rfl : p2 = 0 := Int32.toInt_inj.mp (hv.trans (by decide))
          refine lv_tableIn (tgt := 40) (off := 25) hx hb dX11_word_15 (by decide) (by decide) (by decide) (by decide) ?_
          refine lv_aload_n hx hb dX11_word_40 rfl (lv_at hl 0 rfl) ?_
          refine g_get (C := RX11) (T := TX11) (N := 11) (ci := 11) (v := .ref d0) FC hKn hP i_X11 0 rfl rfl 1 (by decide) b_310 rfl dX11_word_41 ?_
          refine g_getN (C := RX0) (T := TX0) (N := 20) (ci := 0) (v := .ref dr4) FC hKn hP i_X0 3 rfl rfl 14 (by decide) b_393 rfl dX11_word_44 ?_
          refine lv_iload_n hx hb dX11_word_47 rfl (lv_at hl 1 rfl) ?_
          refine va_iald hx hb hKn.1 hP 1 0 rfl rfl (vp_in_iff.mpr ⟨by omega, by omega⟩) dX11_word_48 ?_
          refine lv_topi (fun z7 e_z7 => ?_)
          exact rt_i FX ((fun k => match k with | 0 => z7 | _ => 0), (fun _ => fun _ => 0), (fun _ => fun _ => 0)) rfl trivial (hP.sub [0, 3, 1, 2] rfl) (hD.sub [0, 3, 1, 2] (by decide) rfl) hS (Nat.le_of_ble_eq_true rfl) (Nat.le_of_ble_eq_true rfl) dX11_word_49
        · obtain rfl : p2 = 1 := Int32.toInt_inj.mp (hv.trans (by decide))
          refine lv_tableIn (tgt := 50) (off := 35) hx hb dX11_word_15 (by decide) (by decide) (by decide) (by decide) ?_
          refine lv_aload_n hx hb dX11_word_50 rfl (lv_at hl 0 rfl) ?_
          refine g_get (C := RX11) (T := TX11) (N := 11) (ci := 11) (v := .ref d0) FC hKn hP i_X11 0 rfl rfl 1 (by decide) b_310 rfl dX11_word_51 ?_
          refine g_getN (C := RX0) (T := TX0) (N := 20) (ci := 0) (v := .ref dr5) FC hKn hP i_X0 3 rfl rfl 15 (by decide) b_394 rfl dX11_word_54 ?_
          refine lv_iload_n hx hb dX11_word_57 rfl (lv_at hl 1 rfl) ?_
          refine va_iald hx hb hKn.1 hP 2 0 rfl rfl (vp_in_iff.mpr ⟨by omega, by omega⟩) dX11_word_58 ?_
          refine lv_topi (fun z8 e_z8 => ?_)
          have t_z8 : 0 ≤ z8.toInt ∧ z8.toInt ≤ 255 := by rw [e_z8]; exact i_dmeanings _ (clt (by omega) (by omega))
          exact rt_i FX ((fun k => match k with | 0 => z8 | _ => 0), (fun _ => fun _ => 0), (fun _ => fun _ => 0)) rfl trivial (hP.sub [0, 3, 1, 2] rfl) (hD.sub [0, 3, 1, 2] (by decide) rfl) hS (Nat.le_of_ble_eq_true rfl) (Nat.le_of_ble_eq_true rfl) dX11_word_59
        · obtain rfl : p2 = 2 := Int32.toInt_inj.mp (hv.trans (by decide))
          refine lv_tableIn (tgt := 60) (off := 45) hx hb dX11_word_15 (by decide) (by decide) (by decide) (by decide) ?_
          refine lv_aload_n hx hb dX11_word_60 rfl (lv_at hl 0 rfl) ?_
          refine g_get (C := RX11) (T := TX11) (N := 11) (ci := 11) (v := .ref d0) FC hKn hP i_X11 0 rfl rfl 1 (by decide) b_310 rfl dX11_word_61 ?_
          refine lv_iload_n hx hb dX11_word_64 rfl (lv_at hl 1 rfl) ?_
          refine call_VN (As := [.int p1]) (rest := []) (wr := [(h0, .inr (11, [.ref rd0, .ref d0, .ref im0, .ref ig0, .ref rw0, .ref we0, .ref mi0, .ref re0, .ref pl0, .ref ri0, .ref le0])), (dr4, .inl (g.2 0, 8, .inl dshames))]) FC hKn hZ (k_X0_isTrue l g d0 dr0 dr1 dr2 dr3 dr4 dr5 dr6 dr7 dr8 dr9 dstates dreally ddays dheal dleak dlines dhearers dwords dplans dnews dmeanings p1 (by omega) (by omega) (by omega) (by omega) (by omega) (by omega) (by omega) i_dmeanings (by omega)) m_yX0_isTrue b_395 (ci := 0) rfl rfl rfl hP hD hS hA [3, 2] [0, 1] rfl (by decide) rfl (by decide) (by decide) rfl hl.1 rfl (Nat.le_of_ble_eq_true rfl) dX11_word_65 ⟨(Nat.le_of_ble_eq_true rfl), (Nat.le_of_ble_eq_true rfl)⟩ ⟨(Nat.le_of_ble_eq_true rfl), (Nat.le_of_ble_eq_true rfl)⟩ (fun u9 H locs q10 hP hD hS => ?_)
          have q10_0 : 0 ≤ (u9.1 0).toInt ∧ (u9.1 0).toInt ≤ 1 := q10
          have hP : va_P g.1 vwCl [(h0, .inr (11, [.ref rd0, .ref d0, .ref im0, .ref ig0, .ref rw0, .ref we0, .ref mi0, .ref re0, .ref pl0, .ref ri0, .ref le0])), (dr4, .inl (g.2 0, 8, .inl dshames)), (d0, .inr (0, [.int dstates, .int dreally, .int ddays, .int dheal, .int dleak, .int dlines, .int dhearers, .int dwords, .int dplans, .int dnews, .ref dr0, .ref dr1, .ref dr2, .ref dr3, .ref dr4, .ref dr5, .ref dr6, .ref dr7, .ref dr8, .ref dr9])), (dr5, .inl (g.2 0, 8, .inl dmeanings))] H := hP
          have hD : va_D A [(h0, .inr (11, [.ref rd0, .ref d0, .ref im0, .ref ig0, .ref rw0, .ref we0, .ref mi0, .ref re0, .ref pl0, .ref ri0, .ref le0])), (dr4, .inl (g.2 0, 8, .inl dshames)), (d0, .inr (0, [.int dstates, .int dreally, .int ddays, .int dheal, .int dleak, .int dlines, .int dhearers, .int dwords, .int dplans, .int dnews, .ref dr0, .ref dr1, .ref dr2, .ref dr3, .ref dr4, .ref dr5, .ref dr6, .ref dr7, .ref dr8, .ref dr9])), (dr5, .inl (g.2 0, 8, .inl dmeanings))] := hD
          refine W.eq (g2 := F0 m 68 ls [.int (u9.1 0)]) rfl ?_
          refine lv_if_eq (tgt := 75) hx hb dX11_word_68 (by decide) (fun c11 => ?_) (fun c11 => ?_)
          · have c11 := k_eq (a := (u9.1 0).toInt) (b := 0) rfl (by decide) c11
            refine lv_iconst (v := 0) hx hb dX11_word_75 (by decide) ?_
            exact rt_i FX ((fun k => match k with | 0 => (0 : Int32) | _ => 0), (fun _ => fun _ => 0), (fun _ => fun _ => 0)) rfl trivial (hP.sub [0, 2, 1, 3] rfl) (hD.sub [0, 2, 1, 3] (by decide) rfl) hS (Nat.le_of_ble_eq_true rfl) (Nat.le_of_ble_eq_true rfl) dX11_word_76
          · have c11 := k_ne (a := (u9.1 0).toInt) (b := 0) rfl (by decide) c11
            refine lv_iconst (v := 1) hx hb dX11_word_71 (by decide) ?_
            refine lv_goto (tgt := 76) hx hb dX11_word_72 (by decide) ?_
            exact rt_i FX ((fun k => match k with | 0 => (1 : Int32) | _ => 0), (fun _ => fun _ => 0), (fun _ => fun _ => 0)) rfl trivial (hP.sub [0, 2, 1, 3] rfl) (hD.sub [0, 2, 1, 3] (by decide) rfl) hS (Nat.le_of_ble_eq_true rfl) (Nat.le_of_ble_eq_true rfl) dX11_word_76
    · have c5 := k_eq (a := (u1.1 0).toInt) (b := 0) rfl (by decide) c5
      exfalso; omega
set_option maxRecDepth 100000 in
set_option maxHeartbeats 4000000 in
theorem k_X11_plan (l : Launch) (g : GG) (h0 : Nat) (rd0 : Nat) (d0 : Nat) (im0 : Nat) (ig0 : Nat) (rw0 : Nat) (we0 : Nat) (mi0 : Nat) (re0 : Nat) (pl0 : Nat) (ri0 : Nat) (le0 : Nat) (dr0 : Nat) (dr1 : Nat) (dr2 : Nat) (dr3 : Nat) (dr4 : Nat) (dr5 : Nat) (dr6 : Nat) (dr7 : Nat) (dr8 : Nat) (dr9 : Nat) (dstates : Int32) (dreally : Int32) (ddays : Int32) (dheal : Int32) (dleak : Int32) (dlines : Int32) (dhearers : Int32) (dwords : Int32) (dplans : Int32) (dnews : Int32) (dplanSizes : Nat → Int32) (dplanWords : Nat → Int32) (p1 : Int32) (p2 : Int32) (i_dstates : 0 ≤ dstates.toInt ∧ dstates.toInt ≤ 8) (i_dreally : 0 ≤ dreally.toInt ∧ dreally.toInt ≤ 7) (i_ddays : 0 ≤ ddays.toInt ∧ ddays.toInt ≤ 10) (i_dhearers : 0 ≤ dhearers.toInt ∧ dhearers.toInt ≤ 4) (i_dwords : 0 ≤ dwords.toInt ∧ dwords.toInt ≤ 8) (i_dplans : 0 ≤ dplans.toInt ∧ dplans.toInt ≤ 4) (i_dnews : 0 ≤ dnews.toInt ∧ dnews.toInt ≤ 6) (i_dplanSizes : ab dplanSizes 4 0 5) : Ct l g yX11_plan cX11_plan 3 (some .int) { frames := 1, cells := 0, slots := 0, locals := 22 } [.ref h0, .int p1, .int p2] [(h0, .inr (11, [.ref rd0, .ref d0, .ref im0, .ref ig0, .ref rw0, .ref we0, .ref mi0, .ref re0, .ref pl0, .ref ri0, .ref le0])), (d0, .inr (0, [.int dstates, .int dreally, .int ddays, .int dheal, .int dleak, .int dlines, .int dhearers, .int dwords, .int dplans, .int dnews, .ref dr0, .ref dr1, .ref dr2, .ref dr3, .ref dr4, .ref dr5, .ref dr6, .ref dr7, .ref dr8, .ref dr9])), (dr6, .inl (g.2 0, 4, .inl dplanSizes)), (dr7, .inl (g.2 0, 20, .inl dplanWords))] (S := (Nat → Int32) × (Nat → Nat → Int32) × (Nat → Nat → Int64)) (fun u => some (.int (u.1 0))) (fun u => True) (fun u => [(h0, .inr (11, [.ref rd0, .ref d0, .ref im0, .ref ig0, .ref rw0, .ref we0, .ref mi0, .ref re0, .ref pl0, .ref ri0, .ref le0])), (d0, .inr (0, [.int dstates, .int dreally, .int ddays, .int dheal, .int dleak, .int dlines, .int dhearers, .int dwords, .int dplans, .int dnews, .ref dr0, .ref dr1, .ref dr2, .ref dr3, .ref dr4, .ref dr5, .ref dr6, .ref dr7, .ref dr8, .ref dr9])), (dr6, .inl (g.2 0, 4, .inl dplanSizes)), (dr7, .inl (g.2 0, 20, .inl dplanWords))]) := by
  refine Ct.of (by decide) (Nat.le_of_ble_eq_true rfl) ?_
  intro p e s m below meth c A ls FX hP hD hS hl
  obtain ⟨FC, hr, hlk, hKn, hA, hnm, hZ⟩ := id FX
  have FC : CallFix p m c cX11_plan 3 s _ BIG RX11 := FC
  obtain ⟨hx, hb, hml, hown, hB⟩ := id FC
  have hl : lv_has ls 3 [(0, .ref h0), (1, .int p1), (2, .int p2)] := hl
  refine lv_aload_n hx hb dX11_plan_0 rfl (lv_at hl 0 rfl) ?_
  refine g_get (C := RX11) (T := TX11) (N := 11) (ci := 11) (v := .ref d0) FC hKn hP i_X11 0 rfl rfl 1 (by decide) b_310 rfl dX11_plan_1 ?_
  refine lv_iload_n hx hb dX11_plan_4 rfl (lv_at hl 1 rfl) ?_
  refine call_VN (As := [.int p1]) (rest := []) (wr := [(h0, .inr (11, [.ref rd0, .ref d0, .ref im0, .ref ig0, .ref rw0, .ref we0, .ref mi0, .ref re0, .ref pl0, .ref ri0, .ref le0])), (dr6, .inl (g.2 0, 4, .inl dplanSizes)), (dr7, .inl (g.2 0, 20, .inl dplanWords))]) FC hKn hZ (k_X0_hasPlan l g d0 dr0 dr1 dr2 dr3 dr4 dr5 dr6 dr7 dr8 dr9 dstates dreally ddays dheal dleak dlines dhearers dwords dplans dnews p1 (by omega) (by omega) (by omega) (by omega) (by omega) (by omega) (by omega)) m_yX0_hasPlan b_396 (ci := 0) rfl rfl rfl hP hD hS hA [1] [0, 2, 3] rfl (by decide) rfl (by decide) (by decide) rfl hl.1 rfl (Nat.le_of_ble_eq_true rfl) dX11_plan_5 ⟨(Nat.le_of_ble_eq_true rfl), (Nat.le_of_ble_eq_true rfl)⟩ ⟨(Nat.le_of_ble_eq_true rfl), (Nat.le_of_ble_eq_true rfl)⟩ (fun u1 H locs q2 hP hD hS => ?_)
  obtain ⟨q2_0, q2_1⟩ := q2
  have hP : va_P g.1 vwCl [(h0, .inr (11, [.ref rd0, .ref d0, .ref im0, .ref ig0, .ref rw0, .ref we0, .ref mi0, .ref re0, .ref pl0, .ref ri0, .ref le0])), (dr6, .inl (g.2 0, 4, .inl dplanSizes)), (dr7, .inl (g.2 0, 20, .inl dplanWords)), (d0, .inr (0, [.int dstates, .int dreally, .int ddays, .int dheal, .int dleak, .int dlines, .int dhearers, .int dwords, .int dplans, .int dnews, .ref dr0, .ref dr1, .ref dr2, .ref dr3, .ref dr4, .ref dr5, .ref dr6, .ref dr7, .ref dr8, .ref dr9]))] H := hP
  have hD : va_D A [(h0, .inr (11, [.ref rd0, .ref d0, .ref im0, .ref ig0, .ref rw0, .ref we0, .ref mi0, .ref re0, .ref pl0, .ref ri0, .ref le0])), (dr6, .inl (g.2 0, 4, .inl dplanSizes)), (dr7, .inl (g.2 0, 20, .inl dplanWords)), (d0, .inr (0, [.int dstates, .int dreally, .int ddays, .int dheal, .int dleak, .int dlines, .int dhearers, .int dwords, .int dplans, .int dnews, .ref dr0, .ref dr1, .ref dr2, .ref dr3, .ref dr4, .ref dr5, .ref dr6, .ref dr7, .ref dr8, .ref dr9]))] := hD
  refine W.eq (g2 := F0 m 8 ls [.int (u1.1 0)]) rfl ?_
  rcases (show (u1.1 0).toInt = 0 ∨ (u1.1 0).toInt = 1 by omega) with c3 | c3
  · skip
    refine lv_if_ne (tgt := 14) hx hb dX11_plan_8 (by decide) (fun c4 => ?_) (fun c4 => ?_)
    · have c4 := k_ne (a := (u1.1 0).toInt) (b := 0) rfl (by decide) c4
      exfalso; omega
    · have c4 := k_eq (a := (u1.1 0).toInt) (b := 0) rfl (by decide) c4
      refine lv_bipush (v := -2) hx hb dX11_plan_11 (by decide) ?_
      exact rt_i FX ((fun k => match k with | 0 => (-2 : Int32) | _ => 0), (fun _ => fun _ => 0), (fun _ => fun _ => 0)) rfl trivial (hP.sub [0, 3, 1, 2] rfl) (hD.sub [0, 3, 1, 2] (by decide) rfl) hS (Nat.le_of_ble_eq_true rfl) (Nat.le_of_ble_eq_true rfl) dX11_plan_13
  · have c3_r := q2_1 c3
    refine lv_if_ne (tgt := 14) hx hb dX11_plan_8 (by decide) (fun c5 => ?_) (fun c5 => ?_)
    · have c5 := k_ne (a := (u1.1 0).toInt) (b := 0) rfl (by decide) c5
      refine lv_aload_n hx hb dX11_plan_14 rfl (lv_at hl 0 rfl) ?_
      refine g_get (C := RX11) (T := TX11) (N := 11) (ci := 11) (v := .ref d0) FC hKn hP i_X11 0 rfl rfl 1 (by decide) b_310 rfl dX11_plan_15 ?_
      refine lv_iload_n hx hb dX11_plan_18 rfl (lv_at hl 1 rfl) ?_
      refine lv_iload_n hx hb dX11_plan_19 rfl (lv_at hl 2 rfl) ?_
      refine call_VN (As := [.int p1, .int p2]) (rest := []) (wr := [(h0, .inr (11, [.ref rd0, .ref d0, .ref im0, .ref ig0, .ref rw0, .ref we0, .ref mi0, .ref re0, .ref pl0, .ref ri0, .ref le0]))]) FC hKn hZ (k_X0_planWord l g d0 dr0 dr1 dr2 dr3 dr4 dr5 dr6 dr7 dr8 dr9 dstates dreally ddays dheal dleak dlines dhearers dwords dplans dnews dplanSizes dplanWords p1 p2 (by omega) (by omega) (by omega) (by omega) (by omega) (by omega) (by omega) i_dplanSizes (by omega)) m_yX0_planWord b_397 (ci := 0) rfl rfl rfl hP hD hS hA [3, 1, 2] [0] rfl (by decide) rfl (by decide) (by decide) rfl hl.1 rfl (Nat.le_of_ble_eq_true rfl) dX11_plan_20 ⟨(Nat.le_of_ble_eq_true rfl), (Nat.le_of_ble_eq_true rfl)⟩ ⟨(Nat.le_of_ble_eq_true rfl), (Nat.le_of_ble_eq_true rfl)⟩ (fun u6 H locs q7 hP hD hS => ?_)
      have hP : va_P g.1 vwCl [(h0, .inr (11, [.ref rd0, .ref d0, .ref im0, .ref ig0, .ref rw0, .ref we0, .ref mi0, .ref re0, .ref pl0, .ref ri0, .ref le0])), (d0, .inr (0, [.int dstates, .int dreally, .int ddays, .int dheal, .int dleak, .int dlines, .int dhearers, .int dwords, .int dplans, .int dnews, .ref dr0, .ref dr1, .ref dr2, .ref dr3, .ref dr4, .ref dr5, .ref dr6, .ref dr7, .ref dr8, .ref dr9])), (dr6, .inl (g.2 0, 4, .inl dplanSizes)), (dr7, .inl (g.2 0, 20, .inl dplanWords))] H := hP
      have hD : va_D A [(h0, .inr (11, [.ref rd0, .ref d0, .ref im0, .ref ig0, .ref rw0, .ref we0, .ref mi0, .ref re0, .ref pl0, .ref ri0, .ref le0])), (d0, .inr (0, [.int dstates, .int dreally, .int ddays, .int dheal, .int dleak, .int dlines, .int dhearers, .int dwords, .int dplans, .int dnews, .ref dr0, .ref dr1, .ref dr2, .ref dr3, .ref dr4, .ref dr5, .ref dr6, .ref dr7, .ref dr8, .ref dr9])), (dr6, .inl (g.2 0, 4, .inl dplanSizes)), (dr7, .inl (g.2 0, 20, .inl dplanWords))] := hD
      refine W.eq (g2 := F0 m 23 ls [.int (u6.1 0)]) rfl ?_
      exact rt_i FX ((fun k => match k with | 0 => u6.1 0 | _ => 0), (fun _ => fun _ => 0), (fun _ => fun _ => 0)) rfl trivial (hP.sub [0, 1, 2, 3] rfl) (hD.sub [0, 1, 2, 3] (by decide) rfl) hS (Nat.le_of_ble_eq_true rfl) (Nat.le_of_ble_eq_true rfl) dX11_plan_23
    · have c5 := k_eq (a := (u1.1 0).toInt) (b := 0) rfl (by decide) c5
      exfalso; omega
set_option maxRecDepth 100000 in
set_option maxHeartbeats 4000000 in
theorem k_X11_news (l : Launch) (g : GG) (h0 : Nat) (rd0 : Nat) (d0 : Nat) (im0 : Nat) (ig0 : Nat) (rw0 : Nat) (we0 : Nat) (mi0 : Nat) (re0 : Nat) (pl0 : Nat) (ri0 : Nat) (le0 : Nat) (dr0 : Nat) (dr1 : Nat) (dr2 : Nat) (dr3 : Nat) (dr4 : Nat) (dr5 : Nat) (dr6 : Nat) (dr7 : Nat) (dr8 : Nat) (dr9 : Nat) (dstates : Int32) (dreally : Int32) (ddays : Int32) (dheal : Int32) (dleak : Int32) (dlines : Int32) (dhearers : Int32) (dwords : Int32) (dplans : Int32) (dnews : Int32) (dtidings : Nat → Int32) (p1 : Int32) (i_dstates : 0 ≤ dstates.toInt ∧ dstates.toInt ≤ 8) (i_dreally : 0 ≤ dreally.toInt ∧ dreally.toInt ≤ 7) (i_ddays : 0 ≤ ddays.toInt ∧ ddays.toInt ≤ 10) (i_dhearers : 0 ≤ dhearers.toInt ∧ dhearers.toInt ≤ 4) (i_dwords : 0 ≤ dwords.toInt ∧ dwords.toInt ≤ 8) (i_dplans : 0 ≤ dplans.toInt ∧ dplans.toInt ≤ 4) (i_dnews : 0 ≤ dnews.toInt ∧ dnews.toInt ≤ 6) : Ct l g yX11_news cX11_news 2 (some .int) { frames := 1, cells := 0, slots := 0, locals := 21 } [.ref h0, .int p1] [(h0, .inr (11, [.ref rd0, .ref d0, .ref im0, .ref ig0, .ref rw0, .ref we0, .ref mi0, .ref re0, .ref pl0, .ref ri0, .ref le0])), (d0, .inr (0, [.int dstates, .int dreally, .int ddays, .int dheal, .int dleak, .int dlines, .int dhearers, .int dwords, .int dplans, .int dnews, .ref dr0, .ref dr1, .ref dr2, .ref dr3, .ref dr4, .ref dr5, .ref dr6, .ref dr7, .ref dr8, .ref dr9])), (dr8, .inl (g.2 0, 6, .inl dtidings))] (S := (Nat → Int32) × (Nat → Nat → Int32) × (Nat → Nat → Int64)) (fun u => some (.int (u.1 0))) (fun u => True) (fun u => [(h0, .inr (11, [.ref rd0, .ref d0, .ref im0, .ref ig0, .ref rw0, .ref we0, .ref mi0, .ref re0, .ref pl0, .ref ri0, .ref le0])), (d0, .inr (0, [.int dstates, .int dreally, .int ddays, .int dheal, .int dleak, .int dlines, .int dhearers, .int dwords, .int dplans, .int dnews, .ref dr0, .ref dr1, .ref dr2, .ref dr3, .ref dr4, .ref dr5, .ref dr6, .ref dr7, .ref dr8, .ref dr9])), (dr8, .inl (g.2 0, 6, .inl dtidings))]) := by
  refine Ct.of (by decide) (Nat.le_of_ble_eq_true rfl) ?_
  intro p e s m below meth c A ls FX hP hD hS hl
  obtain ⟨FC, hr, hlk, hKn, hA, hnm, hZ⟩ := id FX
  have FC : CallFix p m c cX11_news 2 s _ BIG RX11 := FC
  obtain ⟨hx, hb, hml, hown, hB⟩ := id FC
  have hl : lv_has ls 2 [(0, .ref h0), (1, .int p1)] := hl
  refine lv_aload_n hx hb dX11_news_0 rfl (lv_at hl 0 rfl) ?_
  refine g_get (C := RX11) (T := TX11) (N := 11) (ci := 11) (v := .ref d0) FC hKn hP i_X11 0 rfl rfl 1 (by decide) b_310 rfl dX11_news_1 ?_
  refine lv_iload_n hx hb dX11_news_4 rfl (lv_at hl 1 rfl) ?_
  refine call_VN (As := [.int p1]) (rest := []) (wr := [(h0, .inr (11, [.ref rd0, .ref d0, .ref im0, .ref ig0, .ref rw0, .ref we0, .ref mi0, .ref re0, .ref pl0, .ref ri0, .ref le0])), (dr8, .inl (g.2 0, 6, .inl dtidings))]) FC hKn hZ (k_X0_hasNews l g d0 dr0 dr1 dr2 dr3 dr4 dr5 dr6 dr7 dr8 dr9 dstates dreally ddays dheal dleak dlines dhearers dwords dplans dnews p1 (by omega) (by omega) (by omega) (by omega) (by omega) (by omega) (by omega)) m_yX0_hasNews b_398 (ci := 0) rfl rfl rfl hP hD hS hA [1] [0, 2] rfl (by decide) rfl (by decide) (by decide) rfl hl.1 rfl (Nat.le_of_ble_eq_true rfl) dX11_news_5 ⟨(Nat.le_of_ble_eq_true rfl), (Nat.le_of_ble_eq_true rfl)⟩ ⟨(Nat.le_of_ble_eq_true rfl), (Nat.le_of_ble_eq_true rfl)⟩ (fun u1 H locs q2 hP hD hS => ?_)
  obtain ⟨q2_0, q2_1⟩ := q2
  have hP : va_P g.1 vwCl [(h0, .inr (11, [.ref rd0, .ref d0, .ref im0, .ref ig0, .ref rw0, .ref we0, .ref mi0, .ref re0, .ref pl0, .ref ri0, .ref le0])), (dr8, .inl (g.2 0, 6, .inl dtidings)), (d0, .inr (0, [.int dstates, .int dreally, .int ddays, .int dheal, .int dleak, .int dlines, .int dhearers, .int dwords, .int dplans, .int dnews, .ref dr0, .ref dr1, .ref dr2, .ref dr3, .ref dr4, .ref dr5, .ref dr6, .ref dr7, .ref dr8, .ref dr9]))] H := hP
  have hD : va_D A [(h0, .inr (11, [.ref rd0, .ref d0, .ref im0, .ref ig0, .ref rw0, .ref we0, .ref mi0, .ref re0, .ref pl0, .ref ri0, .ref le0])), (dr8, .inl (g.2 0, 6, .inl dtidings)), (d0, .inr (0, [.int dstates, .int dreally, .int ddays, .int dheal, .int dleak, .int dlines, .int dhearers, .int dwords, .int dplans, .int dnews, .ref dr0, .ref dr1, .ref dr2, .ref dr3, .ref dr4, .ref dr5, .ref dr6, .ref dr7, .ref dr8, .ref dr9]))] := hD
  refine W.eq (g2 := F0 m 8 ls [.int (u1.1 0)]) rfl ?_
  rcases (show (u1.1 0).toInt = 0 ∨ (u1.1 0).toInt = 1 by omega) with c3 | c3
  · skip
    refine lv_if_eq (tgt := 23) hx hb dX11_news_8 (by decide) (fun c4 => ?_) (fun c4 => ?_)
    · have c4 := k_eq (a := (u1.1 0).toInt) (b := 0) rfl (by decide) c4
      refine lv_sipush (v := -1000) hx hb dX11_news_23 (by decide) ?_
      exact rt_i FX ((fun k => match k with | 0 => (-1000 : Int32) | _ => 0), (fun _ => fun _ => 0), (fun _ => fun _ => 0)) rfl trivial (hP.sub [0, 2, 1] rfl) (hD.sub [0, 2, 1] (by decide) rfl) hS (Nat.le_of_ble_eq_true rfl) (Nat.le_of_ble_eq_true rfl) dX11_news_26
    · have c4 := k_ne (a := (u1.1 0).toInt) (b := 0) rfl (by decide) c4
      exfalso; omega
  · have c3_r := q2_1 c3
    refine lv_if_eq (tgt := 23) hx hb dX11_news_8 (by decide) (fun c5 => ?_) (fun c5 => ?_)
    · have c5 := k_eq (a := (u1.1 0).toInt) (b := 0) rfl (by decide) c5
      exfalso; omega
    · have c5 := k_ne (a := (u1.1 0).toInt) (b := 0) rfl (by decide) c5
      refine lv_aload_n hx hb dX11_news_11 rfl (lv_at hl 0 rfl) ?_
      refine g_get (C := RX11) (T := TX11) (N := 11) (ci := 11) (v := .ref d0) FC hKn hP i_X11 0 rfl rfl 1 (by decide) b_310 rfl dX11_news_12 ?_
      refine g_getN (C := RX0) (T := TX0) (N := 20) (ci := 0) (v := .ref dr8) FC hKn hP i_X0 2 rfl rfl 18 (by decide) b_399 rfl dX11_news_15 ?_
      refine lv_iload_n hx hb dX11_news_18 rfl (lv_at hl 1 rfl) ?_
      refine va_iald hx hb hKn.1 hP 1 0 rfl rfl (vp_in_iff.mpr ⟨by omega, by omega⟩) dX11_news_19 ?_
      refine lv_topi (fun z6 e_z6 => ?_)
      refine lv_goto (tgt := 26) hx hb dX11_news_20 (by decide) ?_
      exact rt_i FX ((fun k => match k with | 0 => z6 | _ => 0), (fun _ => fun _ => 0), (fun _ => fun _ => 0)) rfl trivial (hP.sub [0, 2, 1] rfl) (hD.sub [0, 2, 1] (by decide) rfl) hS (Nat.le_of_ble_eq_true rfl) (Nat.le_of_ble_eq_true rfl) dX11_news_26
set_option maxRecDepth 100000 in
set_option maxHeartbeats 4000000 in
theorem k_X11_tells (l : Launch) (g : GG) (h0 : Nat) (rd0 : Nat) (d0 : Nat) (im0 : Nat) (ig0 : Nat) (rw0 : Nat) (we0 : Nat) (mi0 : Nat) (re0 : Nat) (pl0 : Nat) (ri0 : Nat) (le0 : Nat) (dr0 : Nat) (dr1 : Nat) (dr2 : Nat) (dr3 : Nat) (dr4 : Nat) (dr5 : Nat) (dr6 : Nat) (dr7 : Nat) (dr8 : Nat) (dr9 : Nat) (dstates : Int32) (dreally : Int32) (ddays : Int32) (dheal : Int32) (dleak : Int32) (dlines : Int32) (dhearers : Int32) (dwords : Int32) (dplans : Int32) (dnews : Int32) (dtold : Nat → Int32) (p1 : Int32) (i_dstates : 0 ≤ dstates.toInt ∧ dstates.toInt ≤ 8) (i_dreally : 0 ≤ dreally.toInt ∧ dreally.toInt ≤ 7) (i_ddays : 0 ≤ ddays.toInt ∧ ddays.toInt ≤ 10) (i_dhearers : 0 ≤ dhearers.toInt ∧ dhearers.toInt ≤ 4) (i_dwords : 0 ≤ dwords.toInt ∧ dwords.toInt ≤ 8) (i_dplans : 0 ≤ dplans.toInt ∧ dplans.toInt ≤ 4) (i_dnews : 0 ≤ dnews.toInt ∧ dnews.toInt ≤ 6) : Ct l g yX11_tells cX11_tells 2 (some .int) { frames := 1, cells := 0, slots := 0, locals := 21 } [.ref h0, .int p1] [(h0, .inr (11, [.ref rd0, .ref d0, .ref im0, .ref ig0, .ref rw0, .ref we0, .ref mi0, .ref re0, .ref pl0, .ref ri0, .ref le0])), (d0, .inr (0, [.int dstates, .int dreally, .int ddays, .int dheal, .int dleak, .int dlines, .int dhearers, .int dwords, .int dplans, .int dnews, .ref dr0, .ref dr1, .ref dr2, .ref dr3, .ref dr4, .ref dr5, .ref dr6, .ref dr7, .ref dr8, .ref dr9])), (dr3, .inl (g.2 0, 4, .inl dtold))] (S := (Nat → Int32) × (Nat → Nat → Int32) × (Nat → Nat → Int64)) (fun u => some (.int (u.1 0))) (fun u => True) (fun u => [(h0, .inr (11, [.ref rd0, .ref d0, .ref im0, .ref ig0, .ref rw0, .ref we0, .ref mi0, .ref re0, .ref pl0, .ref ri0, .ref le0])), (d0, .inr (0, [.int dstates, .int dreally, .int ddays, .int dheal, .int dleak, .int dlines, .int dhearers, .int dwords, .int dplans, .int dnews, .ref dr0, .ref dr1, .ref dr2, .ref dr3, .ref dr4, .ref dr5, .ref dr6, .ref dr7, .ref dr8, .ref dr9])), (dr3, .inl (g.2 0, 4, .inl dtold))]) := by
  refine Ct.of (by decide) (Nat.le_of_ble_eq_true rfl) ?_
  intro p e s m below meth c A ls FX hP hD hS hl
  obtain ⟨FC, hr, hlk, hKn, hA, hnm, hZ⟩ := id FX
  have FC : CallFix p m c cX11_tells 2 s _ BIG RX11 := FC
  obtain ⟨hx, hb, hml, hown, hB⟩ := id FC
  have hl : lv_has ls 2 [(0, .ref h0), (1, .int p1)] := hl
  refine lv_aload_n hx hb dX11_tells_0 rfl (lv_at hl 0 rfl) ?_
  refine g_get (C := RX11) (T := TX11) (N := 11) (ci := 11) (v := .ref d0) FC hKn hP i_X11 0 rfl rfl 1 (by decide) b_310 rfl dX11_tells_1 ?_
  refine lv_iload_n hx hb dX11_tells_4 rfl (lv_at hl 1 rfl) ?_
  refine call_VN (As := [.int p1]) (rest := []) (wr := [(h0, .inr (11, [.ref rd0, .ref d0, .ref im0, .ref ig0, .ref rw0, .ref we0, .ref mi0, .ref re0, .ref pl0, .ref ri0, .ref le0])), (dr3, .inl (g.2 0, 4, .inl dtold))]) FC hKn hZ (k_X0_hasHearer l g d0 dr0 dr1 dr2 dr3 dr4 dr5 dr6 dr7 dr8 dr9 dstates dreally ddays dheal dleak dlines dhearers dwords dplans dnews p1 (by omega) (by omega) (by omega) (by omega) (by omega) (by omega) (by omega)) m_yX0_hasHearer b_316 (ci := 0) rfl rfl rfl hP hD hS hA [1] [0, 2] rfl (by decide) rfl (by decide) (by decide) rfl hl.1 rfl (Nat.le_of_ble_eq_true rfl) dX11_tells_5 ⟨(Nat.le_of_ble_eq_true rfl), (Nat.le_of_ble_eq_true rfl)⟩ ⟨(Nat.le_of_ble_eq_true rfl), (Nat.le_of_ble_eq_true rfl)⟩ (fun u1 H locs q2 hP hD hS => ?_)
  obtain ⟨q2_0, q2_1⟩ := q2
  have hP : va_P g.1 vwCl [(h0, .inr (11, [.ref rd0, .ref d0, .ref im0, .ref ig0, .ref rw0, .ref we0, .ref mi0, .ref re0, .ref pl0, .ref ri0, .ref le0])), (dr3, .inl (g.2 0, 4, .inl dtold)), (d0, .inr (0, [.int dstates, .int dreally, .int ddays, .int dheal, .int dleak, .int dlines, .int dhearers, .int dwords, .int dplans, .int dnews, .ref dr0, .ref dr1, .ref dr2, .ref dr3, .ref dr4, .ref dr5, .ref dr6, .ref dr7, .ref dr8, .ref dr9]))] H := hP
  have hD : va_D A [(h0, .inr (11, [.ref rd0, .ref d0, .ref im0, .ref ig0, .ref rw0, .ref we0, .ref mi0, .ref re0, .ref pl0, .ref ri0, .ref le0])), (dr3, .inl (g.2 0, 4, .inl dtold)), (d0, .inr (0, [.int dstates, .int dreally, .int ddays, .int dheal, .int dleak, .int dlines, .int dhearers, .int dwords, .int dplans, .int dnews, .ref dr0, .ref dr1, .ref dr2, .ref dr3, .ref dr4, .ref dr5, .ref dr6, .ref dr7, .ref dr8, .ref dr9]))] := hD
  refine W.eq (g2 := F0 m 8 ls [.int (u1.1 0)]) rfl ?_
  rcases (show (u1.1 0).toInt = 0 ∨ (u1.1 0).toInt = 1 by omega) with c3 | c3
  · skip
    refine lv_if_eq (tgt := 23) hx hb dX11_tells_8 (by decide) (fun c4 => ?_) (fun c4 => ?_)
    · have c4 := k_eq (a := (u1.1 0).toInt) (b := 0) rfl (by decide) c4
      refine lv_bipush (v := -2) hx hb dX11_tells_23 (by decide) ?_
      exact rt_i FX ((fun k => match k with | 0 => (-2 : Int32) | _ => 0), (fun _ => fun _ => 0), (fun _ => fun _ => 0)) rfl trivial (hP.sub [0, 2, 1] rfl) (hD.sub [0, 2, 1] (by decide) rfl) hS (Nat.le_of_ble_eq_true rfl) (Nat.le_of_ble_eq_true rfl) dX11_tells_25
    · have c4 := k_ne (a := (u1.1 0).toInt) (b := 0) rfl (by decide) c4
      exfalso; omega
  · have c3_r := q2_1 c3
    refine lv_if_eq (tgt := 23) hx hb dX11_tells_8 (by decide) (fun c5 => ?_) (fun c5 => ?_)
    · have c5 := k_eq (a := (u1.1 0).toInt) (b := 0) rfl (by decide) c5
      exfalso; omega
    · have c5 := k_ne (a := (u1.1 0).toInt) (b := 0) rfl (by decide) c5
      refine lv_aload_n hx hb dX11_tells_11 rfl (lv_at hl 0 rfl) ?_
      refine g_get (C := RX11) (T := TX11) (N := 11) (ci := 11) (v := .ref d0) FC hKn hP i_X11 0 rfl rfl 1 (by decide) b_310 rfl dX11_tells_12 ?_
      refine g_getN (C := RX0) (T := TX0) (N := 20) (ci := 0) (v := .ref dr3) FC hKn hP i_X0 2 rfl rfl 13 (by decide) b_400 rfl dX11_tells_15 ?_
      refine lv_iload_n hx hb dX11_tells_18 rfl (lv_at hl 1 rfl) ?_
      refine va_iald hx hb hKn.1 hP 1 0 rfl rfl (vp_in_iff.mpr ⟨by omega, by omega⟩) dX11_tells_19 ?_
      refine lv_topi (fun z6 e_z6 => ?_)
      refine lv_goto (tgt := 25) hx hb dX11_tells_20 (by decide) ?_
      exact rt_i FX ((fun k => match k with | 0 => z6 | _ => 0), (fun _ => fun _ => 0), (fun _ => fun _ => 0)) rfl trivial (hP.sub [0, 2, 1] rfl) (hD.sub [0, 2, 1] (by decide) rfl) hS (Nat.le_of_ble_eq_true rfl) (Nat.le_of_ble_eq_true rfl) dX11_tells_25
set_option maxRecDepth 100000 in
set_option maxHeartbeats 4000000 in
theorem k_X11_mean (l : Launch) (g : GG) (h0 : Nat) (rd0 : Nat) (d0 : Nat) (im0 : Nat) (ig0 : Nat) (rw0 : Nat) (we0 : Nat) (mi0 : Nat) (re0 : Nat) (pl0 : Nat) (ri0 : Nat) (le0 : Nat) (dr0 : Nat) (dr1 : Nat) (dr2 : Nat) (dr3 : Nat) (dr4 : Nat) (dr5 : Nat) (dr6 : Nat) (dr7 : Nat) (dr8 : Nat) (dr9 : Nat) (dstates : Int32) (dreally : Int32) (ddays : Int32) (dheal : Int32) (dleak : Int32) (dlines : Int32) (dhearers : Int32) (dwords : Int32) (dplans : Int32) (dnews : Int32) (dthoughts : Nat → Int32) (dgrades : Nat → Int32) (p1 : Int32) (p2 : Int32) (i_dstates : 0 ≤ dstates.toInt ∧ dstates.toInt ≤ 8) (i_dreally : 0 ≤ dreally.toInt ∧ dreally.toInt ≤ 7) (i_ddays : 0 ≤ ddays.toInt ∧ ddays.toInt ≤ 10) (i_dhearers : 0 ≤ dhearers.toInt ∧ dhearers.toInt ≤ 4) (i_dwords : 0 ≤ dwords.toInt ∧ dwords.toInt ≤ 8) (i_dplans : 0 ≤ dplans.toInt ∧ dplans.toInt ≤ 4) (i_dnews : 0 ≤ dnews.toInt ∧ dnews.toInt ≤ 6) : Ct l g yX11_mean cX11_mean 3 (some .int) { frames := 2, cells := 0, slots := 0, locals := 50 } [.ref h0, .int p1, .int p2] [(h0, .inr (11, [.ref rd0, .ref d0, .ref im0, .ref ig0, .ref rw0, .ref we0, .ref mi0, .ref re0, .ref pl0, .ref ri0, .ref le0])), (d0, .inr (0, [.int dstates, .int dreally, .int ddays, .int dheal, .int dleak, .int dlines, .int dhearers, .int dwords, .int dplans, .int dnews, .ref dr0, .ref dr1, .ref dr2, .ref dr3, .ref dr4, .ref dr5, .ref dr6, .ref dr7, .ref dr8, .ref dr9])), (dr1, .inl (g.2 0, 32, .inl dthoughts)), (dr0, .inl (g.2 0, 8, .inl dgrades))] (S := (Nat → Int32) × (Nat → Nat → Int32) × (Nat → Nat → Int64)) (fun u => some (.int (u.1 0))) (fun u => True) (fun u => [(h0, .inr (11, [.ref rd0, .ref d0, .ref im0, .ref ig0, .ref rw0, .ref we0, .ref mi0, .ref re0, .ref pl0, .ref ri0, .ref le0])), (d0, .inr (0, [.int dstates, .int dreally, .int ddays, .int dheal, .int dleak, .int dlines, .int dhearers, .int dwords, .int dplans, .int dnews, .ref dr0, .ref dr1, .ref dr2, .ref dr3, .ref dr4, .ref dr5, .ref dr6, .ref dr7, .ref dr8, .ref dr9])), (dr1, .inl (g.2 0, 32, .inl dthoughts)), (dr0, .inl (g.2 0, 8, .inl dgrades))]) := by
  refine Ct.of (by decide) (Nat.le_of_ble_eq_true rfl) ?_
  intro p e s m below meth c A ls FX hP hD hS hl
  obtain ⟨FC, hr, hlk, hKn, hA, hnm, hZ⟩ := id FX
  have FC : CallFix p m c cX11_mean 3 s _ BIG RX11 := FC
  obtain ⟨hx, hb, hml, hown, hB⟩ := id FC
  have hl : lv_has ls 3 [(0, .ref h0), (1, .int p1), (2, .int p2)] := hl
  refine lv_aload_n hx hb dX11_mean_0 rfl (lv_at hl 0 rfl) ?_
  refine g_get (C := RX11) (T := TX11) (N := 11) (ci := 11) (v := .ref d0) FC hKn hP i_X11 0 rfl rfl 1 (by decide) b_310 rfl dX11_mean_1 ?_
  refine lv_iload_n hx hb dX11_mean_4 rfl (lv_at hl 1 rfl) ?_
  refine call_VN (As := [.int p1]) (rest := []) (wr := [(h0, .inr (11, [.ref rd0, .ref d0, .ref im0, .ref ig0, .ref rw0, .ref we0, .ref mi0, .ref re0, .ref pl0, .ref ri0, .ref le0])), (dr1, .inl (g.2 0, 32, .inl dthoughts)), (dr0, .inl (g.2 0, 8, .inl dgrades))]) FC hKn hZ (k_X0_hasHearer l g d0 dr0 dr1 dr2 dr3 dr4 dr5 dr6 dr7 dr8 dr9 dstates dreally ddays dheal dleak dlines dhearers dwords dplans dnews p1 (by omega) (by omega) (by omega) (by omega) (by omega) (by omega) (by omega)) m_yX0_hasHearer b_316 (ci := 0) rfl rfl rfl hP hD hS hA [1] [0, 2, 3] rfl (by decide) rfl (by decide) (by decide) rfl hl.1 rfl (Nat.le_of_ble_eq_true rfl) dX11_mean_5 ⟨(Nat.le_of_ble_eq_true rfl), (Nat.le_of_ble_eq_true rfl)⟩ ⟨(Nat.le_of_ble_eq_true rfl), (Nat.le_of_ble_eq_true rfl)⟩ (fun u1 H locs q2 hP hD hS => ?_)
  obtain ⟨q2_0, q2_1⟩ := q2
  have hP : va_P g.1 vwCl [(h0, .inr (11, [.ref rd0, .ref d0, .ref im0, .ref ig0, .ref rw0, .ref we0, .ref mi0, .ref re0, .ref pl0, .ref ri0, .ref le0])), (dr1, .inl (g.2 0, 32, .inl dthoughts)), (dr0, .inl (g.2 0, 8, .inl dgrades)), (d0, .inr (0, [.int dstates, .int dreally, .int ddays, .int dheal, .int dleak, .int dlines, .int dhearers, .int dwords, .int dplans, .int dnews, .ref dr0, .ref dr1, .ref dr2, .ref dr3, .ref dr4, .ref dr5, .ref dr6, .ref dr7, .ref dr8, .ref dr9]))] H := hP
  have hD : va_D A [(h0, .inr (11, [.ref rd0, .ref d0, .ref im0, .ref ig0, .ref rw0, .ref we0, .ref mi0, .ref re0, .ref pl0, .ref ri0, .ref le0])), (dr1, .inl (g.2 0, 32, .inl dthoughts)), (dr0, .inl (g.2 0, 8, .inl dgrades)), (d0, .inr (0, [.int dstates, .int dreally, .int ddays, .int dheal, .int dleak, .int dlines, .int dhearers, .int dwords, .int dplans, .int dnews, .ref dr0, .ref dr1, .ref dr2, .ref dr3, .ref dr4, .ref dr5, .ref dr6, .ref dr7, .ref dr8, .ref dr9]))] := hD
  refine W.eq (g2 := F0 m 8 ls [.int (u1.1 0)]) rfl ?_
  rcases (show (u1.1 0).toInt = 0 ∨ (u1.1 0).toInt = 1 by omega) with c3 | c3
  · skip
    refine lv_if_eq (tgt := 22) hx hb dX11_mean_8 (by decide) (fun c4 => ?_) (fun c4 => ?_)
    · have c4 := k_eq (a := (u1.1 0).toInt) (b := 0) rfl (by decide) c4
      refine lv_bipush (v := -2) hx hb dX11_mean_22 (by decide) ?_
      exact rt_i FX ((fun k => match k with | 0 => (-2 : Int32) | _ => 0), (fun _ => fun _ => 0), (fun _ => fun _ => 0)) rfl trivial (hP.sub [0, 3, 1, 2] rfl) (hD.sub [0, 3, 1, 2] (by decide) rfl) hS (Nat.le_of_ble_eq_true rfl) (Nat.le_of_ble_eq_true rfl) dX11_mean_24
    · have c4 := k_ne (a := (u1.1 0).toInt) (b := 0) rfl (by decide) c4
      exfalso; omega
  · have c3_r := q2_1 c3
    refine lv_if_eq (tgt := 22) hx hb dX11_mean_8 (by decide) (fun c5 => ?_) (fun c5 => ?_)
    · have c5 := k_eq (a := (u1.1 0).toInt) (b := 0) rfl (by decide) c5
      exfalso; omega
    · have c5 := k_ne (a := (u1.1 0).toInt) (b := 0) rfl (by decide) c5
      refine lv_aload_n hx hb dX11_mean_11 rfl (lv_at hl 0 rfl) ?_
      refine g_get (C := RX11) (T := TX11) (N := 11) (ci := 11) (v := .ref d0) FC hKn hP i_X11 0 rfl rfl 1 (by decide) b_310 rfl dX11_mean_12 ?_
      refine lv_iload_n hx hb dX11_mean_15 rfl (lv_at hl 2 rfl) ?_
      refine call_VN (As := [.int p2]) (rest := []) (wr := [(h0, .inr (11, [.ref rd0, .ref d0, .ref im0, .ref ig0, .ref rw0, .ref we0, .ref mi0, .ref re0, .ref pl0, .ref ri0, .ref le0])), (dr1, .inl (g.2 0, 32, .inl dthoughts)), (dr0, .inl (g.2 0, 8, .inl dgrades))]) FC hKn hZ (k_X0_hasBelief l g d0 dr0 dr1 dr2 dr3 dr4 dr5 dr6 dr7 dr8 dr9 dstates dreally ddays dheal dleak dlines dhearers dwords dplans dnews p2 (by omega) (by omega) (by omega) (by omega) (by omega) (by omega) (by omega)) m_yX0_hasBelief b_401 (ci := 0) rfl rfl rfl hP hD hS hA [3] [0, 1, 2] rfl (by decide) rfl (by decide) (by decide) rfl hl.1 rfl (Nat.le_of_ble_eq_true rfl) dX11_mean_16 ⟨(Nat.le_of_ble_eq_true rfl), (Nat.le_of_ble_eq_true rfl)⟩ ⟨(Nat.le_of_ble_eq_true rfl), (Nat.le_of_ble_eq_true rfl)⟩ (fun u6 H locs q7 hP hD hS => ?_)
      obtain ⟨q7_0, q7_1⟩ := q7
      have hP : va_P g.1 vwCl [(h0, .inr (11, [.ref rd0, .ref d0, .ref im0, .ref ig0, .ref rw0, .ref we0, .ref mi0, .ref re0, .ref pl0, .ref ri0, .ref le0])), (dr1, .inl (g.2 0, 32, .inl dthoughts)), (dr0, .inl (g.2 0, 8, .inl dgrades)), (d0, .inr (0, [.int dstates, .int dreally, .int ddays, .int dheal, .int dleak, .int dlines, .int dhearers, .int dwords, .int dplans, .int dnews, .ref dr0, .ref dr1, .ref dr2, .ref dr3, .ref dr4, .ref dr5, .ref dr6, .ref dr7, .ref dr8, .ref dr9]))] H := hP
      have hD : va_D A [(h0, .inr (11, [.ref rd0, .ref d0, .ref im0, .ref ig0, .ref rw0, .ref we0, .ref mi0, .ref re0, .ref pl0, .ref ri0, .ref le0])), (dr1, .inl (g.2 0, 32, .inl dthoughts)), (dr0, .inl (g.2 0, 8, .inl dgrades)), (d0, .inr (0, [.int dstates, .int dreally, .int ddays, .int dheal, .int dleak, .int dlines, .int dhearers, .int dwords, .int dplans, .int dnews, .ref dr0, .ref dr1, .ref dr2, .ref dr3, .ref dr4, .ref dr5, .ref dr6, .ref dr7, .ref dr8, .ref dr9]))] := hD
      refine W.eq (g2 := F0 m 19 ls [.int (u6.1 0)]) rfl ?_
      rcases (show (u6.1 0).toInt = 0 ∨ (u6.1 0).toInt = 1 by omega) with c8 | c8
      · skip
        refine lv_if_ne (tgt := 25) hx hb dX11_mean_19 (by decide) (fun c9 => ?_) (fun c9 => ?_)
        · have c9 := k_ne (a := (u6.1 0).toInt) (b := 0) rfl (by decide) c9
          exfalso; omega
        · have c9 := k_eq (a := (u6.1 0).toInt) (b := 0) rfl (by decide) c9
          refine lv_bipush (v := -2) hx hb dX11_mean_22 (by decide) ?_
          exact rt_i FX ((fun k => match k with | 0 => (-2 : Int32) | _ => 0), (fun _ => fun _ => 0), (fun _ => fun _ => 0)) rfl trivial (hP.sub [0, 3, 1, 2] rfl) (hD.sub [0, 3, 1, 2] (by decide) rfl) hS (Nat.le_of_ble_eq_true rfl) (Nat.le_of_ble_eq_true rfl) dX11_mean_24
      · have c8_r := q7_1 c8
        refine lv_if_ne (tgt := 25) hx hb dX11_mean_19 (by decide) (fun c10 => ?_) (fun c10 => ?_)
        · have c10 := k_ne (a := (u6.1 0).toInt) (b := 0) rfl (by decide) c10
          refine lv_aload_n hx hb dX11_mean_25 rfl (lv_at hl 0 rfl) ?_
          refine g_get (C := RX11) (T := TX11) (N := 11) (ci := 11) (v := .ref d0) FC hKn hP i_X11 0 rfl rfl 1 (by decide) b_310 rfl dX11_mean_26 ?_
          refine lv_iload_n hx hb dX11_mean_29 rfl (lv_at hl 1 rfl) ?_
          refine lv_iload_n hx hb dX11_mean_30 rfl (lv_at hl 2 rfl) ?_
          refine call_VN (As := [.int p1, .int p2]) (rest := []) (wr := [(h0, .inr (11, [.ref rd0, .ref d0, .ref im0, .ref ig0, .ref rw0, .ref we0, .ref mi0, .ref re0, .ref pl0, .ref ri0, .ref le0]))]) FC hKn hZ (k_X0_meanOf l g d0 dr0 dr1 dr2 dr3 dr4 dr5 dr6 dr7 dr8 dr9 dstates dreally ddays dheal dleak dlines dhearers dwords dplans dnews dthoughts dgrades p1 p2 (by omega) (by omega) (by omega) (by omega) (by omega) (by omega) (by omega) (by omega)) m_yX0_meanOf b_402 (ci := 0) rfl rfl rfl hP hD hS hA [3, 1, 2] [0] rfl (by decide) rfl (by decide) (by decide) rfl hl.1 rfl (Nat.le_of_ble_eq_true rfl) dX11_mean_31 ⟨(Nat.le_of_ble_eq_true rfl), (Nat.le_of_ble_eq_true rfl)⟩ ⟨(Nat.le_of_ble_eq_true rfl), (Nat.le_of_ble_eq_true rfl)⟩ (fun u11 H locs q12 hP hD hS => ?_)
          have hP : va_P g.1 vwCl [(h0, .inr (11, [.ref rd0, .ref d0, .ref im0, .ref ig0, .ref rw0, .ref we0, .ref mi0, .ref re0, .ref pl0, .ref ri0, .ref le0])), (d0, .inr (0, [.int dstates, .int dreally, .int ddays, .int dheal, .int dleak, .int dlines, .int dhearers, .int dwords, .int dplans, .int dnews, .ref dr0, .ref dr1, .ref dr2, .ref dr3, .ref dr4, .ref dr5, .ref dr6, .ref dr7, .ref dr8, .ref dr9])), (dr1, .inl (g.2 0, 32, .inl dthoughts)), (dr0, .inl (g.2 0, 8, .inl dgrades))] H := hP
          have hD : va_D A [(h0, .inr (11, [.ref rd0, .ref d0, .ref im0, .ref ig0, .ref rw0, .ref we0, .ref mi0, .ref re0, .ref pl0, .ref ri0, .ref le0])), (d0, .inr (0, [.int dstates, .int dreally, .int ddays, .int dheal, .int dleak, .int dlines, .int dhearers, .int dwords, .int dplans, .int dnews, .ref dr0, .ref dr1, .ref dr2, .ref dr3, .ref dr4, .ref dr5, .ref dr6, .ref dr7, .ref dr8, .ref dr9])), (dr1, .inl (g.2 0, 32, .inl dthoughts)), (dr0, .inl (g.2 0, 8, .inl dgrades))] := hD
          refine W.eq (g2 := F0 m 34 ls [.int (u11.1 0)]) rfl ?_
          exact rt_i FX ((fun k => match k with | 0 => u11.1 0 | _ => 0), (fun _ => fun _ => 0), (fun _ => fun _ => 0)) rfl trivial (hP.sub [0, 1, 2, 3] rfl) (hD.sub [0, 1, 2, 3] (by decide) rfl) hS (Nat.le_of_ble_eq_true rfl) (Nat.le_of_ble_eq_true rfl) dX11_mean_34
        · have c10 := k_eq (a := (u6.1 0).toInt) (b := 0) rfl (by decide) c10
          exfalso; omega
set_option maxRecDepth 100000 in
set_option maxHeartbeats 4000000 in
theorem k_X11_chance (l : Launch) (g : GG) (h0 : Nat) (rd0 : Nat) (d0 : Nat) (im0 : Nat) (ig0 : Nat) (rw0 : Nat) (we0 : Nat) (mi0 : Nat) (re0 : Nat) (pl0 : Nat) (ri0 : Nat) (le0 : Nat) (dr0 : Nat) (dr1 : Nat) (dr2 : Nat) (dr3 : Nat) (dr4 : Nat) (dr5 : Nat) (dr6 : Nat) (dr7 : Nat) (dr8 : Nat) (dr9 : Nat) (dstates : Int32) (dreally : Int32) (ddays : Int32) (dheal : Int32) (dleak : Int32) (dlines : Int32) (dhearers : Int32) (dwords : Int32) (dplans : Int32) (dnews : Int32) (dthoughts : Nat → Int32) (p1 : Int32) (p2 : Int32) (p3 : Int32) (p4 : Int32) (i_dstates : 0 ≤ dstates.toInt ∧ dstates.toInt ≤ 8) (i_dreally : 0 ≤ dreally.toInt ∧ dreally.toInt ≤ 7) (i_ddays : 0 ≤ ddays.toInt ∧ ddays.toInt ≤ 10) (i_dhearers : 0 ≤ dhearers.toInt ∧ dhearers.toInt ≤ 4) (i_dwords : 0 ≤ dwords.toInt ∧ dwords.toInt ≤ 8) (i_dplans : 0 ≤ dplans.toInt ∧ dplans.toInt ≤ 4) (i_dnews : 0 ≤ dnews.toInt ∧ dnews.toInt ≤ 6) : Ct l g yX11_chance cX11_chance 5 (some .int) { frames := 2, cells := 0, slots := 0, locals := 53 } [.ref h0, .int p1, .int p2, .int p3, .int p4] [(h0, .inr (11, [.ref rd0, .ref d0, .ref im0, .ref ig0, .ref rw0, .ref we0, .ref mi0, .ref re0, .ref pl0, .ref ri0, .ref le0])), (d0, .inr (0, [.int dstates, .int dreally, .int ddays, .int dheal, .int dleak, .int dlines, .int dhearers, .int dwords, .int dplans, .int dnews, .ref dr0, .ref dr1, .ref dr2, .ref dr3, .ref dr4, .ref dr5, .ref dr6, .ref dr7, .ref dr8, .ref dr9])), (dr1, .inl (g.2 0, 32, .inl dthoughts))] (S := (Nat → Int32) × (Nat → Nat → Int32) × (Nat → Nat → Int64)) (fun u => some (.int (u.1 0))) (fun u => True) (fun u => [(h0, .inr (11, [.ref rd0, .ref d0, .ref im0, .ref ig0, .ref rw0, .ref we0, .ref mi0, .ref re0, .ref pl0, .ref ri0, .ref le0])), (d0, .inr (0, [.int dstates, .int dreally, .int ddays, .int dheal, .int dleak, .int dlines, .int dhearers, .int dwords, .int dplans, .int dnews, .ref dr0, .ref dr1, .ref dr2, .ref dr3, .ref dr4, .ref dr5, .ref dr6, .ref dr7, .ref dr8, .ref dr9])), (dr1, .inl (g.2 0, 32, .inl dthoughts))]) := by
  refine Ct.of (by decide) (Nat.le_of_ble_eq_true rfl) ?_
  intro p e s m below meth c A ls FX hP hD hS hl
  obtain ⟨FC, hr, hlk, hKn, hA, hnm, hZ⟩ := id FX
  have FC : CallFix p m c cX11_chance 5 s _ BIG RX11 := FC
  obtain ⟨hx, hb, hml, hown, hB⟩ := id FC
  have hl : lv_has ls 5 [(0, .ref h0), (1, .int p1), (2, .int p2), (3, .int p3), (4, .int p4)] := hl
  refine lv_aload_n hx hb dX11_chance_0 rfl (lv_at hl 0 rfl) ?_
  refine g_get (C := RX11) (T := TX11) (N := 11) (ci := 11) (v := .ref d0) FC hKn hP i_X11 0 rfl rfl 1 (by decide) b_310 rfl dX11_chance_1 ?_
  refine lv_iload_n hx hb dX11_chance_4 rfl (lv_at hl 1 rfl) ?_
  refine call_VN (As := [.int p1]) (rest := []) (wr := [(h0, .inr (11, [.ref rd0, .ref d0, .ref im0, .ref ig0, .ref rw0, .ref we0, .ref mi0, .ref re0, .ref pl0, .ref ri0, .ref le0])), (dr1, .inl (g.2 0, 32, .inl dthoughts))]) FC hKn hZ (k_X0_hasHearer l g d0 dr0 dr1 dr2 dr3 dr4 dr5 dr6 dr7 dr8 dr9 dstates dreally ddays dheal dleak dlines dhearers dwords dplans dnews p1 (by omega) (by omega) (by omega) (by omega) (by omega) (by omega) (by omega)) m_yX0_hasHearer b_316 (ci := 0) rfl rfl rfl hP hD hS hA [1] [0, 2] rfl (by decide) rfl (by decide) (by decide) rfl hl.1 rfl (Nat.le_of_ble_eq_true rfl) dX11_chance_5 ⟨(Nat.le_of_ble_eq_true rfl), (Nat.le_of_ble_eq_true rfl)⟩ ⟨(Nat.le_of_ble_eq_true rfl), (Nat.le_of_ble_eq_true rfl)⟩ (fun u1 H locs q2 hP hD hS => ?_)
  obtain ⟨q2_0, q2_1⟩ := q2
  have hP : va_P g.1 vwCl [(h0, .inr (11, [.ref rd0, .ref d0, .ref im0, .ref ig0, .ref rw0, .ref we0, .ref mi0, .ref re0, .ref pl0, .ref ri0, .ref le0])), (dr1, .inl (g.2 0, 32, .inl dthoughts)), (d0, .inr (0, [.int dstates, .int dreally, .int ddays, .int dheal, .int dleak, .int dlines, .int dhearers, .int dwords, .int dplans, .int dnews, .ref dr0, .ref dr1, .ref dr2, .ref dr3, .ref dr4, .ref dr5, .ref dr6, .ref dr7, .ref dr8, .ref dr9]))] H := hP
  have hD : va_D A [(h0, .inr (11, [.ref rd0, .ref d0, .ref im0, .ref ig0, .ref rw0, .ref we0, .ref mi0, .ref re0, .ref pl0, .ref ri0, .ref le0])), (dr1, .inl (g.2 0, 32, .inl dthoughts)), (d0, .inr (0, [.int dstates, .int dreally, .int ddays, .int dheal, .int dleak, .int dlines, .int dhearers, .int dwords, .int dplans, .int dnews, .ref dr0, .ref dr1, .ref dr2, .ref dr3, .ref dr4, .ref dr5, .ref dr6, .ref dr7, .ref dr8, .ref dr9]))] := hD
  refine W.eq (g2 := F0 m 8 ls [.int (u1.1 0)]) rfl ?_
  rcases (show (u1.1 0).toInt = 0 ∨ (u1.1 0).toInt = 1 by omega) with c3 | c3
  · skip
    refine lv_if_eq (tgt := 22) hx hb dX11_chance_8 (by decide) (fun c4 => ?_) (fun c4 => ?_)
    · have c4 := k_eq (a := (u1.1 0).toInt) (b := 0) rfl (by decide) c4
      refine lv_bipush (v := -2) hx hb dX11_chance_22 (by decide) ?_
      exact rt_i FX ((fun k => match k with | 0 => (-2 : Int32) | _ => 0), (fun _ => fun _ => 0), (fun _ => fun _ => 0)) rfl trivial (hP.sub [0, 2, 1] rfl) (hD.sub [0, 2, 1] (by decide) rfl) hS (Nat.le_of_ble_eq_true rfl) (Nat.le_of_ble_eq_true rfl) dX11_chance_24
    · have c4 := k_ne (a := (u1.1 0).toInt) (b := 0) rfl (by decide) c4
      exfalso; omega
  · have c3_r := q2_1 c3
    refine lv_if_eq (tgt := 22) hx hb dX11_chance_8 (by decide) (fun c5 => ?_) (fun c5 => ?_)
    · have c5 := k_eq (a := (u1.1 0).toInt) (b := 0) rfl (by decide) c5
      exfalso; omega
    · have c5 := k_ne (a := (u1.1 0).toInt) (b := 0) rfl (by decide) c5
      refine lv_aload_n hx hb dX11_chance_11 rfl (lv_at hl 0 rfl) ?_
      refine g_get (C := RX11) (T := TX11) (N := 11) (ci := 11) (v := .ref d0) FC hKn hP i_X11 0 rfl rfl 1 (by decide) b_310 rfl dX11_chance_12 ?_
      refine lv_iload_n hx hb dX11_chance_15 rfl (lv_at hl 2 rfl) ?_
      refine call_VN (As := [.int p2]) (rest := []) (wr := [(h0, .inr (11, [.ref rd0, .ref d0, .ref im0, .ref ig0, .ref rw0, .ref we0, .ref mi0, .ref re0, .ref pl0, .ref ri0, .ref le0])), (dr1, .inl (g.2 0, 32, .inl dthoughts))]) FC hKn hZ (k_X0_hasBelief l g d0 dr0 dr1 dr2 dr3 dr4 dr5 dr6 dr7 dr8 dr9 dstates dreally ddays dheal dleak dlines dhearers dwords dplans dnews p2 (by omega) (by omega) (by omega) (by omega) (by omega) (by omega) (by omega)) m_yX0_hasBelief b_401 (ci := 0) rfl rfl rfl hP hD hS hA [2] [0, 1] rfl (by decide) rfl (by decide) (by decide) rfl hl.1 rfl (Nat.le_of_ble_eq_true rfl) dX11_chance_16 ⟨(Nat.le_of_ble_eq_true rfl), (Nat.le_of_ble_eq_true rfl)⟩ ⟨(Nat.le_of_ble_eq_true rfl), (Nat.le_of_ble_eq_true rfl)⟩ (fun u6 H locs q7 hP hD hS => ?_)
      obtain ⟨q7_0, q7_1⟩ := q7
      have hP : va_P g.1 vwCl [(h0, .inr (11, [.ref rd0, .ref d0, .ref im0, .ref ig0, .ref rw0, .ref we0, .ref mi0, .ref re0, .ref pl0, .ref ri0, .ref le0])), (dr1, .inl (g.2 0, 32, .inl dthoughts)), (d0, .inr (0, [.int dstates, .int dreally, .int ddays, .int dheal, .int dleak, .int dlines, .int dhearers, .int dwords, .int dplans, .int dnews, .ref dr0, .ref dr1, .ref dr2, .ref dr3, .ref dr4, .ref dr5, .ref dr6, .ref dr7, .ref dr8, .ref dr9]))] H := hP
      have hD : va_D A [(h0, .inr (11, [.ref rd0, .ref d0, .ref im0, .ref ig0, .ref rw0, .ref we0, .ref mi0, .ref re0, .ref pl0, .ref ri0, .ref le0])), (dr1, .inl (g.2 0, 32, .inl dthoughts)), (d0, .inr (0, [.int dstates, .int dreally, .int ddays, .int dheal, .int dleak, .int dlines, .int dhearers, .int dwords, .int dplans, .int dnews, .ref dr0, .ref dr1, .ref dr2, .ref dr3, .ref dr4, .ref dr5, .ref dr6, .ref dr7, .ref dr8, .ref dr9]))] := hD
      refine W.eq (g2 := F0 m 19 ls [.int (u6.1 0)]) rfl ?_
      rcases (show (u6.1 0).toInt = 0 ∨ (u6.1 0).toInt = 1 by omega) with c8 | c8
      · skip
        refine lv_if_ne (tgt := 25) hx hb dX11_chance_19 (by decide) (fun c9 => ?_) (fun c9 => ?_)
        · have c9 := k_ne (a := (u6.1 0).toInt) (b := 0) rfl (by decide) c9
          exfalso; omega
        · have c9 := k_eq (a := (u6.1 0).toInt) (b := 0) rfl (by decide) c9
          refine lv_bipush (v := -2) hx hb dX11_chance_22 (by decide) ?_
          exact rt_i FX ((fun k => match k with | 0 => (-2 : Int32) | _ => 0), (fun _ => fun _ => 0), (fun _ => fun _ => 0)) rfl trivial (hP.sub [0, 2, 1] rfl) (hD.sub [0, 2, 1] (by decide) rfl) hS (Nat.le_of_ble_eq_true rfl) (Nat.le_of_ble_eq_true rfl) dX11_chance_24
      · have c8_r := q7_1 c8
        refine lv_if_ne (tgt := 25) hx hb dX11_chance_19 (by decide) (fun c10 => ?_) (fun c10 => ?_)
        · have c10 := k_ne (a := (u6.1 0).toInt) (b := 0) rfl (by decide) c10
          refine lv_aload_n hx hb dX11_chance_25 rfl (lv_at hl 0 rfl) ?_
          refine g_get (C := RX11) (T := TX11) (N := 11) (ci := 11) (v := .ref d0) FC hKn hP i_X11 0 rfl rfl 1 (by decide) b_310 rfl dX11_chance_26 ?_
          refine lv_iload_n hx hb dX11_chance_29 rfl (lv_at hl 3 rfl) ?_
          refine call_VN (As := [.int p3]) (rest := []) (wr := [(h0, .inr (11, [.ref rd0, .ref d0, .ref im0, .ref ig0, .ref rw0, .ref we0, .ref mi0, .ref re0, .ref pl0, .ref ri0, .ref le0])), (dr1, .inl (g.2 0, 32, .inl dthoughts))]) FC hKn hZ (k_X0_hasState l g d0 dr0 dr1 dr2 dr3 dr4 dr5 dr6 dr7 dr8 dr9 dstates dreally ddays dheal dleak dlines dhearers dwords dplans dnews p3 (by omega) (by omega) (by omega) (by omega) (by omega) (by omega) (by omega)) m_yX0_hasState b_388 (ci := 0) rfl rfl rfl hP hD hS hA [2] [0, 1] rfl (by decide) rfl (by decide) (by decide) rfl hl.1 rfl (Nat.le_of_ble_eq_true rfl) dX11_chance_30 ⟨(Nat.le_of_ble_eq_true rfl), (Nat.le_of_ble_eq_true rfl)⟩ ⟨(Nat.le_of_ble_eq_true rfl), (Nat.le_of_ble_eq_true rfl)⟩ (fun u11 H locs q12 hP hD hS => ?_)
          obtain ⟨q12_0, q12_1⟩ := q12
          have hP : va_P g.1 vwCl [(h0, .inr (11, [.ref rd0, .ref d0, .ref im0, .ref ig0, .ref rw0, .ref we0, .ref mi0, .ref re0, .ref pl0, .ref ri0, .ref le0])), (dr1, .inl (g.2 0, 32, .inl dthoughts)), (d0, .inr (0, [.int dstates, .int dreally, .int ddays, .int dheal, .int dleak, .int dlines, .int dhearers, .int dwords, .int dplans, .int dnews, .ref dr0, .ref dr1, .ref dr2, .ref dr3, .ref dr4, .ref dr5, .ref dr6, .ref dr7, .ref dr8, .ref dr9]))] H := hP
          have hD : va_D A [(h0, .inr (11, [.ref rd0, .ref d0, .ref im0, .ref ig0, .ref rw0, .ref we0, .ref mi0, .ref re0, .ref pl0, .ref ri0, .ref le0])), (dr1, .inl (g.2 0, 32, .inl dthoughts)), (d0, .inr (0, [.int dstates, .int dreally, .int ddays, .int dheal, .int dleak, .int dlines, .int dhearers, .int dwords, .int dplans, .int dnews, .ref dr0, .ref dr1, .ref dr2, .ref dr3, .ref dr4, .ref dr5, .ref dr6, .ref dr7, .ref dr8, .ref dr9]))] := hD
          refine W.eq (g2 := F0 m 33 ls [.int (u11.1 0)]) rfl ?_
          rcases (show (u11.1 0).toInt = 0 ∨ (u11.1 0).toInt = 1 by omega) with c13 | c13
          · skip
            refine lv_if_eq (tgt := 47) hx hb dX11_chance_33 (by decide) (fun c14 => ?_) (fun c14 => ?_)
            · have c14 := k_eq (a := (u11.1 0).toInt) (b := 0) rfl (by decide) c14
              refine lv_bipush (v := -2) hx hb dX11_chance_47 (by decide) ?_
              exact rt_i FX ((fun k => match k with | 0 => (-2 : Int32) | _ => 0), (fun _ => fun _ => 0), (fun _ => fun _ => 0)) rfl trivial (hP.sub [0, 2, 1] rfl) (hD.sub [0, 2, 1] (by decide) rfl) hS (Nat.le_of_ble_eq_true rfl) (Nat.le_of_ble_eq_true rfl) dX11_chance_49
            · have c14 := k_ne (a := (u11.1 0).toInt) (b := 0) rfl (by decide) c14
              exfalso; omega
          · have c13_r := q12_1 c13
            refine lv_if_eq (tgt := 47) hx hb dX11_chance_33 (by decide) (fun c15 => ?_) (fun c15 => ?_)
            · have c15 := k_eq (a := (u11.1 0).toInt) (b := 0) rfl (by decide) c15
              exfalso; omega
            · have c15 := k_ne (a := (u11.1 0).toInt) (b := 0) rfl (by decide) c15
              refine lv_iload hx hb dX11_chance_36 (lv_at hl 4 rfl) ?_
              refine lv_if_lt (tgt := 47) hx hb dX11_chance_38 (by decide) (fun c16 => ?_) (fun c16 => ?_)
              · have c16 := k_lt (a := p4.toInt) (b := 0) rfl (by decide) c16
                refine lv_bipush (v := -2) hx hb dX11_chance_47 (by decide) ?_
                exact rt_i FX ((fun k => match k with | 0 => (-2 : Int32) | _ => 0), (fun _ => fun _ => 0), (fun _ => fun _ => 0)) rfl trivial (hP.sub [0, 2, 1] rfl) (hD.sub [0, 2, 1] (by decide) rfl) hS (Nat.le_of_ble_eq_true rfl) (Nat.le_of_ble_eq_true rfl) dX11_chance_49
              · have c16 := k_nlt (a := p4.toInt) (b := 0) rfl (by decide) c16
                refine lv_iload hx hb dX11_chance_41 (lv_at hl 4 rfl) ?_
                refine lv_iconst (v := 1) hx hb dX11_chance_43 (by decide) ?_
                refine lv_icmp_le (tgt := 50) hx hb dX11_chance_44 (by decide) (fun c17 => ?_) (fun c17 => ?_)
                · have c17 := k_le (a := p4.toInt) (b := 1) rfl (by decide) c17
                  refine lv_aload_n hx hb dX11_chance_50 rfl (lv_at hl 0 rfl) ?_
                  refine g_get (C := RX11) (T := TX11) (N := 11) (ci := 11) (v := .ref d0) FC hKn hP i_X11 0 rfl rfl 1 (by decide) b_310 rfl dX11_chance_51 ?_
                  refine lv_iload_n hx hb dX11_chance_54 rfl (lv_at hl 1 rfl) ?_
                  refine lv_iload_n hx hb dX11_chance_55 rfl (lv_at hl 2 rfl) ?_
                  refine lv_iload_n hx hb dX11_chance_56 rfl (lv_at hl 3 rfl) ?_
                  refine lv_iload hx hb dX11_chance_57 (lv_at hl 4 rfl) ?_
                  refine call_VN (As := [.int p1, .int p2, .int p3, .int p4]) (rest := []) (wr := [(h0, .inr (11, [.ref rd0, .ref d0, .ref im0, .ref ig0, .ref rw0, .ref we0, .ref mi0, .ref re0, .ref pl0, .ref ri0, .ref le0]))]) FC hKn hZ (k_X0_likelihood l g d0 dr0 dr1 dr2 dr3 dr4 dr5 dr6 dr7 dr8 dr9 dstates dreally ddays dheal dleak dlines dhearers dwords dplans dnews dthoughts p1 p2 p3 p4 (by omega) (by omega) (by omega) (by omega) (by omega) (by omega) (by omega) (by omega) (by omega)) m_yX0_likelihood b_403 (ci := 0) rfl rfl rfl hP hD hS hA [2, 1] [0] rfl (by decide) rfl (by decide) (by decide) rfl hl.1 rfl (Nat.le_of_ble_eq_true rfl) dX11_chance_59 ⟨(Nat.le_of_ble_eq_true rfl), (Nat.le_of_ble_eq_true rfl)⟩ ⟨(Nat.le_of_ble_eq_true rfl), (Nat.le_of_ble_eq_true rfl)⟩ (fun u18 H locs q19 hP hD hS => ?_)
                  have hP : va_P g.1 vwCl [(h0, .inr (11, [.ref rd0, .ref d0, .ref im0, .ref ig0, .ref rw0, .ref we0, .ref mi0, .ref re0, .ref pl0, .ref ri0, .ref le0])), (d0, .inr (0, [.int dstates, .int dreally, .int ddays, .int dheal, .int dleak, .int dlines, .int dhearers, .int dwords, .int dplans, .int dnews, .ref dr0, .ref dr1, .ref dr2, .ref dr3, .ref dr4, .ref dr5, .ref dr6, .ref dr7, .ref dr8, .ref dr9])), (dr1, .inl (g.2 0, 32, .inl dthoughts))] H := hP
                  have hD : va_D A [(h0, .inr (11, [.ref rd0, .ref d0, .ref im0, .ref ig0, .ref rw0, .ref we0, .ref mi0, .ref re0, .ref pl0, .ref ri0, .ref le0])), (d0, .inr (0, [.int dstates, .int dreally, .int ddays, .int dheal, .int dleak, .int dlines, .int dhearers, .int dwords, .int dplans, .int dnews, .ref dr0, .ref dr1, .ref dr2, .ref dr3, .ref dr4, .ref dr5, .ref dr6, .ref dr7, .ref dr8, .ref dr9])), (dr1, .inl (g.2 0, 32, .inl dthoughts))] := hD
                  refine W.eq (g2 := F0 m 62 ls [.int (u18.1 0)]) rfl ?_
                  exact rt_i FX ((fun k => match k with | 0 => u18.1 0 | _ => 0), (fun _ => fun _ => 0), (fun _ => fun _ => 0)) rfl trivial (hP.sub [0, 1, 2] rfl) (hD.sub [0, 1, 2] (by decide) rfl) hS (Nat.le_of_ble_eq_true rfl) (Nat.le_of_ble_eq_true rfl) dX11_chance_62
                · have c17 := k_nle (a := p4.toInt) (b := 1) rfl (by decide) c17
                  refine lv_bipush (v := -2) hx hb dX11_chance_47 (by decide) ?_
                  exact rt_i FX ((fun k => match k with | 0 => (-2 : Int32) | _ => 0), (fun _ => fun _ => 0), (fun _ => fun _ => 0)) rfl trivial (hP.sub [0, 2, 1] rfl) (hD.sub [0, 2, 1] (by decide) rfl) hS (Nat.le_of_ble_eq_true rfl) (Nat.le_of_ble_eq_true rfl) dX11_chance_49
        · have c10 := k_eq (a := (u6.1 0).toInt) (b := 0) rfl (by decide) c10
          exfalso; omega
set_option maxRecDepth 100000 in
set_option maxHeartbeats 4000000 in
theorem k_X11_behind (l : Launch) (g : GG) (h0 : Nat) (rd0 : Nat) (d0 : Nat) (im0 : Nat) (ig0 : Nat) (rw0 : Nat) (we0 : Nat) (mi0 : Nat) (re0 : Nat) (pl0 : Nat) (ri0 : Nat) (le0 : Nat) (dr0 : Nat) (dr1 : Nat) (dr2 : Nat) (dr3 : Nat) (dr4 : Nat) (dr5 : Nat) (dr6 : Nat) (dr7 : Nat) (dr8 : Nat) (dr9 : Nat) (dstates : Int32) (dreally : Int32) (ddays : Int32) (dheal : Int32) (dleak : Int32) (dlines : Int32) (dhearers : Int32) (dwords : Int32) (dplans : Int32) (dnews : Int32) (dmeanings : Nat → Int32) (p1 : Int32) (p2 : Int32) (i_dstates : 0 ≤ dstates.toInt ∧ dstates.toInt ≤ 8) (i_dreally : 0 ≤ dreally.toInt ∧ dreally.toInt ≤ 7) (i_ddays : 0 ≤ ddays.toInt ∧ ddays.toInt ≤ 10) (i_dhearers : 0 ≤ dhearers.toInt ∧ dhearers.toInt ≤ 4) (i_dwords : 0 ≤ dwords.toInt ∧ dwords.toInt ≤ 8) (i_dplans : 0 ≤ dplans.toInt ∧ dplans.toInt ≤ 4) (i_dnews : 0 ≤ dnews.toInt ∧ dnews.toInt ≤ 6) (i_dmeanings : ab dmeanings 8 0 255) : Ct l g yX11_behind cX11_behind 3 (some .int) { frames := 2, cells := 0, slots := 0, locals := 44 } [.ref h0, .int p1, .int p2] [(h0, .inr (11, [.ref rd0, .ref d0, .ref im0, .ref ig0, .ref rw0, .ref we0, .ref mi0, .ref re0, .ref pl0, .ref ri0, .ref le0])), (d0, .inr (0, [.int dstates, .int dreally, .int ddays, .int dheal, .int dleak, .int dlines, .int dhearers, .int dwords, .int dplans, .int dnews, .ref dr0, .ref dr1, .ref dr2, .ref dr3, .ref dr4, .ref dr5, .ref dr6, .ref dr7, .ref dr8, .ref dr9])), (dr5, .inl (g.2 0, 8, .inl dmeanings))] (S := (Nat → Int32) × (Nat → Nat → Int32) × (Nat → Nat → Int64)) (fun u => some (.int (u.1 0))) (fun u => True) (fun u => [(h0, .inr (11, [.ref rd0, .ref d0, .ref im0, .ref ig0, .ref rw0, .ref we0, .ref mi0, .ref re0, .ref pl0, .ref ri0, .ref le0])), (d0, .inr (0, [.int dstates, .int dreally, .int ddays, .int dheal, .int dleak, .int dlines, .int dhearers, .int dwords, .int dplans, .int dnews, .ref dr0, .ref dr1, .ref dr2, .ref dr3, .ref dr4, .ref dr5, .ref dr6, .ref dr7, .ref dr8, .ref dr9])), (dr5, .inl (g.2 0, 8, .inl dmeanings))]) := by
  refine Ct.of (by decide) (Nat.le_of_ble_eq_true rfl) ?_
  intro p e s m below meth c A ls FX hP hD hS hl
  obtain ⟨FC, hr, hlk, hKn, hA, hnm, hZ⟩ := id FX
  have FC : CallFix p m c cX11_behind 3 s _ BIG RX11 := FC
  obtain ⟨hx, hb, hml, hown, hB⟩ := id FC
  have hl : lv_has ls 3 [(0, .ref h0), (1, .int p1), (2, .int p2)] := hl
  refine lv_aload_n hx hb dX11_behind_0 rfl (lv_at hl 0 rfl) ?_
  refine g_get (C := RX11) (T := TX11) (N := 11) (ci := 11) (v := .ref d0) FC hKn hP i_X11 0 rfl rfl 1 (by decide) b_310 rfl dX11_behind_1 ?_
  refine lv_iload_n hx hb dX11_behind_4 rfl (lv_at hl 1 rfl) ?_
  refine call_VN (As := [.int p1]) (rest := []) (wr := [(h0, .inr (11, [.ref rd0, .ref d0, .ref im0, .ref ig0, .ref rw0, .ref we0, .ref mi0, .ref re0, .ref pl0, .ref ri0, .ref le0])), (dr5, .inl (g.2 0, 8, .inl dmeanings))]) FC hKn hZ (k_X0_hasBelief l g d0 dr0 dr1 dr2 dr3 dr4 dr5 dr6 dr7 dr8 dr9 dstates dreally ddays dheal dleak dlines dhearers dwords dplans dnews p1 (by omega) (by omega) (by omega) (by omega) (by omega) (by omega) (by omega)) m_yX0_hasBelief b_401 (ci := 0) rfl rfl rfl hP hD hS hA [1] [0, 2] rfl (by decide) rfl (by decide) (by decide) rfl hl.1 rfl (Nat.le_of_ble_eq_true rfl) dX11_behind_5 ⟨(Nat.le_of_ble_eq_true rfl), (Nat.le_of_ble_eq_true rfl)⟩ ⟨(Nat.le_of_ble_eq_true rfl), (Nat.le_of_ble_eq_true rfl)⟩ (fun u1 H locs q2 hP hD hS => ?_)
  obtain ⟨q2_0, q2_1⟩ := q2
  have hP : va_P g.1 vwCl [(h0, .inr (11, [.ref rd0, .ref d0, .ref im0, .ref ig0, .ref rw0, .ref we0, .ref mi0, .ref re0, .ref pl0, .ref ri0, .ref le0])), (dr5, .inl (g.2 0, 8, .inl dmeanings)), (d0, .inr (0, [.int dstates, .int dreally, .int ddays, .int dheal, .int dleak, .int dlines, .int dhearers, .int dwords, .int dplans, .int dnews, .ref dr0, .ref dr1, .ref dr2, .ref dr3, .ref dr4, .ref dr5, .ref dr6, .ref dr7, .ref dr8, .ref dr9]))] H := hP
  have hD : va_D A [(h0, .inr (11, [.ref rd0, .ref d0, .ref im0, .ref ig0, .ref rw0, .ref we0, .ref mi0, .ref re0, .ref pl0, .ref ri0, .ref le0])), (dr5, .inl (g.2 0, 8, .inl dmeanings)), (d0, .inr (0, [.int dstates, .int dreally, .int ddays, .int dheal, .int dleak, .int dlines, .int dhearers, .int dwords, .int dplans, .int dnews, .ref dr0, .ref dr1, .ref dr2, .ref dr3, .ref dr4, .ref dr5, .ref dr6, .ref dr7, .ref dr8, .ref dr9]))] := hD
  refine W.eq (g2 := F0 m 8 ls [.int (u1.1 0)]) rfl ?_
  rcases (show (u1.1 0).toInt = 0 ∨ (u1.1 0).toInt = 1 by omega) with c3 | c3
  · skip
    refine lv_if_eq (tgt := 22) hx hb dX11_behind_8 (by decide) (fun c4 => ?_) (fun c4 => ?_)
    · have c4 := k_eq (a := (u1.1 0).toInt) (b := 0) rfl (by decide) c4
      refine lv_bipush (v := -2) hx hb dX11_behind_22 (by decide) ?_
      exact rt_i FX ((fun k => match k with | 0 => (-2 : Int32) | _ => 0), (fun _ => fun _ => 0), (fun _ => fun _ => 0)) rfl trivial (hP.sub [0, 2, 1] rfl) (hD.sub [0, 2, 1] (by decide) rfl) hS (Nat.le_of_ble_eq_true rfl) (Nat.le_of_ble_eq_true rfl) dX11_behind_24
    · have c4 := k_ne (a := (u1.1 0).toInt) (b := 0) rfl (by decide) c4
      exfalso; omega
  · have c3_r := q2_1 c3
    refine lv_if_eq (tgt := 22) hx hb dX11_behind_8 (by decide) (fun c5 => ?_) (fun c5 => ?_)
    · have c5 := k_eq (a := (u1.1 0).toInt) (b := 0) rfl (by decide) c5
      exfalso; omega
    · have c5 := k_ne (a := (u1.1 0).toInt) (b := 0) rfl (by decide) c5
      refine lv_aload_n hx hb dX11_behind_11 rfl (lv_at hl 0 rfl) ?_
      refine g_get (C := RX11) (T := TX11) (N := 11) (ci := 11) (v := .ref d0) FC hKn hP i_X11 0 rfl rfl 1 (by decide) b_310 rfl dX11_behind_12 ?_
      refine lv_iload_n hx hb dX11_behind_15 rfl (lv_at hl 2 rfl) ?_
      refine call_VN (As := [.int p2]) (rest := []) (wr := [(h0, .inr (11, [.ref rd0, .ref d0, .ref im0, .ref ig0, .ref rw0, .ref we0, .ref mi0, .ref re0, .ref pl0, .ref ri0, .ref le0])), (dr5, .inl (g.2 0, 8, .inl dmeanings))]) FC hKn hZ (k_X0_canTell l g d0 dr0 dr1 dr2 dr3 dr4 dr5 dr6 dr7 dr8 dr9 dstates dreally ddays dheal dleak dlines dhearers dwords dplans dnews p2 (by omega) (by omega) (by omega) (by omega) (by omega) (by omega) (by omega)) m_yX0_canTell b_404 (ci := 0) rfl rfl rfl hP hD hS hA [2] [0, 1] rfl (by decide) rfl (by decide) (by decide) rfl hl.1 rfl (Nat.le_of_ble_eq_true rfl) dX11_behind_16 ⟨(Nat.le_of_ble_eq_true rfl), (Nat.le_of_ble_eq_true rfl)⟩ ⟨(Nat.le_of_ble_eq_true rfl), (Nat.le_of_ble_eq_true rfl)⟩ (fun u6 H locs q7 hP hD hS => ?_)
      have q7_0 : 0 ≤ (u6.1 0).toInt ∧ (u6.1 0).toInt ≤ 1 := q7
      have hP : va_P g.1 vwCl [(h0, .inr (11, [.ref rd0, .ref d0, .ref im0, .ref ig0, .ref rw0, .ref we0, .ref mi0, .ref re0, .ref pl0, .ref ri0, .ref le0])), (dr5, .inl (g.2 0, 8, .inl dmeanings)), (d0, .inr (0, [.int dstates, .int dreally, .int ddays, .int dheal, .int dleak, .int dlines, .int dhearers, .int dwords, .int dplans, .int dnews, .ref dr0, .ref dr1, .ref dr2, .ref dr3, .ref dr4, .ref dr5, .ref dr6, .ref dr7, .ref dr8, .ref dr9]))] H := hP
      have hD : va_D A [(h0, .inr (11, [.ref rd0, .ref d0, .ref im0, .ref ig0, .ref rw0, .ref we0, .ref mi0, .ref re0, .ref pl0, .ref ri0, .ref le0])), (dr5, .inl (g.2 0, 8, .inl dmeanings)), (d0, .inr (0, [.int dstates, .int dreally, .int ddays, .int dheal, .int dleak, .int dlines, .int dhearers, .int dwords, .int dplans, .int dnews, .ref dr0, .ref dr1, .ref dr2, .ref dr3, .ref dr4, .ref dr5, .ref dr6, .ref dr7, .ref dr8, .ref dr9]))] := hD
      refine W.eq (g2 := F0 m 19 ls [.int (u6.1 0)]) rfl ?_
      refine lv_if_ne (tgt := 25) hx hb dX11_behind_19 (by decide) (fun c8 => ?_) (fun c8 => ?_)
      · have c8 := k_ne (a := (u6.1 0).toInt) (b := 0) rfl (by decide) c8
        refine lv_aload_n hx hb dX11_behind_25 rfl (lv_at hl 0 rfl) ?_
        refine g_get (C := RX11) (T := TX11) (N := 11) (ci := 11) (v := .ref d0) FC hKn hP i_X11 0 rfl rfl 1 (by decide) b_310 rfl dX11_behind_26 ?_
        refine lv_iload_n hx hb dX11_behind_29 rfl (lv_at hl 1 rfl) ?_
        refine lv_iload_n hx hb dX11_behind_30 rfl (lv_at hl 2 rfl) ?_
        refine call_VN (As := [.int p1, .int p2]) (rest := []) (wr := [(h0, .inr (11, [.ref rd0, .ref d0, .ref im0, .ref ig0, .ref rw0, .ref we0, .ref mi0, .ref re0, .ref pl0, .ref ri0, .ref le0]))]) FC hKn hZ (k_X0_nextBelief l g d0 dr0 dr1 dr2 dr3 dr4 dr5 dr6 dr7 dr8 dr9 dstates dreally ddays dheal dleak dlines dhearers dwords dplans dnews dmeanings p1 p2 (by omega) (by omega) (by omega) (by omega) (by omega) (by omega) (by omega) i_dmeanings (by omega)) m_yX0_nextBelief b_405 (ci := 0) rfl rfl rfl hP hD hS hA [2, 1] [0] rfl (by decide) rfl (by decide) (by decide) rfl hl.1 rfl (Nat.le_of_ble_eq_true rfl) dX11_behind_31 ⟨(Nat.le_of_ble_eq_true rfl), (Nat.le_of_ble_eq_true rfl)⟩ ⟨(Nat.le_of_ble_eq_true rfl), (Nat.le_of_ble_eq_true rfl)⟩ (fun u9 H locs q10 hP hD hS => ?_)
        have q10_0 : 0 ≤ (u9.1 0).toInt ∧ (u9.1 0).toInt ≤ 255 := q10
        have hP : va_P g.1 vwCl [(h0, .inr (11, [.ref rd0, .ref d0, .ref im0, .ref ig0, .ref rw0, .ref we0, .ref mi0, .ref re0, .ref pl0, .ref ri0, .ref le0])), (d0, .inr (0, [.int dstates, .int dreally, .int ddays, .int dheal, .int dleak, .int dlines, .int dhearers, .int dwords, .int dplans, .int dnews, .ref dr0, .ref dr1, .ref dr2, .ref dr3, .ref dr4, .ref dr5, .ref dr6, .ref dr7, .ref dr8, .ref dr9])), (dr5, .inl (g.2 0, 8, .inl dmeanings))] H := hP
        have hD : va_D A [(h0, .inr (11, [.ref rd0, .ref d0, .ref im0, .ref ig0, .ref rw0, .ref we0, .ref mi0, .ref re0, .ref pl0, .ref ri0, .ref le0])), (d0, .inr (0, [.int dstates, .int dreally, .int ddays, .int dheal, .int dleak, .int dlines, .int dhearers, .int dwords, .int dplans, .int dnews, .ref dr0, .ref dr1, .ref dr2, .ref dr3, .ref dr4, .ref dr5, .ref dr6, .ref dr7, .ref dr8, .ref dr9])), (dr5, .inl (g.2 0, 8, .inl dmeanings))] := hD
        refine W.eq (g2 := F0 m 34 ls [.int (u9.1 0)]) rfl ?_
        exact rt_i FX ((fun k => match k with | 0 => u9.1 0 | _ => 0), (fun _ => fun _ => 0), (fun _ => fun _ => 0)) rfl trivial (hP.sub [0, 1, 2] rfl) (hD.sub [0, 1, 2] (by decide) rfl) hS (Nat.le_of_ble_eq_true rfl) (Nat.le_of_ble_eq_true rfl) dX11_behind_34
      · have c8 := k_eq (a := (u6.1 0).toInt) (b := 0) rfl (by decide) c8
        refine lv_bipush (v := -2) hx hb dX11_behind_22 (by decide) ?_
        exact rt_i FX ((fun k => match k with | 0 => (-2 : Int32) | _ => 0), (fun _ => fun _ => 0), (fun _ => fun _ => 0)) rfl trivial (hP.sub [0, 2, 1] rfl) (hD.sub [0, 2, 1] (by decide) rfl) hS (Nat.le_of_ble_eq_true rfl) (Nat.le_of_ble_eq_true rfl) dX11_behind_24
set_option maxRecDepth 100000 in
set_option maxHeartbeats 4000000 in
theorem k_X11_hurt (l : Launch) (g : GG) (h0 : Nat) (rd0 : Nat) (d0 : Nat) (im0 : Nat) (ig0 : Nat) (rw0 : Nat) (we0 : Nat) (mi0 : Nat) (re0 : Nat) (pl0 : Nat) (ri0 : Nat) (le0 : Nat) (dr0 : Nat) (dr1 : Nat) (dr2 : Nat) (dr3 : Nat) (dr4 : Nat) (dr5 : Nat) (dr6 : Nat) (dr7 : Nat) (dr8 : Nat) (dr9 : Nat) (dstates : Int32) (dreally : Int32) (ddays : Int32) (dheal : Int32) (dleak : Int32) (dlines : Int32) (dhearers : Int32) (dwords : Int32) (dplans : Int32) (dnews : Int32) (dthoughts : Nat → Int32) (dgrades : Nat → Int32) (dmeanings : Nat → Int32) (p1 : Int32) (p2 : Int32) (p3 : Int32) (i_dstates : 0 ≤ dstates.toInt ∧ dstates.toInt ≤ 8) (i_dreally : 0 ≤ dreally.toInt ∧ dreally.toInt ≤ 7) (i_ddays : 0 ≤ ddays.toInt ∧ ddays.toInt ≤ 10) (i_dhearers : 0 ≤ dhearers.toInt ∧ dhearers.toInt ≤ 4) (i_dwords : 0 ≤ dwords.toInt ∧ dwords.toInt ≤ 8) (i_dplans : 0 ≤ dplans.toInt ∧ dplans.toInt ≤ 4) (i_dnews : 0 ≤ dnews.toInt ∧ dnews.toInt ≤ 6) (i_dmeanings : ab dmeanings 8 0 255) : Ct l g yX11_hurt cX11_hurt 4 (some .int) { frames := 3, cells := 0, slots := 0, locals := 73 } [.ref h0, .int p1, .int p2, .int p3] [(h0, .inr (11, [.ref rd0, .ref d0, .ref im0, .ref ig0, .ref rw0, .ref we0, .ref mi0, .ref re0, .ref pl0, .ref ri0, .ref le0])), (d0, .inr (0, [.int dstates, .int dreally, .int ddays, .int dheal, .int dleak, .int dlines, .int dhearers, .int dwords, .int dplans, .int dnews, .ref dr0, .ref dr1, .ref dr2, .ref dr3, .ref dr4, .ref dr5, .ref dr6, .ref dr7, .ref dr8, .ref dr9])), (dr1, .inl (g.2 0, 32, .inl dthoughts)), (dr0, .inl (g.2 0, 8, .inl dgrades)), (dr5, .inl (g.2 0, 8, .inl dmeanings))] (S := (Nat → Int32) × (Nat → Nat → Int32) × (Nat → Nat → Int64)) (fun u => some (.int (u.1 0))) (fun u => True) (fun u => [(h0, .inr (11, [.ref rd0, .ref d0, .ref im0, .ref ig0, .ref rw0, .ref we0, .ref mi0, .ref re0, .ref pl0, .ref ri0, .ref le0])), (d0, .inr (0, [.int dstates, .int dreally, .int ddays, .int dheal, .int dleak, .int dlines, .int dhearers, .int dwords, .int dplans, .int dnews, .ref dr0, .ref dr1, .ref dr2, .ref dr3, .ref dr4, .ref dr5, .ref dr6, .ref dr7, .ref dr8, .ref dr9])), (dr1, .inl (g.2 0, 32, .inl dthoughts)), (dr0, .inl (g.2 0, 8, .inl dgrades)), (dr5, .inl (g.2 0, 8, .inl dmeanings))]) := by
  refine Ct.of (by decide) (Nat.le_of_ble_eq_true rfl) ?_
  intro p e s m below meth c A ls FX hP hD hS hl
  obtain ⟨FC, hr, hlk, hKn, hA, hnm, hZ⟩ := id FX
  have FC : CallFix p m c cX11_hurt 4 s _ BIG RX11 := FC
  obtain ⟨hx, hb, hml, hown, hB⟩ := id FC
  have hl : lv_has ls 4 [(0, .ref h0), (1, .int p1), (2, .int p2), (3, .int p3)] := hl
  refine lv_aload_n hx hb dX11_hurt_0 rfl (lv_at hl 0 rfl) ?_
  refine g_get (C := RX11) (T := TX11) (N := 11) (ci := 11) (v := .ref d0) FC hKn hP i_X11 0 rfl rfl 1 (by decide) b_310 rfl dX11_hurt_1 ?_
  refine lv_iload_n hx hb dX11_hurt_4 rfl (lv_at hl 1 rfl) ?_
  refine call_VN (As := [.int p1]) (rest := []) (wr := [(h0, .inr (11, [.ref rd0, .ref d0, .ref im0, .ref ig0, .ref rw0, .ref we0, .ref mi0, .ref re0, .ref pl0, .ref ri0, .ref le0])), (dr1, .inl (g.2 0, 32, .inl dthoughts)), (dr0, .inl (g.2 0, 8, .inl dgrades)), (dr5, .inl (g.2 0, 8, .inl dmeanings))]) FC hKn hZ (k_X0_hasHearer l g d0 dr0 dr1 dr2 dr3 dr4 dr5 dr6 dr7 dr8 dr9 dstates dreally ddays dheal dleak dlines dhearers dwords dplans dnews p1 (by omega) (by omega) (by omega) (by omega) (by omega) (by omega) (by omega)) m_yX0_hasHearer b_316 (ci := 0) rfl rfl rfl hP hD hS hA [1] [0, 2, 3, 4] rfl (by decide) rfl (by decide) (by decide) rfl hl.1 rfl (Nat.le_of_ble_eq_true rfl) dX11_hurt_5 ⟨(Nat.le_of_ble_eq_true rfl), (Nat.le_of_ble_eq_true rfl)⟩ ⟨(Nat.le_of_ble_eq_true rfl), (Nat.le_of_ble_eq_true rfl)⟩ (fun u1 H locs q2 hP hD hS => ?_)
  obtain ⟨q2_0, q2_1⟩ := q2
  have hP : va_P g.1 vwCl [(h0, .inr (11, [.ref rd0, .ref d0, .ref im0, .ref ig0, .ref rw0, .ref we0, .ref mi0, .ref re0, .ref pl0, .ref ri0, .ref le0])), (dr1, .inl (g.2 0, 32, .inl dthoughts)), (dr0, .inl (g.2 0, 8, .inl dgrades)), (dr5, .inl (g.2 0, 8, .inl dmeanings)), (d0, .inr (0, [.int dstates, .int dreally, .int ddays, .int dheal, .int dleak, .int dlines, .int dhearers, .int dwords, .int dplans, .int dnews, .ref dr0, .ref dr1, .ref dr2, .ref dr3, .ref dr4, .ref dr5, .ref dr6, .ref dr7, .ref dr8, .ref dr9]))] H := hP
  have hD : va_D A [(h0, .inr (11, [.ref rd0, .ref d0, .ref im0, .ref ig0, .ref rw0, .ref we0, .ref mi0, .ref re0, .ref pl0, .ref ri0, .ref le0])), (dr1, .inl (g.2 0, 32, .inl dthoughts)), (dr0, .inl (g.2 0, 8, .inl dgrades)), (dr5, .inl (g.2 0, 8, .inl dmeanings)), (d0, .inr (0, [.int dstates, .int dreally, .int ddays, .int dheal, .int dleak, .int dlines, .int dhearers, .int dwords, .int dplans, .int dnews, .ref dr0, .ref dr1, .ref dr2, .ref dr3, .ref dr4, .ref dr5, .ref dr6, .ref dr7, .ref dr8, .ref dr9]))] := hD
  refine W.eq (g2 := F0 m 8 ls [.int (u1.1 0)]) rfl ?_
  rcases (show (u1.1 0).toInt = 0 ∨ (u1.1 0).toInt = 1 by omega) with c3 | c3
  · skip
    refine lv_if_eq (tgt := 33) hx hb dX11_hurt_8 (by decide) (fun c4 => ?_) (fun c4 => ?_)
    · have c4 := k_eq (a := (u1.1 0).toInt) (b := 0) rfl (by decide) c4
      refine lv_bipush (v := -2) hx hb dX11_hurt_33 (by decide) ?_
      exact rt_i FX ((fun k => match k with | 0 => (-2 : Int32) | _ => 0), (fun _ => fun _ => 0), (fun _ => fun _ => 0)) rfl trivial (hP.sub [0, 4, 1, 2, 3] rfl) (hD.sub [0, 4, 1, 2, 3] (by decide) rfl) hS (Nat.le_of_ble_eq_true rfl) (Nat.le_of_ble_eq_true rfl) dX11_hurt_35
    · have c4 := k_ne (a := (u1.1 0).toInt) (b := 0) rfl (by decide) c4
      exfalso; omega
  · have c3_r := q2_1 c3
    refine lv_if_eq (tgt := 33) hx hb dX11_hurt_8 (by decide) (fun c5 => ?_) (fun c5 => ?_)
    · have c5 := k_eq (a := (u1.1 0).toInt) (b := 0) rfl (by decide) c5
      exfalso; omega
    · have c5 := k_ne (a := (u1.1 0).toInt) (b := 0) rfl (by decide) c5
      refine lv_aload_n hx hb dX11_hurt_11 rfl (lv_at hl 0 rfl) ?_
      refine g_get (C := RX11) (T := TX11) (N := 11) (ci := 11) (v := .ref d0) FC hKn hP i_X11 0 rfl rfl 1 (by decide) b_310 rfl dX11_hurt_12 ?_
      refine lv_iload_n hx hb dX11_hurt_15 rfl (lv_at hl 2 rfl) ?_
      refine call_VN (As := [.int p2]) (rest := []) (wr := [(h0, .inr (11, [.ref rd0, .ref d0, .ref im0, .ref ig0, .ref rw0, .ref we0, .ref mi0, .ref re0, .ref pl0, .ref ri0, .ref le0])), (dr1, .inl (g.2 0, 32, .inl dthoughts)), (dr0, .inl (g.2 0, 8, .inl dgrades)), (dr5, .inl (g.2 0, 8, .inl dmeanings))]) FC hKn hZ (k_X0_hasBelief l g d0 dr0 dr1 dr2 dr3 dr4 dr5 dr6 dr7 dr8 dr9 dstates dreally ddays dheal dleak dlines dhearers dwords dplans dnews p2 (by omega) (by omega) (by omega) (by omega) (by omega) (by omega) (by omega)) m_yX0_hasBelief b_401 (ci := 0) rfl rfl rfl hP hD hS hA [4] [0, 1, 2, 3] rfl (by decide) rfl (by decide) (by decide) rfl hl.1 rfl (Nat.le_of_ble_eq_true rfl) dX11_hurt_16 ⟨(Nat.le_of_ble_eq_true rfl), (Nat.le_of_ble_eq_true rfl)⟩ ⟨(Nat.le_of_ble_eq_true rfl), (Nat.le_of_ble_eq_true rfl)⟩ (fun u6 H locs q7 hP hD hS => ?_)
      obtain ⟨q7_0, q7_1⟩ := q7
      have hP : va_P g.1 vwCl [(h0, .inr (11, [.ref rd0, .ref d0, .ref im0, .ref ig0, .ref rw0, .ref we0, .ref mi0, .ref re0, .ref pl0, .ref ri0, .ref le0])), (dr1, .inl (g.2 0, 32, .inl dthoughts)), (dr0, .inl (g.2 0, 8, .inl dgrades)), (dr5, .inl (g.2 0, 8, .inl dmeanings)), (d0, .inr (0, [.int dstates, .int dreally, .int ddays, .int dheal, .int dleak, .int dlines, .int dhearers, .int dwords, .int dplans, .int dnews, .ref dr0, .ref dr1, .ref dr2, .ref dr3, .ref dr4, .ref dr5, .ref dr6, .ref dr7, .ref dr8, .ref dr9]))] H := hP
      have hD : va_D A [(h0, .inr (11, [.ref rd0, .ref d0, .ref im0, .ref ig0, .ref rw0, .ref we0, .ref mi0, .ref re0, .ref pl0, .ref ri0, .ref le0])), (dr1, .inl (g.2 0, 32, .inl dthoughts)), (dr0, .inl (g.2 0, 8, .inl dgrades)), (dr5, .inl (g.2 0, 8, .inl dmeanings)), (d0, .inr (0, [.int dstates, .int dreally, .int ddays, .int dheal, .int dleak, .int dlines, .int dhearers, .int dwords, .int dplans, .int dnews, .ref dr0, .ref dr1, .ref dr2, .ref dr3, .ref dr4, .ref dr5, .ref dr6, .ref dr7, .ref dr8, .ref dr9]))] := hD
      refine W.eq (g2 := F0 m 19 ls [.int (u6.1 0)]) rfl ?_
      rcases (show (u6.1 0).toInt = 0 ∨ (u6.1 0).toInt = 1 by omega) with c8 | c8
      · skip
        refine lv_if_eq (tgt := 33) hx hb dX11_hurt_19 (by decide) (fun c9 => ?_) (fun c9 => ?_)
        · have c9 := k_eq (a := (u6.1 0).toInt) (b := 0) rfl (by decide) c9
          refine lv_bipush (v := -2) hx hb dX11_hurt_33 (by decide) ?_
          exact rt_i FX ((fun k => match k with | 0 => (-2 : Int32) | _ => 0), (fun _ => fun _ => 0), (fun _ => fun _ => 0)) rfl trivial (hP.sub [0, 4, 1, 2, 3] rfl) (hD.sub [0, 4, 1, 2, 3] (by decide) rfl) hS (Nat.le_of_ble_eq_true rfl) (Nat.le_of_ble_eq_true rfl) dX11_hurt_35
        · have c9 := k_ne (a := (u6.1 0).toInt) (b := 0) rfl (by decide) c9
          exfalso; omega
      · have c8_r := q7_1 c8
        refine lv_if_eq (tgt := 33) hx hb dX11_hurt_19 (by decide) (fun c10 => ?_) (fun c10 => ?_)
        · have c10 := k_eq (a := (u6.1 0).toInt) (b := 0) rfl (by decide) c10
          exfalso; omega
        · have c10 := k_ne (a := (u6.1 0).toInt) (b := 0) rfl (by decide) c10
          refine lv_aload_n hx hb dX11_hurt_22 rfl (lv_at hl 0 rfl) ?_
          refine g_get (C := RX11) (T := TX11) (N := 11) (ci := 11) (v := .ref d0) FC hKn hP i_X11 0 rfl rfl 1 (by decide) b_310 rfl dX11_hurt_23 ?_
          refine lv_iload_n hx hb dX11_hurt_26 rfl (lv_at hl 3 rfl) ?_
          refine call_VN (As := [.int p3]) (rest := []) (wr := [(h0, .inr (11, [.ref rd0, .ref d0, .ref im0, .ref ig0, .ref rw0, .ref we0, .ref mi0, .ref re0, .ref pl0, .ref ri0, .ref le0])), (dr1, .inl (g.2 0, 32, .inl dthoughts)), (dr0, .inl (g.2 0, 8, .inl dgrades)), (dr5, .inl (g.2 0, 8, .inl dmeanings))]) FC hKn hZ (k_X0_canTell l g d0 dr0 dr1 dr2 dr3 dr4 dr5 dr6 dr7 dr8 dr9 dstates dreally ddays dheal dleak dlines dhearers dwords dplans dnews p3 (by omega) (by omega) (by omega) (by omega) (by omega) (by omega) (by omega)) m_yX0_canTell b_404 (ci := 0) rfl rfl rfl hP hD hS hA [4] [0, 1, 2, 3] rfl (by decide) rfl (by decide) (by decide) rfl hl.1 rfl (Nat.le_of_ble_eq_true rfl) dX11_hurt_27 ⟨(Nat.le_of_ble_eq_true rfl), (Nat.le_of_ble_eq_true rfl)⟩ ⟨(Nat.le_of_ble_eq_true rfl), (Nat.le_of_ble_eq_true rfl)⟩ (fun u11 H locs q12 hP hD hS => ?_)
          have q12_0 : 0 ≤ (u11.1 0).toInt ∧ (u11.1 0).toInt ≤ 1 := q12
          have hP : va_P g.1 vwCl [(h0, .inr (11, [.ref rd0, .ref d0, .ref im0, .ref ig0, .ref rw0, .ref we0, .ref mi0, .ref re0, .ref pl0, .ref ri0, .ref le0])), (dr1, .inl (g.2 0, 32, .inl dthoughts)), (dr0, .inl (g.2 0, 8, .inl dgrades)), (dr5, .inl (g.2 0, 8, .inl dmeanings)), (d0, .inr (0, [.int dstates, .int dreally, .int ddays, .int dheal, .int dleak, .int dlines, .int dhearers, .int dwords, .int dplans, .int dnews, .ref dr0, .ref dr1, .ref dr2, .ref dr3, .ref dr4, .ref dr5, .ref dr6, .ref dr7, .ref dr8, .ref dr9]))] H := hP
          have hD : va_D A [(h0, .inr (11, [.ref rd0, .ref d0, .ref im0, .ref ig0, .ref rw0, .ref we0, .ref mi0, .ref re0, .ref pl0, .ref ri0, .ref le0])), (dr1, .inl (g.2 0, 32, .inl dthoughts)), (dr0, .inl (g.2 0, 8, .inl dgrades)), (dr5, .inl (g.2 0, 8, .inl dmeanings)), (d0, .inr (0, [.int dstates, .int dreally, .int ddays, .int dheal, .int dleak, .int dlines, .int dhearers, .int dwords, .int dplans, .int dnews, .ref dr0, .ref dr1, .ref dr2, .ref dr3, .ref dr4, .ref dr5, .ref dr6, .ref dr7, .ref dr8, .ref dr9]))] := hD
          refine W.eq (g2 := F0 m 30 ls [.int (u11.1 0)]) rfl ?_
          refine lv_if_ne (tgt := 36) hx hb dX11_hurt_30 (by decide) (fun c13 => ?_) (fun c13 => ?_)
          · have c13 := k_ne (a := (u11.1 0).toInt) (b := 0) rfl (by decide) c13
            refine lv_aload_n hx hb dX11_hurt_36 rfl (lv_at hl 0 rfl) ?_
            refine g_get (C := RX11) (T := TX11) (N := 11) (ci := 11) (v := .ref d0) FC hKn hP i_X11 0 rfl rfl 1 (by decide) b_310 rfl dX11_hurt_37 ?_
            refine lv_iload_n hx hb dX11_hurt_40 rfl (lv_at hl 1 rfl) ?_
            refine lv_iload_n hx hb dX11_hurt_41 rfl (lv_at hl 2 rfl) ?_
            refine lv_aload_n hx hb dX11_hurt_42 rfl (lv_at hl 0 rfl) ?_
            refine g_get (C := RX11) (T := TX11) (N := 11) (ci := 11) (v := .ref d0) FC hKn hP i_X11 0 rfl rfl 1 (by decide) b_310 rfl dX11_hurt_43 ?_
            refine lv_iload_n hx hb dX11_hurt_46 rfl (lv_at hl 2 rfl) ?_
            refine lv_iload_n hx hb dX11_hurt_47 rfl (lv_at hl 3 rfl) ?_
            refine call_VN (As := [.int p2, .int p3]) (rest := [.int p2, .int p1, .ref d0]) (wr := [(h0, .inr (11, [.ref rd0, .ref d0, .ref im0, .ref ig0, .ref rw0, .ref we0, .ref mi0, .ref re0, .ref pl0, .ref ri0, .ref le0])), (dr1, .inl (g.2 0, 32, .inl dthoughts)), (dr0, .inl (g.2 0, 8, .inl dgrades))]) FC hKn hZ (k_X0_nextBelief l g d0 dr0 dr1 dr2 dr3 dr4 dr5 dr6 dr7 dr8 dr9 dstates dreally ddays dheal dleak dlines dhearers dwords dplans dnews dmeanings p2 p3 (by omega) (by omega) (by omega) (by omega) (by omega) (by omega) (by omega) i_dmeanings (by omega)) m_yX0_nextBelief b_405 (ci := 0) rfl rfl rfl hP hD hS hA [4, 3] [0, 1, 2] rfl (by decide) rfl (by decide) (by decide) rfl hl.1 rfl (Nat.le_of_ble_eq_true rfl) dX11_hurt_48 ⟨(Nat.le_of_ble_eq_true rfl), (Nat.le_of_ble_eq_true rfl)⟩ ⟨(Nat.le_of_ble_eq_true rfl), (Nat.le_of_ble_eq_true rfl)⟩ (fun u14 H locs q15 hP hD hS => ?_)
            have q15_0 : 0 ≤ (u14.1 0).toInt ∧ (u14.1 0).toInt ≤ 255 := q15
            have hP : va_P g.1 vwCl [(h0, .inr (11, [.ref rd0, .ref d0, .ref im0, .ref ig0, .ref rw0, .ref we0, .ref mi0, .ref re0, .ref pl0, .ref ri0, .ref le0])), (dr1, .inl (g.2 0, 32, .inl dthoughts)), (dr0, .inl (g.2 0, 8, .inl dgrades)), (d0, .inr (0, [.int dstates, .int dreally, .int ddays, .int dheal, .int dleak, .int dlines, .int dhearers, .int dwords, .int dplans, .int dnews, .ref dr0, .ref dr1, .ref dr2, .ref dr3, .ref dr4, .ref dr5, .ref dr6, .ref dr7, .ref dr8, .ref dr9])), (dr5, .inl (g.2 0, 8, .inl dmeanings))] H := hP
            have hD : va_D A [(h0, .inr (11, [.ref rd0, .ref d0, .ref im0, .ref ig0, .ref rw0, .ref we0, .ref mi0, .ref re0, .ref pl0, .ref ri0, .ref le0])), (dr1, .inl (g.2 0, 32, .inl dthoughts)), (dr0, .inl (g.2 0, 8, .inl dgrades)), (d0, .inr (0, [.int dstates, .int dreally, .int ddays, .int dheal, .int dleak, .int dlines, .int dhearers, .int dwords, .int dplans, .int dnews, .ref dr0, .ref dr1, .ref dr2, .ref dr3, .ref dr4, .ref dr5, .ref dr6, .ref dr7, .ref dr8, .ref dr9])), (dr5, .inl (g.2 0, 8, .inl dmeanings))] := hD
            refine W.eq (g2 := F0 m 51 ls [.int (u14.1 0), .int p2, .int p1, .ref d0]) rfl ?_
            refine call_VN (As := [.int p1, .int p2, .int (u14.1 0)]) (rest := []) (wr := [(h0, .inr (11, [.ref rd0, .ref d0, .ref im0, .ref ig0, .ref rw0, .ref we0, .ref mi0, .ref re0, .ref pl0, .ref ri0, .ref le0])), (dr5, .inl (g.2 0, 8, .inl dmeanings))]) FC hKn hZ (k_X0_hurtBetween l g d0 dr0 dr1 dr2 dr3 dr4 dr5 dr6 dr7 dr8 dr9 dstates dreally ddays dheal dleak dlines dhearers dwords dplans dnews dthoughts dgrades p1 p2 (u14.1 0) (by omega) (by omega) (by omega) (by omega) (by omega) (by omega) (by omega) (by omega)) m_yX0_hurtBetween b_406 (ci := 0) rfl rfl rfl hP hD hS hA [3, 1, 2] [0, 4] rfl (by decide) rfl (by decide) (by decide) rfl hl.1 rfl (Nat.le_of_ble_eq_true rfl) dX11_hurt_51 ⟨(Nat.le_of_ble_eq_true rfl), (Nat.le_of_ble_eq_true rfl)⟩ ⟨(Nat.le_of_ble_eq_true rfl), (Nat.le_of_ble_eq_true rfl)⟩ (fun u16 H locs q17 hP hD hS => ?_)
            have hP : va_P g.1 vwCl [(h0, .inr (11, [.ref rd0, .ref d0, .ref im0, .ref ig0, .ref rw0, .ref we0, .ref mi0, .ref re0, .ref pl0, .ref ri0, .ref le0])), (dr5, .inl (g.2 0, 8, .inl dmeanings)), (d0, .inr (0, [.int dstates, .int dreally, .int ddays, .int dheal, .int dleak, .int dlines, .int dhearers, .int dwords, .int dplans, .int dnews, .ref dr0, .ref dr1, .ref dr2, .ref dr3, .ref dr4, .ref dr5, .ref dr6, .ref dr7, .ref dr8, .ref dr9])), (dr1, .inl (g.2 0, 32, .inl dthoughts)), (dr0, .inl (g.2 0, 8, .inl dgrades))] H := hP
            have hD : va_D A [(h0, .inr (11, [.ref rd0, .ref d0, .ref im0, .ref ig0, .ref rw0, .ref we0, .ref mi0, .ref re0, .ref pl0, .ref ri0, .ref le0])), (dr5, .inl (g.2 0, 8, .inl dmeanings)), (d0, .inr (0, [.int dstates, .int dreally, .int ddays, .int dheal, .int dleak, .int dlines, .int dhearers, .int dwords, .int dplans, .int dnews, .ref dr0, .ref dr1, .ref dr2, .ref dr3, .ref dr4, .ref dr5, .ref dr6, .ref dr7, .ref dr8, .ref dr9])), (dr1, .inl (g.2 0, 32, .inl dthoughts)), (dr0, .inl (g.2 0, 8, .inl dgrades))] := hD
            refine W.eq (g2 := F0 m 54 ls [.int (u16.1 0)]) rfl ?_
            exact rt_i FX ((fun k => match k with | 0 => u16.1 0 | _ => 0), (fun _ => fun _ => 0), (fun _ => fun _ => 0)) rfl trivial (hP.sub [0, 2, 3, 4, 1] rfl) (hD.sub [0, 2, 3, 4, 1] (by decide) rfl) hS (Nat.le_of_ble_eq_true rfl) (Nat.le_of_ble_eq_true rfl) dX11_hurt_54
          · have c13 := k_eq (a := (u11.1 0).toInt) (b := 0) rfl (by decide) c13
            refine lv_bipush (v := -2) hx hb dX11_hurt_33 (by decide) ?_
            exact rt_i FX ((fun k => match k with | 0 => (-2 : Int32) | _ => 0), (fun _ => fun _ => 0), (fun _ => fun _ => 0)) rfl trivial (hP.sub [0, 4, 1, 2, 3] rfl) (hD.sub [0, 4, 1, 2, 3] (by decide) rfl) hS (Nat.le_of_ble_eq_true rfl) (Nat.le_of_ble_eq_true rfl) dX11_hurt_35
set_option maxRecDepth 100000 in
set_option maxHeartbeats 4000000 in
theorem k_X11_softest (l : Launch) (g : GG) (h0 : Nat) (rd0 : Nat) (d0 : Nat) (im0 : Nat) (ig0 : Nat) (rw0 : Nat) (we0 : Nat) (mi0 : Nat) (re0 : Nat) (pl0 : Nat) (ri0 : Nat) (le0 : Nat) (dr0 : Nat) (dr1 : Nat) (dr2 : Nat) (dr3 : Nat) (dr4 : Nat) (dr5 : Nat) (dr6 : Nat) (dr7 : Nat) (dr8 : Nat) (dr9 : Nat) (dstates : Int32) (dreally : Int32) (ddays : Int32) (dheal : Int32) (dleak : Int32) (dlines : Int32) (dhearers : Int32) (dwords : Int32) (dplans : Int32) (dnews : Int32) (dthoughts : Nat → Int32) (dgrades : Nat → Int32) (dmeanings : Nat → Int32) (p1 : Int32) (p2 : Int32) (i_dstates : 0 ≤ dstates.toInt ∧ dstates.toInt ≤ 8) (i_dreally : 0 ≤ dreally.toInt ∧ dreally.toInt ≤ 7) (i_ddays : 0 ≤ ddays.toInt ∧ ddays.toInt ≤ 10) (i_dhearers : 0 ≤ dhearers.toInt ∧ dhearers.toInt ≤ 4) (i_dwords : 0 ≤ dwords.toInt ∧ dwords.toInt ≤ 8) (i_dplans : 0 ≤ dplans.toInt ∧ dplans.toInt ≤ 4) (i_dnews : 0 ≤ dnews.toInt ∧ dnews.toInt ≤ 6) (i_dmeanings : ab dmeanings 8 0 255) : Ct l g yX11_softest cX11_softest 7 (some .int) { frames := 3, cells := 0, slots := 0, locals := 73 } [.ref h0, .int p1, .int p2] [(h0, .inr (11, [.ref rd0, .ref d0, .ref im0, .ref ig0, .ref rw0, .ref we0, .ref mi0, .ref re0, .ref pl0, .ref ri0, .ref le0])), (d0, .inr (0, [.int dstates, .int dreally, .int ddays, .int dheal, .int dleak, .int dlines, .int dhearers, .int dwords, .int dplans, .int dnews, .ref dr0, .ref dr1, .ref dr2, .ref dr3, .ref dr4, .ref dr5, .ref dr6, .ref dr7, .ref dr8, .ref dr9])), (dr1, .inl (g.2 0, 32, .inl dthoughts)), (dr0, .inl (g.2 0, 8, .inl dgrades)), (dr5, .inl (g.2 0, 8, .inl dmeanings))] (S := (Nat → Int32) × (Nat → Nat → Int32) × (Nat → Nat → Int64)) (fun u => some (.int (u.1 0))) (fun u => True) (fun u => [(h0, .inr (11, [.ref rd0, .ref d0, .ref im0, .ref ig0, .ref rw0, .ref we0, .ref mi0, .ref re0, .ref pl0, .ref ri0, .ref le0])), (d0, .inr (0, [.int dstates, .int dreally, .int ddays, .int dheal, .int dleak, .int dlines, .int dhearers, .int dwords, .int dplans, .int dnews, .ref dr0, .ref dr1, .ref dr2, .ref dr3, .ref dr4, .ref dr5, .ref dr6, .ref dr7, .ref dr8, .ref dr9])), (dr1, .inl (g.2 0, 32, .inl dthoughts)), (dr0, .inl (g.2 0, 8, .inl dgrades)), (dr5, .inl (g.2 0, 8, .inl dmeanings))]) := by
  refine Ct.of (by decide) (Nat.le_of_ble_eq_true rfl) ?_
  intro p e s m below meth c A ls FX hP hD hS hl
  obtain ⟨FC, hr, hlk, hKn, hA, hnm, hZ⟩ := id FX
  have FC : CallFix p m c cX11_softest 7 s _ BIG RX11 := FC
  obtain ⟨hx, hb, hml, hown, hB⟩ := id FC
  have hl : lv_has ls 7 [(0, .ref h0), (1, .int p1), (2, .int p2)] := hl
  refine lv_aload_n hx hb dX11_softest_0 rfl (lv_at hl 0 rfl) ?_
  refine g_get (C := RX11) (T := TX11) (N := 11) (ci := 11) (v := .ref d0) FC hKn hP i_X11 0 rfl rfl 1 (by decide) b_310 rfl dX11_softest_1 ?_
  refine lv_iload_n hx hb dX11_softest_4 rfl (lv_at hl 1 rfl) ?_
  refine call_VN (As := [.int p1]) (rest := []) (wr := [(h0, .inr (11, [.ref rd0, .ref d0, .ref im0, .ref ig0, .ref rw0, .ref we0, .ref mi0, .ref re0, .ref pl0, .ref ri0, .ref le0])), (dr1, .inl (g.2 0, 32, .inl dthoughts)), (dr0, .inl (g.2 0, 8, .inl dgrades)), (dr5, .inl (g.2 0, 8, .inl dmeanings))]) FC hKn hZ (k_X0_hasHearer l g d0 dr0 dr1 dr2 dr3 dr4 dr5 dr6 dr7 dr8 dr9 dstates dreally ddays dheal dleak dlines dhearers dwords dplans dnews p1 (by omega) (by omega) (by omega) (by omega) (by omega) (by omega) (by omega)) m_yX0_hasHearer b_316 (ci := 0) rfl rfl rfl hP hD hS hA [1] [0, 2, 3, 4] rfl (by decide) rfl (by decide) (by decide) rfl hl.1 rfl (Nat.le_of_ble_eq_true rfl) dX11_softest_5 ⟨(Nat.le_of_ble_eq_true rfl), (Nat.le_of_ble_eq_true rfl)⟩ ⟨(Nat.le_of_ble_eq_true rfl), (Nat.le_of_ble_eq_true rfl)⟩ (fun u1 H locs q2 hP hD hS => ?_)
  obtain ⟨q2_0, q2_1⟩ := q2
  have hP : va_P g.1 vwCl [(h0, .inr (11, [.ref rd0, .ref d0, .ref im0, .ref ig0, .ref rw0, .ref we0, .ref mi0, .ref re0, .ref pl0, .ref ri0, .ref le0])), (dr1, .inl (g.2 0, 32, .inl dthoughts)), (dr0, .inl (g.2 0, 8, .inl dgrades)), (dr5, .inl (g.2 0, 8, .inl dmeanings)), (d0, .inr (0, [.int dstates, .int dreally, .int ddays, .int dheal, .int dleak, .int dlines, .int dhearers, .int dwords, .int dplans, .int dnews, .ref dr0, .ref dr1, .ref dr2, .ref dr3, .ref dr4, .ref dr5, .ref dr6, .ref dr7, .ref dr8, .ref dr9]))] H := hP
  have hD : va_D A [(h0, .inr (11, [.ref rd0, .ref d0, .ref im0, .ref ig0, .ref rw0, .ref we0, .ref mi0, .ref re0, .ref pl0, .ref ri0, .ref le0])), (dr1, .inl (g.2 0, 32, .inl dthoughts)), (dr0, .inl (g.2 0, 8, .inl dgrades)), (dr5, .inl (g.2 0, 8, .inl dmeanings)), (d0, .inr (0, [.int dstates, .int dreally, .int ddays, .int dheal, .int dleak, .int dlines, .int dhearers, .int dwords, .int dplans, .int dnews, .ref dr0, .ref dr1, .ref dr2, .ref dr3, .ref dr4, .ref dr5, .ref dr6, .ref dr7, .ref dr8, .ref dr9]))] := hD
  refine W.eq (g2 := F0 m 8 ls [.int (u1.1 0)]) rfl ?_
  rcases (show (u1.1 0).toInt = 0 ∨ (u1.1 0).toInt = 1 by omega) with c3 | c3
  · skip
    refine lv_if_eq (tgt := 22) hx hb dX11_softest_8 (by decide) (fun c4 => ?_) (fun c4 => ?_)
    · have c4 := k_eq (a := (u1.1 0).toInt) (b := 0) rfl (by decide) c4
      refine lv_bipush (v := -2) hx hb dX11_softest_22 (by decide) ?_
      exact rt_i FX ((fun k => match k with | 0 => (-2 : Int32) | _ => 0), (fun _ => fun _ => 0), (fun _ => fun _ => 0)) rfl trivial (hP.sub [0, 4, 1, 2, 3] rfl) (hD.sub [0, 4, 1, 2, 3] (by decide) rfl) hS (Nat.le_of_ble_eq_true rfl) (Nat.le_of_ble_eq_true rfl) dX11_softest_24
    · have c4 := k_ne (a := (u1.1 0).toInt) (b := 0) rfl (by decide) c4
      exfalso; omega
  · have c3_r := q2_1 c3
    refine lv_if_eq (tgt := 22) hx hb dX11_softest_8 (by decide) (fun c5 => ?_) (fun c5 => ?_)
    · have c5 := k_eq (a := (u1.1 0).toInt) (b := 0) rfl (by decide) c5
      exfalso; omega
    · have c5 := k_ne (a := (u1.1 0).toInt) (b := 0) rfl (by decide) c5
      refine lv_aload_n hx hb dX11_softest_11 rfl (lv_at hl 0 rfl) ?_
      refine g_get (C := RX11) (T := TX11) (N := 11) (ci := 11) (v := .ref d0) FC hKn hP i_X11 0 rfl rfl 1 (by decide) b_310 rfl dX11_softest_12 ?_
      refine lv_iload_n hx hb dX11_softest_15 rfl (lv_at hl 2 rfl) ?_
      refine call_VN (As := [.int p2]) (rest := []) (wr := [(h0, .inr (11, [.ref rd0, .ref d0, .ref im0, .ref ig0, .ref rw0, .ref we0, .ref mi0, .ref re0, .ref pl0, .ref ri0, .ref le0])), (dr1, .inl (g.2 0, 32, .inl dthoughts)), (dr0, .inl (g.2 0, 8, .inl dgrades)), (dr5, .inl (g.2 0, 8, .inl dmeanings))]) FC hKn hZ (k_X0_hasBelief l g d0 dr0 dr1 dr2 dr3 dr4 dr5 dr6 dr7 dr8 dr9 dstates dreally ddays dheal dleak dlines dhearers dwords dplans dnews p2 (by omega) (by omega) (by omega) (by omega) (by omega) (by omega) (by omega)) m_yX0_hasBelief b_401 (ci := 0) rfl rfl rfl hP hD hS hA [4] [0, 1, 2, 3] rfl (by decide) rfl (by decide) (by decide) rfl hl.1 rfl (Nat.le_of_ble_eq_true rfl) dX11_softest_16 ⟨(Nat.le_of_ble_eq_true rfl), (Nat.le_of_ble_eq_true rfl)⟩ ⟨(Nat.le_of_ble_eq_true rfl), (Nat.le_of_ble_eq_true rfl)⟩ (fun u6 H locs q7 hP hD hS => ?_)
      obtain ⟨q7_0, q7_1⟩ := q7
      have hP : va_P g.1 vwCl [(h0, .inr (11, [.ref rd0, .ref d0, .ref im0, .ref ig0, .ref rw0, .ref we0, .ref mi0, .ref re0, .ref pl0, .ref ri0, .ref le0])), (dr1, .inl (g.2 0, 32, .inl dthoughts)), (dr0, .inl (g.2 0, 8, .inl dgrades)), (dr5, .inl (g.2 0, 8, .inl dmeanings)), (d0, .inr (0, [.int dstates, .int dreally, .int ddays, .int dheal, .int dleak, .int dlines, .int dhearers, .int dwords, .int dplans, .int dnews, .ref dr0, .ref dr1, .ref dr2, .ref dr3, .ref dr4, .ref dr5, .ref dr6, .ref dr7, .ref dr8, .ref dr9]))] H := hP
      have hD : va_D A [(h0, .inr (11, [.ref rd0, .ref d0, .ref im0, .ref ig0, .ref rw0, .ref we0, .ref mi0, .ref re0, .ref pl0, .ref ri0, .ref le0])), (dr1, .inl (g.2 0, 32, .inl dthoughts)), (dr0, .inl (g.2 0, 8, .inl dgrades)), (dr5, .inl (g.2 0, 8, .inl dmeanings)), (d0, .inr (0, [.int dstates, .int dreally, .int ddays, .int dheal, .int dleak, .int dlines, .int dhearers, .int dwords, .int dplans, .int dnews, .ref dr0, .ref dr1, .ref dr2, .ref dr3, .ref dr4, .ref dr5, .ref dr6, .ref dr7, .ref dr8, .ref dr9]))] := hD
      refine W.eq (g2 := F0 m 19 ls [.int (u6.1 0)]) rfl ?_
      rcases (show (u6.1 0).toInt = 0 ∨ (u6.1 0).toInt = 1 by omega) with c8 | c8
      · skip
        refine lv_if_ne (tgt := 25) hx hb dX11_softest_19 (by decide) (fun c9 => ?_) (fun c9 => ?_)
        · have c9 := k_ne (a := (u6.1 0).toInt) (b := 0) rfl (by decide) c9
          exfalso; omega
        · have c9 := k_eq (a := (u6.1 0).toInt) (b := 0) rfl (by decide) c9
          refine lv_bipush (v := -2) hx hb dX11_softest_22 (by decide) ?_
          exact rt_i FX ((fun k => match k with | 0 => (-2 : Int32) | _ => 0), (fun _ => fun _ => 0), (fun _ => fun _ => 0)) rfl trivial (hP.sub [0, 4, 1, 2, 3] rfl) (hD.sub [0, 4, 1, 2, 3] (by decide) rfl) hS (Nat.le_of_ble_eq_true rfl) (Nat.le_of_ble_eq_true rfl) dX11_softest_24
      · have c8_r := q7_1 c8
        refine lv_if_ne (tgt := 25) hx hb dX11_softest_19 (by decide) (fun c10 => ?_) (fun c10 => ?_)
        · have c10 := k_ne (a := (u6.1 0).toInt) (b := 0) rfl (by decide) c10
          refine lv_iconst (v := -1) hx hb dX11_softest_25 (by decide) ?_
          refine lv_istore_n (lv' := [(3, .int (-1)), (0, .ref h0), (1, .int p1), (2, .int p2)]) hx hb dX11_softest_26 rfl hl (by decide) rfl (fun ls hl => ?_)
          refine lv_ldc hx hb hown (hB _ b_407) dX11_softest_27 ?_
          refine lv_istore (lv' := [(4, .int 1000000000), (3, .int (-1)), (0, .ref h0), (1, .int p1), (2, .int p2)]) hx hb dX11_softest_29 hl (by decide) rfl (fun ls hl => ?_)
          refine lv_iconst (v := 0) hx hb dX11_softest_31 (by decide) ?_
          refine lv_istore (lv' := [(5, .int 0), (4, .int 1000000000), (3, .int (-1)), (0, .ref h0), (1, .int p1), (2, .int p2)]) hx hb dX11_softest_32 hl (by decide) rfl (fun ls hl => ?_)
          have lp97 : ∀ (n99 : Nat) (x94 : Int32) (x95 : Int32) (x96 : Int32) (H : Heap) (locs : List Loc) (ls : Array Slot), 0 ≤ x94.toInt ∧ x94.toInt ≤ 8 → x95.toInt ≤ 1000000000 → -1 ≤ x96.toInt → (8 - x94.toInt).toNat < n99 → va_P g.1 vwCl [(h0, .inr (11, [.ref rd0, .ref d0, .ref im0, .ref ig0, .ref rw0, .ref we0, .ref mi0, .ref re0, .ref pl0, .ref ri0, .ref le0])), (dr1, .inl (g.2 0, 32, .inl dthoughts)), (dr0, .inl (g.2 0, 8, .inl dgrades)), (dr5, .inl (g.2 0, 8, .inl dmeanings)), (d0, .inr (0, [.int dstates, .int dreally, .int ddays, .int dheal, .int dleak, .int dlines, .int dhearers, .int dwords, .int dplans, .int dnews, .ref dr0, .ref dr1, .ref dr2, .ref dr3, .ref dr4, .ref dr5, .ref dr6, .ref dr7, .ref dr8, .ref dr9]))] H → va_D A [(h0, .inr (11, [.ref rd0, .ref d0, .ref im0, .ref ig0, .ref rw0, .ref we0, .ref mi0, .ref re0, .ref pl0, .ref ri0, .ref le0])), (dr1, .inl (g.2 0, 32, .inl dthoughts)), (dr0, .inl (g.2 0, 8, .inl dgrades)), (dr5, .inl (g.2 0, 8, .inl dmeanings)), (d0, .inr (0, [.int dstates, .int dreally, .int ddays, .int dheal, .int dleak, .int dlines, .int dhearers, .int dwords, .int dplans, .int dnews, .ref dr0, .ref dr1, .ref dr2, .ref dr3, .ref dr4, .ref dr5, .ref dr6, .ref dr7, .ref dr8, .ref dr9]))] → va_S A s.heap H locs → lv_has ls 7 [(5, .int x94), (4, .int x95), (3, .int x96), (0, .ref h0), (1, .int p1), (2, .int p2)] → W p l e { frames := 3, cells := 0, slots := 0, locals := 73 } s m ([.ref h0, .int p1, .int p2].toArray) below meth c H locs 0 0 (MQ below (QX (S := (Nat → Int32) × (Nat → Nat → Int32) × (Nat → Nat → Int64)) (fun u => some (.int (u.1 0))) (fun u => True) g (fun u => [(h0, .inr (11, [.ref rd0, .ref d0, .ref im0, .ref ig0, .ref rw0, .ref we0, .ref mi0, .ref re0, .ref pl0, .ref ri0, .ref le0])), (d0, .inr (0, [.int dstates, .int dreally, .int ddays, .int dheal, .int dleak, .int dlines, .int dhearers, .int dwords, .int dplans, .int dnews, .ref dr0, .ref dr1, .ref dr2, .ref dr3, .ref dr4, .ref dr5, .ref dr6, .ref dr7, .ref dr8, .ref dr9])), (dr1, .inl (g.2 0, 32, .inl dthoughts)), (dr0, .inl (g.2 0, 8, .inl dgrades)), (dr5, .inl (g.2 0, 8, .inl dmeanings))]) A) ([.ref h0, .int p1, .int p2].toArray) s 0 0 A) (F0 m 34 ls []) := by
            intro n99
            induction n99 with
            | zero =>
              intro x94 x95 x96 H locs ls h_x94 h_x95 h_x96 hn100
              exact absurd hn100 (Nat.not_lt_zero _)
            | succ n99 ih98 =>
              intro x94 x95 x96 H locs ls h_x94 h_x95 h_x96 hn100 hP hD hS hl
              refine lv_iload hx hb dX11_softest_34 (lv_at hl 0 rfl) ?_
              refine lv_aload_n hx hb dX11_softest_36 rfl (lv_at hl 3 rfl) ?_
              refine g_get (C := RX11) (T := TX11) (N := 11) (ci := 11) (v := .ref d0) FC hKn hP i_X11 0 rfl rfl 1 (by decide) b_310 rfl dX11_softest_37 ?_
              refine g_getN (C := RX0) (T := TX0) (N := 20) (ci := 0) (v := .int dwords) FC hKn hP i_X0 4 rfl rfl 7 (by decide) b_408 rfl dX11_softest_40 ?_
              refine lv_icmp_ge (tgt := 87) hx hb dX11_softest_43 (by decide) (fun c101 => ?_) (fun c101 => ?_)
              · have c101 := k_le (a := dwords.toInt) (b := x94.toInt) rfl rfl c101
                refine lv_iload_n hx hb dX11_softest_87 rfl (lv_at hl 2 rfl) ?_
                exact rt_i FX ((fun k => match k with | 0 => x96 | _ => 0), (fun _ => fun _ => 0), (fun _ => fun _ => 0)) rfl trivial (hP.sub [0, 4, 1, 2, 3] rfl) (hD.sub [0, 4, 1, 2, 3] (by decide) rfl) hS (Nat.le_of_ble_eq_true rfl) (Nat.le_of_ble_eq_true rfl) dX11_softest_88
              · have c101 := k_nle (a := dwords.toInt) (b := x94.toInt) rfl rfl c101
                refine lv_aload_n hx hb dX11_softest_46 rfl (lv_at hl 3 rfl) ?_
                refine g_get (C := RX11) (T := TX11) (N := 11) (ci := 11) (v := .ref d0) FC hKn hP i_X11 0 rfl rfl 1 (by decide) b_310 rfl dX11_softest_47 ?_
                refine lv_iload_n hx hb dX11_softest_50 rfl (lv_at hl 4 rfl) ?_
                refine lv_iload_n hx hb dX11_softest_51 rfl (lv_at hl 5 rfl) ?_
                refine lv_aload_n hx hb dX11_softest_52 rfl (lv_at hl 3 rfl) ?_
                refine g_get (C := RX11) (T := TX11) (N := 11) (ci := 11) (v := .ref d0) FC hKn hP i_X11 0 rfl rfl 1 (by decide) b_310 rfl dX11_softest_53 ?_
                refine lv_iload_n hx hb dX11_softest_56 rfl (lv_at hl 5 rfl) ?_
                refine lv_iload hx hb dX11_softest_57 (lv_at hl 0 rfl) ?_
                refine call_VN (As := [.int p2, .int x94]) (rest := [.int p2, .int p1, .ref d0]) (wr := [(h0, .inr (11, [.ref rd0, .ref d0, .ref im0, .ref ig0, .ref rw0, .ref we0, .ref mi0, .ref re0, .ref pl0, .ref ri0, .ref le0])), (dr1, .inl (g.2 0, 32, .inl dthoughts)), (dr0, .inl (g.2 0, 8, .inl dgrades))]) FC hKn hZ (k_X0_nextBelief l g d0 dr0 dr1 dr2 dr3 dr4 dr5 dr6 dr7 dr8 dr9 dstates dreally ddays dheal dleak dlines dhearers dwords dplans dnews dmeanings p2 x94 (by omega) (by omega) (by omega) (by omega) (by omega) (by omega) (by omega) i_dmeanings (by omega)) m_yX0_nextBelief b_405 (ci := 0) rfl rfl rfl hP hD hS hA [4, 3] [0, 1, 2] rfl (by decide) rfl (by decide) (by decide) rfl hl.1 rfl (Nat.le_of_ble_eq_true rfl) dX11_softest_59 ⟨(Nat.le_of_ble_eq_true rfl), (Nat.le_of_ble_eq_true rfl)⟩ ⟨(Nat.le_of_ble_eq_true rfl), (Nat.le_of_ble_eq_true rfl)⟩ (fun u102 H locs q103 hP hD hS => ?_)
                have q103_0 : 0 ≤ (u102.1 0).toInt ∧ (u102.1 0).toInt ≤ 255 := q103
                have hP : va_P g.1 vwCl [(h0, .inr (11, [.ref rd0, .ref d0, .ref im0, .ref ig0, .ref rw0, .ref we0, .ref mi0, .ref re0, .ref pl0, .ref ri0, .ref le0])), (dr1, .inl (g.2 0, 32, .inl dthoughts)), (dr0, .inl (g.2 0, 8, .inl dgrades)), (d0, .inr (0, [.int dstates, .int dreally, .int ddays, .int dheal, .int dleak, .int dlines, .int dhearers, .int dwords, .int dplans, .int dnews, .ref dr0, .ref dr1, .ref dr2, .ref dr3, .ref dr4, .ref dr5, .ref dr6, .ref dr7, .ref dr8, .ref dr9])), (dr5, .inl (g.2 0, 8, .inl dmeanings))] H := hP
                have hD : va_D A [(h0, .inr (11, [.ref rd0, .ref d0, .ref im0, .ref ig0, .ref rw0, .ref we0, .ref mi0, .ref re0, .ref pl0, .ref ri0, .ref le0])), (dr1, .inl (g.2 0, 32, .inl dthoughts)), (dr0, .inl (g.2 0, 8, .inl dgrades)), (d0, .inr (0, [.int dstates, .int dreally, .int ddays, .int dheal, .int dleak, .int dlines, .int dhearers, .int dwords, .int dplans, .int dnews, .ref dr0, .ref dr1, .ref dr2, .ref dr3, .ref dr4, .ref dr5, .ref dr6, .ref dr7, .ref dr8, .ref dr9])), (dr5, .inl (g.2 0, 8, .inl dmeanings))] := hD
                refine W.eq (g2 := F0 m 62 ls [.int (u102.1 0), .int p2, .int p1, .ref d0]) rfl ?_
                refine call_VN (As := [.int p1, .int p2, .int (u102.1 0)]) (rest := []) (wr := [(h0, .inr (11, [.ref rd0, .ref d0, .ref im0, .ref ig0, .ref rw0, .ref we0, .ref mi0, .ref re0, .ref pl0, .ref ri0, .ref le0])), (dr5, .inl (g.2 0, 8, .inl dmeanings))]) FC hKn hZ (k_X0_hurtBetween l g d0 dr0 dr1 dr2 dr3 dr4 dr5 dr6 dr7 dr8 dr9 dstates dreally ddays dheal dleak dlines dhearers dwords dplans dnews dthoughts dgrades p1 p2 (u102.1 0) (by omega) (by omega) (by omega) (by omega) (by omega) (by omega) (by omega) (by omega)) m_yX0_hurtBetween b_406 (ci := 0) rfl rfl rfl hP hD hS hA [3, 1, 2] [0, 4] rfl (by decide) rfl (by decide) (by decide) rfl hl.1 rfl (Nat.le_of_ble_eq_true rfl) dX11_softest_62 ⟨(Nat.le_of_ble_eq_true rfl), (Nat.le_of_ble_eq_true rfl)⟩ ⟨(Nat.le_of_ble_eq_true rfl), (Nat.le_of_ble_eq_true rfl)⟩ (fun u104 H locs q105 hP hD hS => ?_)
                have hP : va_P g.1 vwCl [(h0, .inr (11, [.ref rd0, .ref d0, .ref im0, .ref ig0, .ref rw0, .ref we0, .ref mi0, .ref re0, .ref pl0, .ref ri0, .ref le0])), (dr5, .inl (g.2 0, 8, .inl dmeanings)), (d0, .inr (0, [.int dstates, .int dreally, .int ddays, .int dheal, .int dleak, .int dlines, .int dhearers, .int dwords, .int dplans, .int dnews, .ref dr0, .ref dr1, .ref dr2, .ref dr3, .ref dr4, .ref dr5, .ref dr6, .ref dr7, .ref dr8, .ref dr9])), (dr1, .inl (g.2 0, 32, .inl dthoughts)), (dr0, .inl (g.2 0, 8, .inl dgrades))] H := hP
                have hD : va_D A [(h0, .inr (11, [.ref rd0, .ref d0, .ref im0, .ref ig0, .ref rw0, .ref we0, .ref mi0, .ref re0, .ref pl0, .ref ri0, .ref le0])), (dr5, .inl (g.2 0, 8, .inl dmeanings)), (d0, .inr (0, [.int dstates, .int dreally, .int ddays, .int dheal, .int dleak, .int dlines, .int dhearers, .int dwords, .int dplans, .int dnews, .ref dr0, .ref dr1, .ref dr2, .ref dr3, .ref dr4, .ref dr5, .ref dr6, .ref dr7, .ref dr8, .ref dr9])), (dr1, .inl (g.2 0, 32, .inl dthoughts)), (dr0, .inl (g.2 0, 8, .inl dgrades))] := hD
                refine W.eq (g2 := F0 m 65 ls [.int (u104.1 0)]) rfl ?_
                refine lv_istore (lv' := [(6, .int (u104.1 0)), (5, .int x94), (4, .int x95), (3, .int x96), (0, .ref h0), (1, .int p1), (2, .int p2)]) hx hb dX11_softest_65 hl (by decide) rfl (fun ls hl => ?_)
                refine lv_iload hx hb dX11_softest_67 (lv_at hl 0 rfl) ?_
                refine lv_iload hx hb dX11_softest_69 (lv_at hl 2 rfl) ?_
                refine lv_icmp_ge (tgt := 81) hx hb dX11_softest_71 (by decide) (fun c106 => ?_) (fun c106 => ?_)
                · have c106 := k_le (a := x95.toInt) (b := (u104.1 0).toInt) rfl rfl c106
                  obtain ⟨z107, e_z107⟩ : ∃ y : Int32, y = x94 + 1 := ⟨_, rfl⟩
                  have t_z107 : z107.toInt = x94.toInt + 1 := by rw [e_z107]; exact addk (by decide) (by omega) (by omega)
                  refine lv_iinc (v := z107) (lv' := [(5, .int z107), (6, .int (u104.1 0)), (4, .int x95), (3, .int x96), (0, .ref h0), (1, .int p1), (2, .int p2)]) hx hb dX11_softest_81 hl (k := 1) rfl (by rw [e_z107]; rfl) (by decide) rfl (fun ls hl => ?_)
                  refine lv_goto (tgt := 34) hx hb dX11_softest_84 (by decide) ?_
                  exact ih98 z107 x95 x96 _ _ ls (by omega) (by omega) (by omega) (by omega) (hP.sub [0, 3, 4, 1, 2] rfl) (hD.sub [0, 3, 4, 1, 2] (by decide) rfl) hS (lv_sub hl [0, 2, 3, 4, 5, 6] rfl)
                · have c106 := k_nle (a := x95.toInt) (b := (u104.1 0).toInt) rfl rfl c106
                  refine lv_iload hx hb dX11_softest_74 (lv_at hl 0 rfl) ?_
                  refine lv_istore (lv' := [(4, .int (u104.1 0)), (6, .int (u104.1 0)), (5, .int x94), (3, .int x96), (0, .ref h0), (1, .int p1), (2, .int p2)]) hx hb dX11_softest_76 hl (by decide) rfl (fun ls hl => ?_)
                  refine lv_iload hx hb dX11_softest_78 (lv_at hl 2 rfl) ?_
                  refine lv_istore_n (lv' := [(3, .int x94), (4, .int (u104.1 0)), (6, .int (u104.1 0)), (5, .int x94), (0, .ref h0), (1, .int p1), (2, .int p2)]) hx hb dX11_softest_80 rfl hl (by decide) rfl (fun ls hl => ?_)
                  obtain ⟨z108, e_z108⟩ : ∃ y : Int32, y = x94 + 1 := ⟨_, rfl⟩
                  have t_z108 : z108.toInt = x94.toInt + 1 := by rw [e_z108]; exact addk (by decide) (by omega) (by omega)
                  refine lv_iinc (v := z108) (lv' := [(5, .int z108), (3, .int x94), (4, .int (u104.1 0)), (6, .int (u104.1 0)), (0, .ref h0), (1, .int p1), (2, .int p2)]) hx hb dX11_softest_81 hl (k := 3) rfl (by rw [e_z108]; rfl) (by decide) rfl (fun ls hl => ?_)
                  refine lv_goto (tgt := 34) hx hb dX11_softest_84 (by decide) ?_
                  exact ih98 z108 (u104.1 0) x94 _ _ ls (by omega) (by omega) (by omega) (by omega) (hP.sub [0, 3, 4, 1, 2] rfl) (hD.sub [0, 3, 4, 1, 2] (by decide) rfl) hS (lv_sub hl [0, 2, 1, 4, 5, 6] rfl)
          have kc0 : (0 : Int32).toInt = 0 := by decide
          have kc1000000000 : (1000000000 : Int32).toInt = 1000000000 := by decide
          have kcm1 : (-1 : Int32).toInt = -1 := by decide
          exact lp97 _ (0 : Int32) (1000000000 : Int32) (-1 : Int32) _ _ ls (by decide) (by decide) (by decide) (Nat.lt_succ_self _) hP hD hS (lv_sub hl [0, 1, 2, 3, 4, 5] rfl)
        · have c10 := k_eq (a := (u6.1 0).toInt) (b := 0) rfl (by decide) c10
          exfalso; omega
set_option maxRecDepth 100000 in
set_option maxHeartbeats 4000000 in
theorem k_X11_once (l : Launch) (g : GG) (h0 : Nat) (rd0 : Nat) (d0 : Nat) (im0 : Nat) (ig0 : Nat) (rw0 : Nat) (we0 : Nat) (mi0 : Nat) (re0 : Nat) (pl0 : Nat) (ri0 : Nat) (le0 : Nat) (dr0 : Nat) (dr1 : Nat) (dr2 : Nat) (dr3 : Nat) (dr4 : Nat) (dr5 : Nat) (dr6 : Nat) (dr7 : Nat) (dr8 : Nat) (dr9 : Nat) (dstates : Int32) (dreally : Int32) (ddays : Int32) (dheal : Int32) (dleak : Int32) (dlines : Int32) (dhearers : Int32) (dwords : Int32) (dplans : Int32) (dnews : Int32) (dthoughts : Nat → Int32) (dgrades : Nat → Int32) (p1 : Int32) (i_dstates : 0 ≤ dstates.toInt ∧ dstates.toInt ≤ 8) (i_dreally : 0 ≤ dreally.toInt ∧ dreally.toInt ≤ 7) (i_ddays : 0 ≤ ddays.toInt ∧ ddays.toInt ≤ 10) (i_dhearers : 0 ≤ dhearers.toInt ∧ dhearers.toInt ≤ 4) (i_dwords : 0 ≤ dwords.toInt ∧ dwords.toInt ≤ 8) (i_dplans : 0 ≤ dplans.toInt ∧ dplans.toInt ≤ 4) (i_dnews : 0 ≤ dnews.toInt ∧ dnews.toInt ≤ 6) : Ct l g yX11_once cX11_once 2 (some .int) { frames := 4, cells := 0, slots := 0, locals := 94 } [.ref h0, .int p1] [(h0, .inr (11, [.ref rd0, .ref d0, .ref im0, .ref ig0, .ref rw0, .ref we0, .ref mi0, .ref re0, .ref pl0, .ref ri0, .ref le0])), (d0, .inr (0, [.int dstates, .int dreally, .int ddays, .int dheal, .int dleak, .int dlines, .int dhearers, .int dwords, .int dplans, .int dnews, .ref dr0, .ref dr1, .ref dr2, .ref dr3, .ref dr4, .ref dr5, .ref dr6, .ref dr7, .ref dr8, .ref dr9])), (dr1, .inl (g.2 0, 32, .inl dthoughts)), (dr0, .inl (g.2 0, 8, .inl dgrades))] (S := (Nat → Int32) × (Nat → Nat → Int32) × (Nat → Nat → Int64)) (fun u => some (.int (u.1 0))) (fun u => True) (fun u => [(h0, .inr (11, [.ref rd0, .ref d0, .ref im0, .ref ig0, .ref rw0, .ref we0, .ref mi0, .ref re0, .ref pl0, .ref ri0, .ref le0])), (d0, .inr (0, [.int dstates, .int dreally, .int ddays, .int dheal, .int dleak, .int dlines, .int dhearers, .int dwords, .int dplans, .int dnews, .ref dr0, .ref dr1, .ref dr2, .ref dr3, .ref dr4, .ref dr5, .ref dr6, .ref dr7, .ref dr8, .ref dr9])), (dr1, .inl (g.2 0, 32, .inl dthoughts)), (dr0, .inl (g.2 0, 8, .inl dgrades))]) := by
  refine Ct.of (by decide) (Nat.le_of_ble_eq_true rfl) ?_
  intro p e s m below meth c A ls FX hP hD hS hl
  obtain ⟨FC, hr, hlk, hKn, hA, hnm, hZ⟩ := id FX
  have FC : CallFix p m c cX11_once 2 s _ BIG RX11 := FC
  obtain ⟨hx, hb, hml, hown, hB⟩ := id FC
  have hl : lv_has ls 2 [(0, .ref h0), (1, .int p1)] := hl
  refine lv_aload_n hx hb dX11_once_0 rfl (lv_at hl 0 rfl) ?_
  refine g_get (C := RX11) (T := TX11) (N := 11) (ci := 11) (v := .ref d0) FC hKn hP i_X11 0 rfl rfl 1 (by decide) b_310 rfl dX11_once_1 ?_
  refine lv_iload_n hx hb dX11_once_4 rfl (lv_at hl 1 rfl) ?_
  refine call_VN (As := [.int p1]) (rest := []) (wr := [(h0, .inr (11, [.ref rd0, .ref d0, .ref im0, .ref ig0, .ref rw0, .ref we0, .ref mi0, .ref re0, .ref pl0, .ref ri0, .ref le0])), (dr1, .inl (g.2 0, 32, .inl dthoughts)), (dr0, .inl (g.2 0, 8, .inl dgrades))]) FC hKn hZ (k_X0_hasHearer l g d0 dr0 dr1 dr2 dr3 dr4 dr5 dr6 dr7 dr8 dr9 dstates dreally ddays dheal dleak dlines dhearers dwords dplans dnews p1 (by omega) (by omega) (by omega) (by omega) (by omega) (by omega) (by omega)) m_yX0_hasHearer b_316 (ci := 0) rfl rfl rfl hP hD hS hA [1] [0, 2, 3] rfl (by decide) rfl (by decide) (by decide) rfl hl.1 rfl (Nat.le_of_ble_eq_true rfl) dX11_once_5 ⟨(Nat.le_of_ble_eq_true rfl), (Nat.le_of_ble_eq_true rfl)⟩ ⟨(Nat.le_of_ble_eq_true rfl), (Nat.le_of_ble_eq_true rfl)⟩ (fun u1 H locs q2 hP hD hS => ?_)
  obtain ⟨q2_0, q2_1⟩ := q2
  have hP : va_P g.1 vwCl [(h0, .inr (11, [.ref rd0, .ref d0, .ref im0, .ref ig0, .ref rw0, .ref we0, .ref mi0, .ref re0, .ref pl0, .ref ri0, .ref le0])), (dr1, .inl (g.2 0, 32, .inl dthoughts)), (dr0, .inl (g.2 0, 8, .inl dgrades)), (d0, .inr (0, [.int dstates, .int dreally, .int ddays, .int dheal, .int dleak, .int dlines, .int dhearers, .int dwords, .int dplans, .int dnews, .ref dr0, .ref dr1, .ref dr2, .ref dr3, .ref dr4, .ref dr5, .ref dr6, .ref dr7, .ref dr8, .ref dr9]))] H := hP
  have hD : va_D A [(h0, .inr (11, [.ref rd0, .ref d0, .ref im0, .ref ig0, .ref rw0, .ref we0, .ref mi0, .ref re0, .ref pl0, .ref ri0, .ref le0])), (dr1, .inl (g.2 0, 32, .inl dthoughts)), (dr0, .inl (g.2 0, 8, .inl dgrades)), (d0, .inr (0, [.int dstates, .int dreally, .int ddays, .int dheal, .int dleak, .int dlines, .int dhearers, .int dwords, .int dplans, .int dnews, .ref dr0, .ref dr1, .ref dr2, .ref dr3, .ref dr4, .ref dr5, .ref dr6, .ref dr7, .ref dr8, .ref dr9]))] := hD
  refine W.eq (g2 := F0 m 8 ls [.int (u1.1 0)]) rfl ?_
  rcases (show (u1.1 0).toInt = 0 ∨ (u1.1 0).toInt = 1 by omega) with c3 | c3
  · skip
    refine lv_if_eq (tgt := 22) hx hb dX11_once_8 (by decide) (fun c4 => ?_) (fun c4 => ?_)
    · have c4 := k_eq (a := (u1.1 0).toInt) (b := 0) rfl (by decide) c4
      refine lv_bipush (v := -2) hx hb dX11_once_22 (by decide) ?_
      exact rt_i FX ((fun k => match k with | 0 => (-2 : Int32) | _ => 0), (fun _ => fun _ => 0), (fun _ => fun _ => 0)) rfl trivial (hP.sub [0, 3, 1, 2] rfl) (hD.sub [0, 3, 1, 2] (by decide) rfl) hS (Nat.le_of_ble_eq_true rfl) (Nat.le_of_ble_eq_true rfl) dX11_once_24
    · have c4 := k_ne (a := (u1.1 0).toInt) (b := 0) rfl (by decide) c4
      exfalso; omega
  · have c3_r := q2_1 c3
    refine lv_if_eq (tgt := 22) hx hb dX11_once_8 (by decide) (fun c5 => ?_) (fun c5 => ?_)
    · have c5 := k_eq (a := (u1.1 0).toInt) (b := 0) rfl (by decide) c5
      exfalso; omega
    · have c5 := k_ne (a := (u1.1 0).toInt) (b := 0) rfl (by decide) c5
      refine lv_aload_n hx hb dX11_once_11 rfl (lv_at hl 0 rfl) ?_
      refine g_get (C := RX11) (T := TX11) (N := 11) (ci := 11) (v := .ref d0) FC hKn hP i_X11 0 rfl rfl 1 (by decide) b_310 rfl dX11_once_12 ?_
      refine lv_iload_n hx hb dX11_once_15 rfl (lv_at hl 1 rfl) ?_
      refine call_VN (As := [.int p1]) (rest := []) (wr := [(h0, .inr (11, [.ref rd0, .ref d0, .ref im0, .ref ig0, .ref rw0, .ref we0, .ref mi0, .ref re0, .ref pl0, .ref ri0, .ref le0]))]) FC hKn hZ (k_X0_hurtAtOnce l g d0 dr0 dr1 dr2 dr3 dr4 dr5 dr6 dr7 dr8 dr9 dstates dreally ddays dheal dleak dlines dhearers dwords dplans dnews dthoughts dgrades p1 (by omega) (by omega) (by omega) (by omega) (by omega) (by omega) (by omega) (by omega)) m_yX0_hurtAtOnce b_409 (ci := 0) rfl rfl rfl hP hD hS hA [3, 1, 2] [0] rfl (by decide) rfl (by decide) (by decide) rfl hl.1 rfl (Nat.le_of_ble_eq_true rfl) dX11_once_16 ⟨(Nat.le_of_ble_eq_true rfl), (Nat.le_of_ble_eq_true rfl)⟩ ⟨(Nat.le_of_ble_eq_true rfl), (Nat.le_of_ble_eq_true rfl)⟩ (fun u6 H locs q7 hP hD hS => ?_)
      have hP : va_P g.1 vwCl [(h0, .inr (11, [.ref rd0, .ref d0, .ref im0, .ref ig0, .ref rw0, .ref we0, .ref mi0, .ref re0, .ref pl0, .ref ri0, .ref le0])), (d0, .inr (0, [.int dstates, .int dreally, .int ddays, .int dheal, .int dleak, .int dlines, .int dhearers, .int dwords, .int dplans, .int dnews, .ref dr0, .ref dr1, .ref dr2, .ref dr3, .ref dr4, .ref dr5, .ref dr6, .ref dr7, .ref dr8, .ref dr9])), (dr1, .inl (g.2 0, 32, .inl dthoughts)), (dr0, .inl (g.2 0, 8, .inl dgrades))] H := hP
      have hD : va_D A [(h0, .inr (11, [.ref rd0, .ref d0, .ref im0, .ref ig0, .ref rw0, .ref we0, .ref mi0, .ref re0, .ref pl0, .ref ri0, .ref le0])), (d0, .inr (0, [.int dstates, .int dreally, .int ddays, .int dheal, .int dleak, .int dlines, .int dhearers, .int dwords, .int dplans, .int dnews, .ref dr0, .ref dr1, .ref dr2, .ref dr3, .ref dr4, .ref dr5, .ref dr6, .ref dr7, .ref dr8, .ref dr9])), (dr1, .inl (g.2 0, 32, .inl dthoughts)), (dr0, .inl (g.2 0, 8, .inl dgrades))] := hD
      refine W.eq (g2 := F0 m 19 ls [.int (u6.1 0)]) rfl ?_
      refine lv_goto (tgt := 24) hx hb dX11_once_19 (by decide) ?_
      exact rt_i FX ((fun k => match k with | 0 => u6.1 0 | _ => 0), (fun _ => fun _ => 0), (fun _ => fun _ => 0)) rfl trivial (hP.sub [0, 1, 2, 3] rfl) (hD.sub [0, 1, 2, 3] (by decide) rfl) hS (Nat.le_of_ble_eq_true rfl) (Nat.le_of_ble_eq_true rfl) dX11_once_24
set_option maxRecDepth 100000 in
set_option maxHeartbeats 4000000 in
theorem k_X11_late (l : Launch) (g : GG) (h0 : Nat) (rd0 : Nat) (d0 : Nat) (im0 : Nat) (ig0 : Nat) (rw0 : Nat) (we0 : Nat) (mi0 : Nat) (re0 : Nat) (pl0 : Nat) (ri0 : Nat) (le0 : Nat) (dr0 : Nat) (dr1 : Nat) (dr2 : Nat) (dr3 : Nat) (dr4 : Nat) (dr5 : Nat) (dr6 : Nat) (dr7 : Nat) (dr8 : Nat) (dr9 : Nat) (dstates : Int32) (dreally : Int32) (ddays : Int32) (dheal : Int32) (dleak : Int32) (dlines : Int32) (dhearers : Int32) (dwords : Int32) (dplans : Int32) (dnews : Int32) (dthoughts : Nat → Int32) (dgrades : Nat → Int32) (p1 : Int32) (p2 : Int32) (i_dstates : 0 ≤ dstates.toInt ∧ dstates.toInt ≤ 8) (i_dreally : 0 ≤ dreally.toInt ∧ dreally.toInt ≤ 7) (i_ddays : 0 ≤ ddays.toInt ∧ ddays.toInt ≤ 10) (i_dhearers : 0 ≤ dhearers.toInt ∧ dhearers.toInt ≤ 4) (i_dwords : 0 ≤ dwords.toInt ∧ dwords.toInt ≤ 8) (i_dplans : 0 ≤ dplans.toInt ∧ dplans.toInt ≤ 4) (i_dnews : 0 ≤ dnews.toInt ∧ dnews.toInt ≤ 6) : Ct l g yX11_late cX11_late 5 (some .int) { frames := 4, cells := 0, slots := 0, locals := 94 } [.ref h0, .int p1, .int p2] [(h0, .inr (11, [.ref rd0, .ref d0, .ref im0, .ref ig0, .ref rw0, .ref we0, .ref mi0, .ref re0, .ref pl0, .ref ri0, .ref le0])), (d0, .inr (0, [.int dstates, .int dreally, .int ddays, .int dheal, .int dleak, .int dlines, .int dhearers, .int dwords, .int dplans, .int dnews, .ref dr0, .ref dr1, .ref dr2, .ref dr3, .ref dr4, .ref dr5, .ref dr6, .ref dr7, .ref dr8, .ref dr9])), (dr1, .inl (g.2 0, 32, .inl dthoughts)), (dr0, .inl (g.2 0, 8, .inl dgrades))] (S := (Nat → Int32) × (Nat → Nat → Int32) × (Nat → Nat → Int64)) (fun u => some (.int (u.1 0))) (fun u => True) (fun u => [(h0, .inr (11, [.ref rd0, .ref d0, .ref im0, .ref ig0, .ref rw0, .ref we0, .ref mi0, .ref re0, .ref pl0, .ref ri0, .ref le0])), (d0, .inr (0, [.int dstates, .int dreally, .int ddays, .int dheal, .int dleak, .int dlines, .int dhearers, .int dwords, .int dplans, .int dnews, .ref dr0, .ref dr1, .ref dr2, .ref dr3, .ref dr4, .ref dr5, .ref dr6, .ref dr7, .ref dr8, .ref dr9])), (dr1, .inl (g.2 0, 32, .inl dthoughts)), (dr0, .inl (g.2 0, 8, .inl dgrades))]) := by
  refine Ct.of (by decide) (Nat.le_of_ble_eq_true rfl) ?_
  intro p e s m below meth c A ls FX hP hD hS hl
  obtain ⟨FC, hr, hlk, hKn, hA, hnm, hZ⟩ := id FX
  have FC : CallFix p m c cX11_late 5 s _ BIG RX11 := FC
  obtain ⟨hx, hb, hml, hown, hB⟩ := id FC
  have hl : lv_has ls 5 [(0, .ref h0), (1, .int p1), (2, .int p2)] := hl
  refine lv_aload_n hx hb dX11_late_0 rfl (lv_at hl 0 rfl) ?_
  refine g_get (C := RX11) (T := TX11) (N := 11) (ci := 11) (v := .ref d0) FC hKn hP i_X11 0 rfl rfl 1 (by decide) b_310 rfl dX11_late_1 ?_
  refine lv_iload_n hx hb dX11_late_4 rfl (lv_at hl 1 rfl) ?_
  refine call_VN (As := [.int p1]) (rest := []) (wr := [(h0, .inr (11, [.ref rd0, .ref d0, .ref im0, .ref ig0, .ref rw0, .ref we0, .ref mi0, .ref re0, .ref pl0, .ref ri0, .ref le0])), (dr1, .inl (g.2 0, 32, .inl dthoughts)), (dr0, .inl (g.2 0, 8, .inl dgrades))]) FC hKn hZ (k_X0_hasHearer l g d0 dr0 dr1 dr2 dr3 dr4 dr5 dr6 dr7 dr8 dr9 dstates dreally ddays dheal dleak dlines dhearers dwords dplans dnews p1 (by omega) (by omega) (by omega) (by omega) (by omega) (by omega) (by omega)) m_yX0_hasHearer b_316 (ci := 0) rfl rfl rfl hP hD hS hA [1] [0, 2, 3] rfl (by decide) rfl (by decide) (by decide) rfl hl.1 rfl (Nat.le_of_ble_eq_true rfl) dX11_late_5 ⟨(Nat.le_of_ble_eq_true rfl), (Nat.le_of_ble_eq_true rfl)⟩ ⟨(Nat.le_of_ble_eq_true rfl), (Nat.le_of_ble_eq_true rfl)⟩ (fun u1 H locs q2 hP hD hS => ?_)
  obtain ⟨q2_0, q2_1⟩ := q2
  have hP : va_P g.1 vwCl [(h0, .inr (11, [.ref rd0, .ref d0, .ref im0, .ref ig0, .ref rw0, .ref we0, .ref mi0, .ref re0, .ref pl0, .ref ri0, .ref le0])), (dr1, .inl (g.2 0, 32, .inl dthoughts)), (dr0, .inl (g.2 0, 8, .inl dgrades)), (d0, .inr (0, [.int dstates, .int dreally, .int ddays, .int dheal, .int dleak, .int dlines, .int dhearers, .int dwords, .int dplans, .int dnews, .ref dr0, .ref dr1, .ref dr2, .ref dr3, .ref dr4, .ref dr5, .ref dr6, .ref dr7, .ref dr8, .ref dr9]))] H := hP
  have hD : va_D A [(h0, .inr (11, [.ref rd0, .ref d0, .ref im0, .ref ig0, .ref rw0, .ref we0, .ref mi0, .ref re0, .ref pl0, .ref ri0, .ref le0])), (dr1, .inl (g.2 0, 32, .inl dthoughts)), (dr0, .inl (g.2 0, 8, .inl dgrades)), (d0, .inr (0, [.int dstates, .int dreally, .int ddays, .int dheal, .int dleak, .int dlines, .int dhearers, .int dwords, .int dplans, .int dnews, .ref dr0, .ref dr1, .ref dr2, .ref dr3, .ref dr4, .ref dr5, .ref dr6, .ref dr7, .ref dr8, .ref dr9]))] := hD
  refine W.eq (g2 := F0 m 8 ls [.int (u1.1 0)]) rfl ?_
  rcases (show (u1.1 0).toInt = 0 ∨ (u1.1 0).toInt = 1 by omega) with c3 | c3
  · skip
    refine lv_if_eq (tgt := 15) hx hb dX11_late_8 (by decide) (fun c4 => ?_) (fun c4 => ?_)
    · have c4 := k_eq (a := (u1.1 0).toInt) (b := 0) rfl (by decide) c4
      refine lv_bipush (v := -2) hx hb dX11_late_15 (by decide) ?_
      exact rt_i FX ((fun k => match k with | 0 => (-2 : Int32) | _ => 0), (fun _ => fun _ => 0), (fun _ => fun _ => 0)) rfl trivial (hP.sub [0, 3, 1, 2] rfl) (hD.sub [0, 3, 1, 2] (by decide) rfl) hS (Nat.le_of_ble_eq_true rfl) (Nat.le_of_ble_eq_true rfl) dX11_late_17
    · have c4 := k_ne (a := (u1.1 0).toInt) (b := 0) rfl (by decide) c4
      exfalso; omega
  · have c3_r := q2_1 c3
    refine lv_if_eq (tgt := 15) hx hb dX11_late_8 (by decide) (fun c5 => ?_) (fun c5 => ?_)
    · have c5 := k_eq (a := (u1.1 0).toInt) (b := 0) rfl (by decide) c5
      exfalso; omega
    · have c5 := k_ne (a := (u1.1 0).toInt) (b := 0) rfl (by decide) c5
      refine lv_iload_n hx hb dX11_late_11 rfl (lv_at hl 2 rfl) ?_
      refine lv_if_ge (tgt := 18) hx hb dX11_late_12 (by decide) (fun c6 => ?_) (fun c6 => ?_)
      · have c6 := k_le (a := 0) (b := p2.toInt) (by decide) rfl c6
        refine lv_aload_n hx hb dX11_late_18 rfl (lv_at hl 0 rfl) ?_
        refine g_get (C := RX11) (T := TX11) (N := 11) (ci := 11) (v := .ref d0) FC hKn hP i_X11 0 rfl rfl 1 (by decide) b_310 rfl dX11_late_19 ?_
        refine lv_iload_n hx hb dX11_late_22 rfl (lv_at hl 1 rfl) ?_
        refine call_VN (As := [.int p1]) (rest := []) (wr := [(h0, .inr (11, [.ref rd0, .ref d0, .ref im0, .ref ig0, .ref rw0, .ref we0, .ref mi0, .ref re0, .ref pl0, .ref ri0, .ref le0]))]) FC hKn hZ (k_X0_hurtAtOnce l g d0 dr0 dr1 dr2 dr3 dr4 dr5 dr6 dr7 dr8 dr9 dstates dreally ddays dheal dleak dlines dhearers dwords dplans dnews dthoughts dgrades p1 (by omega) (by omega) (by omega) (by omega) (by omega) (by omega) (by omega) (by omega)) m_yX0_hurtAtOnce b_409 (ci := 0) rfl rfl rfl hP hD hS hA [3, 1, 2] [0] rfl (by decide) rfl (by decide) (by decide) rfl hl.1 rfl (Nat.le_of_ble_eq_true rfl) dX11_late_23 ⟨(Nat.le_of_ble_eq_true rfl), (Nat.le_of_ble_eq_true rfl)⟩ ⟨(Nat.le_of_ble_eq_true rfl), (Nat.le_of_ble_eq_true rfl)⟩ (fun u7 H locs q8 hP hD hS => ?_)
        have hP : va_P g.1 vwCl [(h0, .inr (11, [.ref rd0, .ref d0, .ref im0, .ref ig0, .ref rw0, .ref we0, .ref mi0, .ref re0, .ref pl0, .ref ri0, .ref le0])), (d0, .inr (0, [.int dstates, .int dreally, .int ddays, .int dheal, .int dleak, .int dlines, .int dhearers, .int dwords, .int dplans, .int dnews, .ref dr0, .ref dr1, .ref dr2, .ref dr3, .ref dr4, .ref dr5, .ref dr6, .ref dr7, .ref dr8, .ref dr9])), (dr1, .inl (g.2 0, 32, .inl dthoughts)), (dr0, .inl (g.2 0, 8, .inl dgrades))] H := hP
        have hD : va_D A [(h0, .inr (11, [.ref rd0, .ref d0, .ref im0, .ref ig0, .ref rw0, .ref we0, .ref mi0, .ref re0, .ref pl0, .ref ri0, .ref le0])), (d0, .inr (0, [.int dstates, .int dreally, .int ddays, .int dheal, .int dleak, .int dlines, .int dhearers, .int dwords, .int dplans, .int dnews, .ref dr0, .ref dr1, .ref dr2, .ref dr3, .ref dr4, .ref dr5, .ref dr6, .ref dr7, .ref dr8, .ref dr9])), (dr1, .inl (g.2 0, 32, .inl dthoughts)), (dr0, .inl (g.2 0, 8, .inl dgrades))] := hD
        refine W.eq (g2 := F0 m 26 ls [.int (u7.1 0)]) rfl ?_
        refine lv_istore_n (lv' := [(3, .int (u7.1 0)), (0, .ref h0), (1, .int p1), (2, .int p2)]) hx hb dX11_late_26 rfl hl (by decide) rfl (fun ls hl => ?_)
        refine lv_aload_n hx hb dX11_late_27 rfl (lv_at hl 1 rfl) ?_
        refine g_get (C := RX11) (T := TX11) (N := 11) (ci := 11) (v := .ref d0) FC hKn hP i_X11 0 rfl rfl 1 (by decide) b_310 rfl dX11_late_28 ?_
        refine g_getN (C := RX0) (T := TX0) (N := 20) (ci := 0) (v := .int ddays) FC hKn hP i_X0 1 rfl rfl 2 (by decide) b_410 rfl dX11_late_31 ?_
        refine lv_iconst (v := 1) hx hb dX11_late_34 (by decide) ?_
        refine lv_isub hx hb dX11_late_35 ?_
        have kc1 : (1 : Int32).toInt = 1 := by decide
        refine lv_topi (fun z9 e_z9 => ?_)
        have t_z9 : z9.toInt = ddays.toInt - ((1 : Int32)).toInt := by rw [e_z9]; exact fb_subI (by omega) (by omega)
        refine lv_istore (lv' := [(4, .int z9), (3, .int (u7.1 0)), (0, .ref h0), (1, .int p1), (2, .int p2)]) hx hb dX11_late_36 hl (by decide) rfl (fun ls hl => ?_)
        have lp26 : ∀ (n28 : Nat) (x25 : Int32) (H : Heap) (locs : List Loc) (ls : Array Slot), -1 ≤ x25.toInt ∧ x25.toInt ≤ 9 → (x25.toInt - (-1)).toNat < n28 → va_P g.1 vwCl [(h0, .inr (11, [.ref rd0, .ref d0, .ref im0, .ref ig0, .ref rw0, .ref we0, .ref mi0, .ref re0, .ref pl0, .ref ri0, .ref le0])), (d0, .inr (0, [.int dstates, .int dreally, .int ddays, .int dheal, .int dleak, .int dlines, .int dhearers, .int dwords, .int dplans, .int dnews, .ref dr0, .ref dr1, .ref dr2, .ref dr3, .ref dr4, .ref dr5, .ref dr6, .ref dr7, .ref dr8, .ref dr9])), (dr1, .inl (g.2 0, 32, .inl dthoughts)), (dr0, .inl (g.2 0, 8, .inl dgrades))] H → va_D A [(h0, .inr (11, [.ref rd0, .ref d0, .ref im0, .ref ig0, .ref rw0, .ref we0, .ref mi0, .ref re0, .ref pl0, .ref ri0, .ref le0])), (d0, .inr (0, [.int dstates, .int dreally, .int ddays, .int dheal, .int dleak, .int dlines, .int dhearers, .int dwords, .int dplans, .int dnews, .ref dr0, .ref dr1, .ref dr2, .ref dr3, .ref dr4, .ref dr5, .ref dr6, .ref dr7, .ref dr8, .ref dr9])), (dr1, .inl (g.2 0, 32, .inl dthoughts)), (dr0, .inl (g.2 0, 8, .inl dgrades))] → va_S A s.heap H locs → lv_has ls 5 [(4, .int x25), (3, .int (u7.1 0)), (0, .ref h0), (1, .int p1), (2, .int p2)] → W p l e { frames := 4, cells := 0, slots := 0, locals := 94 } s m ([.ref h0, .int p1, .int p2].toArray) below meth c H locs 0 0 (MQ below (QX (S := (Nat → Int32) × (Nat → Nat → Int32) × (Nat → Nat → Int64)) (fun u => some (.int (u.1 0))) (fun u => True) g (fun u => [(h0, .inr (11, [.ref rd0, .ref d0, .ref im0, .ref ig0, .ref rw0, .ref we0, .ref mi0, .ref re0, .ref pl0, .ref ri0, .ref le0])), (d0, .inr (0, [.int dstates, .int dreally, .int ddays, .int dheal, .int dleak, .int dlines, .int dhearers, .int dwords, .int dplans, .int dnews, .ref dr0, .ref dr1, .ref dr2, .ref dr3, .ref dr4, .ref dr5, .ref dr6, .ref dr7, .ref dr8, .ref dr9])), (dr1, .inl (g.2 0, 32, .inl dthoughts)), (dr0, .inl (g.2 0, 8, .inl dgrades))]) A) ([.ref h0, .int p1, .int p2].toArray) s 0 0 A) (F0 m 38 ls []) := by
          intro n28
          induction n28 with
          | zero =>
            intro x25 H locs ls h_x25 hn29
            exact absurd hn29 (Nat.not_lt_zero _)
          | succ n28 ih27 =>
            intro x25 H locs ls h_x25 hn29 hP hD hS hl
            refine lv_iload hx hb dX11_late_38 (lv_at hl 0 rfl) ?_
            refine lv_if_lt (tgt := 76) hx hb dX11_late_40 (by decide) (fun c30 => ?_) (fun c30 => ?_)
            · have c30 := k_lt (a := x25.toInt) (b := 0) rfl (by decide) c30
              refine lv_iconst (v := -1) hx hb dX11_late_76 (by decide) ?_
              exact rt_i FX ((fun k => match k with | 0 => (-1 : Int32) | _ => 0), (fun _ => fun _ => 0), (fun _ => fun _ => 0)) rfl trivial (hP.sub [0, 1, 2, 3] rfl) (hD.sub [0, 1, 2, 3] (by decide) rfl) hS (Nat.le_of_ble_eq_true rfl) (Nat.le_of_ble_eq_true rfl) dX11_late_77
            · have c30 := k_nlt (a := x25.toInt) (b := 0) rfl (by decide) c30
              refine lv_aload_n hx hb dX11_late_43 rfl (lv_at hl 2 rfl) ?_
              refine g_get (C := RX11) (T := TX11) (N := 11) (ci := 11) (v := .ref d0) FC hKn hP i_X11 0 rfl rfl 1 (by decide) b_310 rfl dX11_late_44 ?_
              refine lv_iload_n hx hb dX11_late_47 rfl (lv_at hl 1 rfl) ?_
              refine lv_aload_n hx hb dX11_late_48 rfl (lv_at hl 2 rfl) ?_
              refine g_get (C := RX11) (T := TX11) (N := 11) (ci := 11) (v := .ref d0) FC hKn hP i_X11 0 rfl rfl 1 (by decide) b_310 rfl dX11_late_49 ?_
              refine g_getN (C := RX0) (T := TX0) (N := 20) (ci := 0) (v := .int ddays) FC hKn hP i_X0 1 rfl rfl 2 (by decide) b_410 rfl dX11_late_52 ?_
              refine lv_iconst (v := 1) hx hb dX11_late_55 (by decide) ?_
              refine lv_isub hx hb dX11_late_56 ?_
              refine lv_topi (fun z31 e_z31 => ?_)
              have t_z31 : z31.toInt = ddays.toInt - ((1 : Int32)).toInt := by rw [e_z31]; exact fb_subI (by omega) (by omega)
              refine lv_iload hx hb dX11_late_57 (lv_at hl 0 rfl) ?_
              refine lv_isub hx hb dX11_late_59 ?_
              refine lv_topi (fun z32 e_z32 => ?_)
              have t_z32 : z32.toInt = z31.toInt - x25.toInt := by rw [e_z32]; exact fb_subI (by omega) (by omega)
              refine call_VN (As := [.int (u7.1 0), .int z32]) (rest := []) (wr := [(h0, .inr (11, [.ref rd0, .ref d0, .ref im0, .ref ig0, .ref rw0, .ref we0, .ref mi0, .ref re0, .ref pl0, .ref ri0, .ref le0])), (dr1, .inl (g.2 0, 32, .inl dthoughts)), (dr0, .inl (g.2 0, 8, .inl dgrades))]) FC hKn hZ (k_X0_leftOf l g d0 dr0 dr1 dr2 dr3 dr4 dr5 dr6 dr7 dr8 dr9 dstates dreally ddays dheal dleak dlines dhearers dwords dplans dnews (u7.1 0) z32 (by omega) (by omega) (by omega) (by omega) (by omega) (by omega) (by omega)) m_yX0_leftOf b_411 (ci := 0) rfl rfl rfl hP hD hS hA [1] [0, 2, 3] rfl (by decide) rfl (by decide) (by decide) rfl hl.1 rfl (Nat.le_of_ble_eq_true rfl) dX11_late_60 ⟨(Nat.le_of_ble_eq_true rfl), (Nat.le_of_ble_eq_true rfl)⟩ ⟨(Nat.le_of_ble_eq_true rfl), (Nat.le_of_ble_eq_true rfl)⟩ (fun u33 H locs q34 hP hD hS => ?_)
              have hP : va_P g.1 vwCl [(h0, .inr (11, [.ref rd0, .ref d0, .ref im0, .ref ig0, .ref rw0, .ref we0, .ref mi0, .ref re0, .ref pl0, .ref ri0, .ref le0])), (dr1, .inl (g.2 0, 32, .inl dthoughts)), (dr0, .inl (g.2 0, 8, .inl dgrades)), (d0, .inr (0, [.int dstates, .int dreally, .int ddays, .int dheal, .int dleak, .int dlines, .int dhearers, .int dwords, .int dplans, .int dnews, .ref dr0, .ref dr1, .ref dr2, .ref dr3, .ref dr4, .ref dr5, .ref dr6, .ref dr7, .ref dr8, .ref dr9]))] H := hP
              have hD : va_D A [(h0, .inr (11, [.ref rd0, .ref d0, .ref im0, .ref ig0, .ref rw0, .ref we0, .ref mi0, .ref re0, .ref pl0, .ref ri0, .ref le0])), (dr1, .inl (g.2 0, 32, .inl dthoughts)), (dr0, .inl (g.2 0, 8, .inl dgrades)), (d0, .inr (0, [.int dstates, .int dreally, .int ddays, .int dheal, .int dleak, .int dlines, .int dhearers, .int dwords, .int dplans, .int dnews, .ref dr0, .ref dr1, .ref dr2, .ref dr3, .ref dr4, .ref dr5, .ref dr6, .ref dr7, .ref dr8, .ref dr9]))] := hD
              refine W.eq (g2 := F0 m 63 ls [.int (u33.1 0)]) rfl ?_
              refine lv_iload_n hx hb dX11_late_63 rfl (lv_at hl 4 rfl) ?_
              refine lv_icmp_gt (tgt := 70) hx hb dX11_late_64 (by decide) (fun c35 => ?_) (fun c35 => ?_)
              · have c35 := k_lt (a := p2.toInt) (b := (u33.1 0).toInt) rfl rfl c35
                obtain ⟨z36, e_z36⟩ : ∃ y : Int32, y = x25 + (-1) := ⟨_, rfl⟩
                have t_z36 : z36.toInt = x25.toInt + (-1) := by rw [e_z36]; exact addk (by decide) (by omega) (by omega)
                refine lv_iinc (v := z36) (lv' := [(4, .int z36), (3, .int (u7.1 0)), (0, .ref h0), (1, .int p1), (2, .int p2)]) hx hb dX11_late_70 hl (k := 0) rfl (by rw [e_z36]; rfl) (by decide) rfl (fun ls hl => ?_)
                refine lv_goto (tgt := 38) hx hb dX11_late_73 (by decide) ?_
                exact ih27 z36 _ _ ls (by omega) (by omega) (hP.sub [0, 3, 1, 2] rfl) (hD.sub [0, 3, 1, 2] (by decide) rfl) hS (lv_sub hl [0, 1, 2, 3, 4] rfl)
              · have c35 := k_nlt (a := p2.toInt) (b := (u33.1 0).toInt) rfl rfl c35
                refine lv_iload hx hb dX11_late_67 (lv_at hl 0 rfl) ?_
                exact rt_i FX ((fun k => match k with | 0 => x25 | _ => 0), (fun _ => fun _ => 0), (fun _ => fun _ => 0)) rfl trivial (hP.sub [0, 3, 1, 2] rfl) (hD.sub [0, 3, 1, 2] (by decide) rfl) hS (Nat.le_of_ble_eq_true rfl) (Nat.le_of_ble_eq_true rfl) dX11_late_69
        exact lp26 _ z9 _ _ ls (by omega) (Nat.lt_succ_self _) hP hD hS (lv_sub hl [0, 1, 2, 3, 4] rfl)
      · have c6 := k_nle (a := 0) (b := p2.toInt) (by decide) rfl c6
        refine lv_bipush (v := -2) hx hb dX11_late_15 (by decide) ?_
        exact rt_i FX ((fun k => match k with | 0 => (-2 : Int32) | _ => 0), (fun _ => fun _ => 0), (fun _ => fun _ => 0)) rfl trivial (hP.sub [0, 3, 1, 2] rfl) (hD.sub [0, 3, 1, 2] (by decide) rfl) hS (Nat.le_of_ble_eq_true rfl) (Nat.le_of_ble_eq_true rfl) dX11_late_17
set_option maxRecDepth 100000 in
set_option maxHeartbeats 4000000 in
theorem k_X11_calm (l : Launch) (g : GG) (h0 : Nat) (rd0 : Nat) (d0 : Nat) (im0 : Nat) (ig0 : Nat) (rw0 : Nat) (we0 : Nat) (mi0 : Nat) (re0 : Nat) (pl0 : Nat) (ri0 : Nat) (le0 : Nat) (dr0 : Nat) (dr1 : Nat) (dr2 : Nat) (dr3 : Nat) (dr4 : Nat) (dr5 : Nat) (dr6 : Nat) (dr7 : Nat) (dr8 : Nat) (dr9 : Nat) (dstates : Int32) (dreally : Int32) (ddays : Int32) (dheal : Int32) (dleak : Int32) (dlines : Int32) (dhearers : Int32) (dwords : Int32) (dplans : Int32) (dnews : Int32) (dthoughts : Nat → Int32) (dgrades : Nat → Int32) (p1 : Int32) (p2 : Int32) (i_dstates : 0 ≤ dstates.toInt ∧ dstates.toInt ≤ 8) (i_dreally : 0 ≤ dreally.toInt ∧ dreally.toInt ≤ 7) (i_ddays : 0 ≤ ddays.toInt ∧ ddays.toInt ≤ 10) (i_dhearers : 0 ≤ dhearers.toInt ∧ dhearers.toInt ≤ 4) (i_dwords : 0 ≤ dwords.toInt ∧ dwords.toInt ≤ 8) (i_dplans : 0 ≤ dplans.toInt ∧ dplans.toInt ≤ 4) (i_dnews : 0 ≤ dnews.toInt ∧ dnews.toInt ≤ 6) : Ct l g yX11_calm cX11_calm 5 (some .int) { frames := 3, cells := 0, slots := 0, locals := 73 } [.ref h0, .int p1, .int p2] [(h0, .inr (11, [.ref rd0, .ref d0, .ref im0, .ref ig0, .ref rw0, .ref we0, .ref mi0, .ref re0, .ref pl0, .ref ri0, .ref le0])), (d0, .inr (0, [.int dstates, .int dreally, .int ddays, .int dheal, .int dleak, .int dlines, .int dhearers, .int dwords, .int dplans, .int dnews, .ref dr0, .ref dr1, .ref dr2, .ref dr3, .ref dr4, .ref dr5, .ref dr6, .ref dr7, .ref dr8, .ref dr9])), (dr1, .inl (g.2 0, 32, .inl dthoughts)), (dr0, .inl (g.2 0, 8, .inl dgrades))] (S := (Nat → Int32) × (Nat → Nat → Int32) × (Nat → Nat → Int64)) (fun u => some (.int (u.1 0))) (fun u => True) (fun u => [(h0, .inr (11, [.ref rd0, .ref d0, .ref im0, .ref ig0, .ref rw0, .ref we0, .ref mi0, .ref re0, .ref pl0, .ref ri0, .ref le0])), (d0, .inr (0, [.int dstates, .int dreally, .int ddays, .int dheal, .int dleak, .int dlines, .int dhearers, .int dwords, .int dplans, .int dnews, .ref dr0, .ref dr1, .ref dr2, .ref dr3, .ref dr4, .ref dr5, .ref dr6, .ref dr7, .ref dr8, .ref dr9])), (dr1, .inl (g.2 0, 32, .inl dthoughts)), (dr0, .inl (g.2 0, 8, .inl dgrades))]) := by
  refine Ct.of (by decide) (Nat.le_of_ble_eq_true rfl) ?_
  intro p e s m below meth c A ls FX hP hD hS hl
  obtain ⟨FC, hr, hlk, hKn, hA, hnm, hZ⟩ := id FX
  have FC : CallFix p m c cX11_calm 5 s _ BIG RX11 := FC
  obtain ⟨hx, hb, hml, hown, hB⟩ := id FC
  have hl : lv_has ls 5 [(0, .ref h0), (1, .int p1), (2, .int p2)] := hl
  refine lv_aload_n hx hb dX11_calm_0 rfl (lv_at hl 0 rfl) ?_
  refine g_get (C := RX11) (T := TX11) (N := 11) (ci := 11) (v := .ref d0) FC hKn hP i_X11 0 rfl rfl 1 (by decide) b_310 rfl dX11_calm_1 ?_
  refine lv_iload_n hx hb dX11_calm_4 rfl (lv_at hl 1 rfl) ?_
  refine call_VN (As := [.int p1]) (rest := []) (wr := [(h0, .inr (11, [.ref rd0, .ref d0, .ref im0, .ref ig0, .ref rw0, .ref we0, .ref mi0, .ref re0, .ref pl0, .ref ri0, .ref le0])), (dr1, .inl (g.2 0, 32, .inl dthoughts)), (dr0, .inl (g.2 0, 8, .inl dgrades))]) FC hKn hZ (k_X0_hasHearer l g d0 dr0 dr1 dr2 dr3 dr4 dr5 dr6 dr7 dr8 dr9 dstates dreally ddays dheal dleak dlines dhearers dwords dplans dnews p1 (by omega) (by omega) (by omega) (by omega) (by omega) (by omega) (by omega)) m_yX0_hasHearer b_316 (ci := 0) rfl rfl rfl hP hD hS hA [1] [0, 2, 3] rfl (by decide) rfl (by decide) (by decide) rfl hl.1 rfl (Nat.le_of_ble_eq_true rfl) dX11_calm_5 ⟨(Nat.le_of_ble_eq_true rfl), (Nat.le_of_ble_eq_true rfl)⟩ ⟨(Nat.le_of_ble_eq_true rfl), (Nat.le_of_ble_eq_true rfl)⟩ (fun u1 H locs q2 hP hD hS => ?_)
  obtain ⟨q2_0, q2_1⟩ := q2
  have hP : va_P g.1 vwCl [(h0, .inr (11, [.ref rd0, .ref d0, .ref im0, .ref ig0, .ref rw0, .ref we0, .ref mi0, .ref re0, .ref pl0, .ref ri0, .ref le0])), (dr1, .inl (g.2 0, 32, .inl dthoughts)), (dr0, .inl (g.2 0, 8, .inl dgrades)), (d0, .inr (0, [.int dstates, .int dreally, .int ddays, .int dheal, .int dleak, .int dlines, .int dhearers, .int dwords, .int dplans, .int dnews, .ref dr0, .ref dr1, .ref dr2, .ref dr3, .ref dr4, .ref dr5, .ref dr6, .ref dr7, .ref dr8, .ref dr9]))] H := hP
  have hD : va_D A [(h0, .inr (11, [.ref rd0, .ref d0, .ref im0, .ref ig0, .ref rw0, .ref we0, .ref mi0, .ref re0, .ref pl0, .ref ri0, .ref le0])), (dr1, .inl (g.2 0, 32, .inl dthoughts)), (dr0, .inl (g.2 0, 8, .inl dgrades)), (d0, .inr (0, [.int dstates, .int dreally, .int ddays, .int dheal, .int dleak, .int dlines, .int dhearers, .int dwords, .int dplans, .int dnews, .ref dr0, .ref dr1, .ref dr2, .ref dr3, .ref dr4, .ref dr5, .ref dr6, .ref dr7, .ref dr8, .ref dr9]))] := hD
  refine W.eq (g2 := F0 m 8 ls [.int (u1.1 0)]) rfl ?_
  rcases (show (u1.1 0).toInt = 0 ∨ (u1.1 0).toInt = 1 by omega) with c3 | c3
  · skip
    refine lv_if_eq (tgt := 22) hx hb dX11_calm_8 (by decide) (fun c4 => ?_) (fun c4 => ?_)
    · have c4 := k_eq (a := (u1.1 0).toInt) (b := 0) rfl (by decide) c4
      refine lv_bipush (v := -2) hx hb dX11_calm_22 (by decide) ?_
      exact rt_i FX ((fun k => match k with | 0 => (-2 : Int32) | _ => 0), (fun _ => fun _ => 0), (fun _ => fun _ => 0)) rfl trivial (hP.sub [0, 3, 1, 2] rfl) (hD.sub [0, 3, 1, 2] (by decide) rfl) hS (Nat.le_of_ble_eq_true rfl) (Nat.le_of_ble_eq_true rfl) dX11_calm_24
    · have c4 := k_ne (a := (u1.1 0).toInt) (b := 0) rfl (by decide) c4
      exfalso; omega
  · have c3_r := q2_1 c3
    refine lv_if_eq (tgt := 22) hx hb dX11_calm_8 (by decide) (fun c5 => ?_) (fun c5 => ?_)
    · have c5 := k_eq (a := (u1.1 0).toInt) (b := 0) rfl (by decide) c5
      exfalso; omega
    · have c5 := k_ne (a := (u1.1 0).toInt) (b := 0) rfl (by decide) c5
      refine lv_aload_n hx hb dX11_calm_11 rfl (lv_at hl 0 rfl) ?_
      refine g_get (C := RX11) (T := TX11) (N := 11) (ci := 11) (v := .ref d0) FC hKn hP i_X11 0 rfl rfl 1 (by decide) b_310 rfl dX11_calm_12 ?_
      refine lv_iload_n hx hb dX11_calm_15 rfl (lv_at hl 2 rfl) ?_
      refine call_VN (As := [.int p2]) (rest := []) (wr := [(h0, .inr (11, [.ref rd0, .ref d0, .ref im0, .ref ig0, .ref rw0, .ref we0, .ref mi0, .ref re0, .ref pl0, .ref ri0, .ref le0])), (dr1, .inl (g.2 0, 32, .inl dthoughts)), (dr0, .inl (g.2 0, 8, .inl dgrades))]) FC hKn hZ (k_X0_hasBelief l g d0 dr0 dr1 dr2 dr3 dr4 dr5 dr6 dr7 dr8 dr9 dstates dreally ddays dheal dleak dlines dhearers dwords dplans dnews p2 (by omega) (by omega) (by omega) (by omega) (by omega) (by omega) (by omega)) m_yX0_hasBelief b_401 (ci := 0) rfl rfl rfl hP hD hS hA [3] [0, 1, 2] rfl (by decide) rfl (by decide) (by decide) rfl hl.1 rfl (Nat.le_of_ble_eq_true rfl) dX11_calm_16 ⟨(Nat.le_of_ble_eq_true rfl), (Nat.le_of_ble_eq_true rfl)⟩ ⟨(Nat.le_of_ble_eq_true rfl), (Nat.le_of_ble_eq_true rfl)⟩ (fun u6 H locs q7 hP hD hS => ?_)
      obtain ⟨q7_0, q7_1⟩ := q7
      have hP : va_P g.1 vwCl [(h0, .inr (11, [.ref rd0, .ref d0, .ref im0, .ref ig0, .ref rw0, .ref we0, .ref mi0, .ref re0, .ref pl0, .ref ri0, .ref le0])), (dr1, .inl (g.2 0, 32, .inl dthoughts)), (dr0, .inl (g.2 0, 8, .inl dgrades)), (d0, .inr (0, [.int dstates, .int dreally, .int ddays, .int dheal, .int dleak, .int dlines, .int dhearers, .int dwords, .int dplans, .int dnews, .ref dr0, .ref dr1, .ref dr2, .ref dr3, .ref dr4, .ref dr5, .ref dr6, .ref dr7, .ref dr8, .ref dr9]))] H := hP
      have hD : va_D A [(h0, .inr (11, [.ref rd0, .ref d0, .ref im0, .ref ig0, .ref rw0, .ref we0, .ref mi0, .ref re0, .ref pl0, .ref ri0, .ref le0])), (dr1, .inl (g.2 0, 32, .inl dthoughts)), (dr0, .inl (g.2 0, 8, .inl dgrades)), (d0, .inr (0, [.int dstates, .int dreally, .int ddays, .int dheal, .int dleak, .int dlines, .int dhearers, .int dwords, .int dplans, .int dnews, .ref dr0, .ref dr1, .ref dr2, .ref dr3, .ref dr4, .ref dr5, .ref dr6, .ref dr7, .ref dr8, .ref dr9]))] := hD
      refine W.eq (g2 := F0 m 19 ls [.int (u6.1 0)]) rfl ?_
      rcases (show (u6.1 0).toInt = 0 ∨ (u6.1 0).toInt = 1 by omega) with c8 | c8
      · skip
        refine lv_if_ne (tgt := 25) hx hb dX11_calm_19 (by decide) (fun c9 => ?_) (fun c9 => ?_)
        · have c9 := k_ne (a := (u6.1 0).toInt) (b := 0) rfl (by decide) c9
          exfalso; omega
        · have c9 := k_eq (a := (u6.1 0).toInt) (b := 0) rfl (by decide) c9
          refine lv_bipush (v := -2) hx hb dX11_calm_22 (by decide) ?_
          exact rt_i FX ((fun k => match k with | 0 => (-2 : Int32) | _ => 0), (fun _ => fun _ => 0), (fun _ => fun _ => 0)) rfl trivial (hP.sub [0, 3, 1, 2] rfl) (hD.sub [0, 3, 1, 2] (by decide) rfl) hS (Nat.le_of_ble_eq_true rfl) (Nat.le_of_ble_eq_true rfl) dX11_calm_24
      · have c8_r := q7_1 c8
        refine lv_if_ne (tgt := 25) hx hb dX11_calm_19 (by decide) (fun c10 => ?_) (fun c10 => ?_)
        · have c10 := k_ne (a := (u6.1 0).toInt) (b := 0) rfl (by decide) c10
          refine lv_iconst (v := 0) hx hb dX11_calm_25 (by decide) ?_
          refine lv_istore_n (lv' := [(3, .int 0), (0, .ref h0), (1, .int p1), (2, .int p2)]) hx hb dX11_calm_26 rfl hl (by decide) rfl (fun ls hl => ?_)
          refine lv_iconst (v := 0) hx hb dX11_calm_27 (by decide) ?_
          refine lv_istore (lv' := [(4, .int 0), (3, .int 0), (0, .ref h0), (1, .int p1), (2, .int p2)]) hx hb dX11_calm_28 hl (by decide) rfl (fun ls hl => ?_)
          have lp105 : ∀ (n107 : Nat) (x103 : Int32) (x104 : Int32) (H : Heap) (locs : List Loc) (ls : Array Slot), 0 ≤ x103.toInt ∧ x103.toInt ≤ 8 → (8 - x103.toInt).toNat < n107 → va_P g.1 vwCl [(h0, .inr (11, [.ref rd0, .ref d0, .ref im0, .ref ig0, .ref rw0, .ref we0, .ref mi0, .ref re0, .ref pl0, .ref ri0, .ref le0])), (dr1, .inl (g.2 0, 32, .inl dthoughts)), (dr0, .inl (g.2 0, 8, .inl dgrades)), (d0, .inr (0, [.int dstates, .int dreally, .int ddays, .int dheal, .int dleak, .int dlines, .int dhearers, .int dwords, .int dplans, .int dnews, .ref dr0, .ref dr1, .ref dr2, .ref dr3, .ref dr4, .ref dr5, .ref dr6, .ref dr7, .ref dr8, .ref dr9]))] H → va_D A [(h0, .inr (11, [.ref rd0, .ref d0, .ref im0, .ref ig0, .ref rw0, .ref we0, .ref mi0, .ref re0, .ref pl0, .ref ri0, .ref le0])), (dr1, .inl (g.2 0, 32, .inl dthoughts)), (dr0, .inl (g.2 0, 8, .inl dgrades)), (d0, .inr (0, [.int dstates, .int dreally, .int ddays, .int dheal, .int dleak, .int dlines, .int dhearers, .int dwords, .int dplans, .int dnews, .ref dr0, .ref dr1, .ref dr2, .ref dr3, .ref dr4, .ref dr5, .ref dr6, .ref dr7, .ref dr8, .ref dr9]))] → va_S A s.heap H locs → lv_has ls 5 [(4, .int x103), (3, .int x104), (0, .ref h0), (1, .int p1), (2, .int p2)] → W p l e { frames := 3, cells := 0, slots := 0, locals := 73 } s m ([.ref h0, .int p1, .int p2].toArray) below meth c H locs 0 0 (MQ below (QX (S := (Nat → Int32) × (Nat → Nat → Int32) × (Nat → Nat → Int64)) (fun u => some (.int (u.1 0))) (fun u => True) g (fun u => [(h0, .inr (11, [.ref rd0, .ref d0, .ref im0, .ref ig0, .ref rw0, .ref we0, .ref mi0, .ref re0, .ref pl0, .ref ri0, .ref le0])), (d0, .inr (0, [.int dstates, .int dreally, .int ddays, .int dheal, .int dleak, .int dlines, .int dhearers, .int dwords, .int dplans, .int dnews, .ref dr0, .ref dr1, .ref dr2, .ref dr3, .ref dr4, .ref dr5, .ref dr6, .ref dr7, .ref dr8, .ref dr9])), (dr1, .inl (g.2 0, 32, .inl dthoughts)), (dr0, .inl (g.2 0, 8, .inl dgrades))]) A) ([.ref h0, .int p1, .int p2].toArray) s 0 0 A) (F0 m 30 ls []) := by
            intro n107
            induction n107 with
            | zero =>
              intro x103 x104 H locs ls h_x103 hn108
              exact absurd hn108 (Nat.not_lt_zero _)
            | succ n107 ih106 =>
              intro x103 x104 H locs ls h_x103 hn108 hP hD hS hl
              refine lv_iload hx hb dX11_calm_30 (lv_at hl 0 rfl) ?_
              refine lv_aload_n hx hb dX11_calm_32 rfl (lv_at hl 2 rfl) ?_
              refine g_get (C := RX11) (T := TX11) (N := 11) (ci := 11) (v := .ref d0) FC hKn hP i_X11 0 rfl rfl 1 (by decide) b_310 rfl dX11_calm_33 ?_
              refine g_getN (C := RX0) (T := TX0) (N := 20) (ci := 0) (v := .int dstates) FC hKn hP i_X0 3 rfl rfl 0 (by decide) b_412 rfl dX11_calm_36 ?_
              refine lv_icmp_ge (tgt := 71) hx hb dX11_calm_39 (by decide) (fun c109 => ?_) (fun c109 => ?_)
              · have c109 := k_le (a := dstates.toInt) (b := x103.toInt) rfl rfl c109
                refine lv_iload_n hx hb dX11_calm_71 rfl (lv_at hl 1 rfl) ?_
                exact rt_i FX ((fun k => match k with | 0 => x104 | _ => 0), (fun _ => fun _ => 0), (fun _ => fun _ => 0)) rfl trivial (hP.sub [0, 3, 1, 2] rfl) (hD.sub [0, 3, 1, 2] (by decide) rfl) hS (Nat.le_of_ble_eq_true rfl) (Nat.le_of_ble_eq_true rfl) dX11_calm_72
              · have c109 := k_nle (a := dstates.toInt) (b := x103.toInt) rfl rfl c109
                refine lv_aload_n hx hb dX11_calm_42 rfl (lv_at hl 2 rfl) ?_
                refine g_get (C := RX11) (T := TX11) (N := 11) (ci := 11) (v := .ref d0) FC hKn hP i_X11 0 rfl rfl 1 (by decide) b_310 rfl dX11_calm_43 ?_
                refine lv_iload_n hx hb dX11_calm_46 rfl (lv_at hl 3 rfl) ?_
                refine lv_iload_n hx hb dX11_calm_47 rfl (lv_at hl 4 rfl) ?_
                refine lv_iconst (v := 1) hx hb dX11_calm_48 (by decide) ?_
                refine lv_iload hx hb dX11_calm_49 (lv_at hl 0 rfl) ?_
                refine lv_ishl hx hb dX11_calm_51 ?_
                refine lv_topi (fun z110 e_z110 => ?_)
                have t_z110 : 1 ≤ z110.toInt ∧ z110.toInt ≤ 128 := by rw [e_z110]; exact shl_b (n := 7) (by omega) (by omega) (by decide)
                refine call_VN (As := [.int p1, .int p2, .int z110]) (rest := []) (wr := [(h0, .inr (11, [.ref rd0, .ref d0, .ref im0, .ref ig0, .ref rw0, .ref we0, .ref mi0, .ref re0, .ref pl0, .ref ri0, .ref le0]))]) FC hKn hZ (k_X0_hurtBetween l g d0 dr0 dr1 dr2 dr3 dr4 dr5 dr6 dr7 dr8 dr9 dstates dreally ddays dheal dleak dlines dhearers dwords dplans dnews dthoughts dgrades p1 p2 z110 (by omega) (by omega) (by omega) (by omega) (by omega) (by omega) (by omega) (by omega)) m_yX0_hurtBetween b_406 (ci := 0) rfl rfl rfl hP hD hS hA [3, 1, 2] [0] rfl (by decide) rfl (by decide) (by decide) rfl hl.1 rfl (Nat.le_of_ble_eq_true rfl) dX11_calm_52 ⟨(Nat.le_of_ble_eq_true rfl), (Nat.le_of_ble_eq_true rfl)⟩ ⟨(Nat.le_of_ble_eq_true rfl), (Nat.le_of_ble_eq_true rfl)⟩ (fun u111 H locs q112 hP hD hS => ?_)
                have hP : va_P g.1 vwCl [(h0, .inr (11, [.ref rd0, .ref d0, .ref im0, .ref ig0, .ref rw0, .ref we0, .ref mi0, .ref re0, .ref pl0, .ref ri0, .ref le0])), (d0, .inr (0, [.int dstates, .int dreally, .int ddays, .int dheal, .int dleak, .int dlines, .int dhearers, .int dwords, .int dplans, .int dnews, .ref dr0, .ref dr1, .ref dr2, .ref dr3, .ref dr4, .ref dr5, .ref dr6, .ref dr7, .ref dr8, .ref dr9])), (dr1, .inl (g.2 0, 32, .inl dthoughts)), (dr0, .inl (g.2 0, 8, .inl dgrades))] H := hP
                have hD : va_D A [(h0, .inr (11, [.ref rd0, .ref d0, .ref im0, .ref ig0, .ref rw0, .ref we0, .ref mi0, .ref re0, .ref pl0, .ref ri0, .ref le0])), (d0, .inr (0, [.int dstates, .int dreally, .int ddays, .int dheal, .int dleak, .int dlines, .int dhearers, .int dwords, .int dplans, .int dnews, .ref dr0, .ref dr1, .ref dr2, .ref dr3, .ref dr4, .ref dr5, .ref dr6, .ref dr7, .ref dr8, .ref dr9])), (dr1, .inl (g.2 0, 32, .inl dthoughts)), (dr0, .inl (g.2 0, 8, .inl dgrades))] := hD
                refine W.eq (g2 := F0 m 55 ls [.int (u111.1 0)]) rfl ?_
                refine lv_if_ne (tgt := 65) hx hb dX11_calm_55 (by decide) (fun c113 => ?_) (fun c113 => ?_)
                · have c113 := k_ne (a := (u111.1 0).toInt) (b := 0) rfl (by decide) c113
                  obtain ⟨z114, e_z114⟩ : ∃ y : Int32, y = x103 + 1 := ⟨_, rfl⟩
                  have t_z114 : z114.toInt = x103.toInt + 1 := by rw [e_z114]; exact addk (by decide) (by omega) (by omega)
                  refine lv_iinc (v := z114) (lv' := [(4, .int z114), (3, .int x104), (0, .ref h0), (1, .int p1), (2, .int p2)]) hx hb dX11_calm_65 hl (k := 0) rfl (by rw [e_z114]; rfl) (by decide) rfl (fun ls hl => ?_)
                  refine lv_goto (tgt := 30) hx hb dX11_calm_68 (by decide) ?_
                  exact ih106 z114 x104 _ _ ls (by omega) (by omega) (hP.sub [0, 2, 3, 1] rfl) (hD.sub [0, 2, 3, 1] (by decide) rfl) hS (lv_sub hl [0, 1, 2, 3, 4] rfl)
                · have c113 := k_eq (a := (u111.1 0).toInt) (b := 0) rfl (by decide) c113
                  refine lv_iload_n hx hb dX11_calm_58 rfl (lv_at hl 1 rfl) ?_
                  refine lv_iconst (v := 1) hx hb dX11_calm_59 (by decide) ?_
                  refine lv_iload hx hb dX11_calm_60 (lv_at hl 0 rfl) ?_
                  refine lv_ishl hx hb dX11_calm_62 ?_
                  refine lv_topi (fun z115 e_z115 => ?_)
                  have t_z115 : 1 ≤ z115.toInt ∧ z115.toInt ≤ 128 := by rw [e_z115]; exact shl_b (n := 7) (by omega) (by omega) (by decide)
                  refine lv_ior hx hb dX11_calm_63 ?_
                  refine lv_topi (fun z116 e_z116 => ?_)
                  refine lv_istore_n (lv' := [(3, .int z116), (4, .int x103), (0, .ref h0), (1, .int p1), (2, .int p2)]) hx hb dX11_calm_64 rfl hl (by decide) rfl (fun ls hl => ?_)
                  obtain ⟨z117, e_z117⟩ : ∃ y : Int32, y = x103 + 1 := ⟨_, rfl⟩
                  have t_z117 : z117.toInt = x103.toInt + 1 := by rw [e_z117]; exact addk (by decide) (by omega) (by omega)
                  refine lv_iinc (v := z117) (lv' := [(4, .int z117), (3, .int z116), (0, .ref h0), (1, .int p1), (2, .int p2)]) hx hb dX11_calm_65 hl (k := 1) rfl (by rw [e_z117]; rfl) (by decide) rfl (fun ls hl => ?_)
                  refine lv_goto (tgt := 30) hx hb dX11_calm_68 (by decide) ?_
                  exact ih106 z117 z116 _ _ ls (by omega) (by omega) (hP.sub [0, 2, 3, 1] rfl) (hD.sub [0, 2, 3, 1] (by decide) rfl) hS (lv_sub hl [0, 1, 2, 3, 4] rfl)
          have kc0 : (0 : Int32).toInt = 0 := by decide
          exact lp105 _ (0 : Int32) (0 : Int32) _ _ ls (by decide) (Nat.lt_succ_self _) hP hD hS (lv_sub hl [0, 1, 2, 3, 4] rfl)
        · have c10 := k_eq (a := (u6.1 0).toInt) (b := 0) rfl (by decide) c10
          exfalso; omega
set_option maxRecDepth 100000 in
set_option maxHeartbeats 4000000 in
theorem k_X11_shock (l : Launch) (g : GG) (h0 : Nat) (rd0 : Nat) (d0 : Nat) (im0 : Nat) (ig0 : Nat) (rw0 : Nat) (we0 : Nat) (mi0 : Nat) (re0 : Nat) (pl0 : Nat) (ri0 : Nat) (le0 : Nat) (dr0 : Nat) (dr1 : Nat) (dr2 : Nat) (dr3 : Nat) (dr4 : Nat) (dr5 : Nat) (dr6 : Nat) (dr7 : Nat) (dr8 : Nat) (dr9 : Nat) (dstates : Int32) (dreally : Int32) (ddays : Int32) (dheal : Int32) (dleak : Int32) (dlines : Int32) (dhearers : Int32) (dwords : Int32) (dplans : Int32) (dnews : Int32) (dthoughts : Nat → Int32) (dgrades : Nat → Int32) (p1 : Int32) (i_dstates : 0 ≤ dstates.toInt ∧ dstates.toInt ≤ 8) (i_dreally : 0 ≤ dreally.toInt ∧ dreally.toInt ≤ 7) (i_ddays : 0 ≤ ddays.toInt ∧ ddays.toInt ≤ 10) (i_dhearers : 0 ≤ dhearers.toInt ∧ dhearers.toInt ≤ 4) (i_dwords : 0 ≤ dwords.toInt ∧ dwords.toInt ≤ 8) (i_dplans : 0 ≤ dplans.toInt ∧ dplans.toInt ≤ 4) (i_dnews : 0 ≤ dnews.toInt ∧ dnews.toInt ≤ 6) : Ct l g yX11_shock cX11_shock 6 (some .int) { frames := 3, cells := 0, slots := 0, locals := 73 } [.ref h0, .int p1] [(h0, .inr (11, [.ref rd0, .ref d0, .ref im0, .ref ig0, .ref rw0, .ref we0, .ref mi0, .ref re0, .ref pl0, .ref ri0, .ref le0])), (d0, .inr (0, [.int dstates, .int dreally, .int ddays, .int dheal, .int dleak, .int dlines, .int dhearers, .int dwords, .int dplans, .int dnews, .ref dr0, .ref dr1, .ref dr2, .ref dr3, .ref dr4, .ref dr5, .ref dr6, .ref dr7, .ref dr8, .ref dr9])), (dr1, .inl (g.2 0, 32, .inl dthoughts)), (dr0, .inl (g.2 0, 8, .inl dgrades))] (S := (Nat → Int32) × (Nat → Nat → Int32) × (Nat → Nat → Int64)) (fun u => some (.int (u.1 0))) (fun u => True) (fun u => [(h0, .inr (11, [.ref rd0, .ref d0, .ref im0, .ref ig0, .ref rw0, .ref we0, .ref mi0, .ref re0, .ref pl0, .ref ri0, .ref le0])), (d0, .inr (0, [.int dstates, .int dreally, .int ddays, .int dheal, .int dleak, .int dlines, .int dhearers, .int dwords, .int dplans, .int dnews, .ref dr0, .ref dr1, .ref dr2, .ref dr3, .ref dr4, .ref dr5, .ref dr6, .ref dr7, .ref dr8, .ref dr9])), (dr1, .inl (g.2 0, 32, .inl dthoughts)), (dr0, .inl (g.2 0, 8, .inl dgrades))]) := by
  refine Ct.of (by decide) (Nat.le_of_ble_eq_true rfl) ?_
  intro p e s m below meth c A ls FX hP hD hS hl
  obtain ⟨FC, hr, hlk, hKn, hA, hnm, hZ⟩ := id FX
  have FC : CallFix p m c cX11_shock 6 s _ BIG RX11 := FC
  obtain ⟨hx, hb, hml, hown, hB⟩ := id FC
  have hl : lv_has ls 6 [(0, .ref h0), (1, .int p1)] := hl
  refine lv_aload_n hx hb dX11_shock_0 rfl (lv_at hl 0 rfl) ?_
  refine g_get (C := RX11) (T := TX11) (N := 11) (ci := 11) (v := .ref d0) FC hKn hP i_X11 0 rfl rfl 1 (by decide) b_310 rfl dX11_shock_1 ?_
  refine lv_iload_n hx hb dX11_shock_4 rfl (lv_at hl 1 rfl) ?_
  refine call_VN (As := [.int p1]) (rest := []) (wr := [(h0, .inr (11, [.ref rd0, .ref d0, .ref im0, .ref ig0, .ref rw0, .ref we0, .ref mi0, .ref re0, .ref pl0, .ref ri0, .ref le0])), (dr1, .inl (g.2 0, 32, .inl dthoughts)), (dr0, .inl (g.2 0, 8, .inl dgrades))]) FC hKn hZ (k_X0_hasHearer l g d0 dr0 dr1 dr2 dr3 dr4 dr5 dr6 dr7 dr8 dr9 dstates dreally ddays dheal dleak dlines dhearers dwords dplans dnews p1 (by omega) (by omega) (by omega) (by omega) (by omega) (by omega) (by omega)) m_yX0_hasHearer b_316 (ci := 0) rfl rfl rfl hP hD hS hA [1] [0, 2, 3] rfl (by decide) rfl (by decide) (by decide) rfl hl.1 rfl (Nat.le_of_ble_eq_true rfl) dX11_shock_5 ⟨(Nat.le_of_ble_eq_true rfl), (Nat.le_of_ble_eq_true rfl)⟩ ⟨(Nat.le_of_ble_eq_true rfl), (Nat.le_of_ble_eq_true rfl)⟩ (fun u1 H locs q2 hP hD hS => ?_)
  obtain ⟨q2_0, q2_1⟩ := q2
  have hP : va_P g.1 vwCl [(h0, .inr (11, [.ref rd0, .ref d0, .ref im0, .ref ig0, .ref rw0, .ref we0, .ref mi0, .ref re0, .ref pl0, .ref ri0, .ref le0])), (dr1, .inl (g.2 0, 32, .inl dthoughts)), (dr0, .inl (g.2 0, 8, .inl dgrades)), (d0, .inr (0, [.int dstates, .int dreally, .int ddays, .int dheal, .int dleak, .int dlines, .int dhearers, .int dwords, .int dplans, .int dnews, .ref dr0, .ref dr1, .ref dr2, .ref dr3, .ref dr4, .ref dr5, .ref dr6, .ref dr7, .ref dr8, .ref dr9]))] H := hP
  have hD : va_D A [(h0, .inr (11, [.ref rd0, .ref d0, .ref im0, .ref ig0, .ref rw0, .ref we0, .ref mi0, .ref re0, .ref pl0, .ref ri0, .ref le0])), (dr1, .inl (g.2 0, 32, .inl dthoughts)), (dr0, .inl (g.2 0, 8, .inl dgrades)), (d0, .inr (0, [.int dstates, .int dreally, .int ddays, .int dheal, .int dleak, .int dlines, .int dhearers, .int dwords, .int dplans, .int dnews, .ref dr0, .ref dr1, .ref dr2, .ref dr3, .ref dr4, .ref dr5, .ref dr6, .ref dr7, .ref dr8, .ref dr9]))] := hD
  refine W.eq (g2 := F0 m 8 ls [.int (u1.1 0)]) rfl ?_
  rcases (show (u1.1 0).toInt = 0 ∨ (u1.1 0).toInt = 1 by omega) with c3 | c3
  · skip
    refine lv_if_ne (tgt := 14) hx hb dX11_shock_8 (by decide) (fun c4 => ?_) (fun c4 => ?_)
    · have c4 := k_ne (a := (u1.1 0).toInt) (b := 0) rfl (by decide) c4
      exfalso; omega
    · have c4 := k_eq (a := (u1.1 0).toInt) (b := 0) rfl (by decide) c4
      refine lv_bipush (v := -2) hx hb dX11_shock_11 (by decide) ?_
      exact rt_i FX ((fun k => match k with | 0 => (-2 : Int32) | _ => 0), (fun _ => fun _ => 0), (fun _ => fun _ => 0)) rfl trivial (hP.sub [0, 3, 1, 2] rfl) (hD.sub [0, 3, 1, 2] (by decide) rfl) hS (Nat.le_of_ble_eq_true rfl) (Nat.le_of_ble_eq_true rfl) dX11_shock_13
  · have c3_r := q2_1 c3
    refine lv_if_ne (tgt := 14) hx hb dX11_shock_8 (by decide) (fun c5 => ?_) (fun c5 => ?_)
    · have c5 := k_ne (a := (u1.1 0).toInt) (b := 0) rfl (by decide) c5
      refine lv_iconst (v := 0) hx hb dX11_shock_14 (by decide) ?_
      refine lv_istore_n (lv' := [(2, .int 0), (0, .ref h0), (1, .int p1)]) hx hb dX11_shock_15 rfl hl (by decide) rfl (fun ls hl => ?_)
      refine lv_iconst (v := 0) hx hb dX11_shock_16 (by decide) ?_
      refine lv_istore_n (lv' := [(3, .int 0), (2, .int 0), (0, .ref h0), (1, .int p1)]) hx hb dX11_shock_17 rfl hl (by decide) rfl (fun ls hl => ?_)
      refine lv_iconst (v := 0) hx hb dX11_shock_18 (by decide) ?_
      refine lv_istore (lv' := [(4, .int 0), (3, .int 0), (2, .int 0), (0, .ref h0), (1, .int p1)]) hx hb dX11_shock_19 hl (by decide) rfl (fun ls hl => ?_)
      have lp98 : ∀ (n100 : Nat) (x95 : Int32) (x96 : Int32) (x97 : Int32) (H : Heap) (locs : List Loc) (ls : Array Slot), 0 ≤ x95.toInt ∧ x95.toInt ≤ 8 → 0 ≤ x96.toInt → 0 ≤ x97.toInt → (8 - x95.toInt).toNat < n100 → va_P g.1 vwCl [(h0, .inr (11, [.ref rd0, .ref d0, .ref im0, .ref ig0, .ref rw0, .ref we0, .ref mi0, .ref re0, .ref pl0, .ref ri0, .ref le0])), (dr1, .inl (g.2 0, 32, .inl dthoughts)), (dr0, .inl (g.2 0, 8, .inl dgrades)), (d0, .inr (0, [.int dstates, .int dreally, .int ddays, .int dheal, .int dleak, .int dlines, .int dhearers, .int dwords, .int dplans, .int dnews, .ref dr0, .ref dr1, .ref dr2, .ref dr3, .ref dr4, .ref dr5, .ref dr6, .ref dr7, .ref dr8, .ref dr9]))] H → va_D A [(h0, .inr (11, [.ref rd0, .ref d0, .ref im0, .ref ig0, .ref rw0, .ref we0, .ref mi0, .ref re0, .ref pl0, .ref ri0, .ref le0])), (dr1, .inl (g.2 0, 32, .inl dthoughts)), (dr0, .inl (g.2 0, 8, .inl dgrades)), (d0, .inr (0, [.int dstates, .int dreally, .int ddays, .int dheal, .int dleak, .int dlines, .int dhearers, .int dwords, .int dplans, .int dnews, .ref dr0, .ref dr1, .ref dr2, .ref dr3, .ref dr4, .ref dr5, .ref dr6, .ref dr7, .ref dr8, .ref dr9]))] → va_S A s.heap H locs → lv_has ls 6 [(4, .int x95), (3, .int x96), (2, .int x97), (0, .ref h0), (1, .int p1)] → W p l e { frames := 3, cells := 0, slots := 0, locals := 73 } s m ([.ref h0, .int p1].toArray) below meth c H locs 0 0 (MQ below (QX (S := (Nat → Int32) × (Nat → Nat → Int32) × (Nat → Nat → Int64)) (fun u => some (.int (u.1 0))) (fun u => True) g (fun u => [(h0, .inr (11, [.ref rd0, .ref d0, .ref im0, .ref ig0, .ref rw0, .ref we0, .ref mi0, .ref re0, .ref pl0, .ref ri0, .ref le0])), (d0, .inr (0, [.int dstates, .int dreally, .int ddays, .int dheal, .int dleak, .int dlines, .int dhearers, .int dwords, .int dplans, .int dnews, .ref dr0, .ref dr1, .ref dr2, .ref dr3, .ref dr4, .ref dr5, .ref dr6, .ref dr7, .ref dr8, .ref dr9])), (dr1, .inl (g.2 0, 32, .inl dthoughts)), (dr0, .inl (g.2 0, 8, .inl dgrades))]) A) ([.ref h0, .int p1].toArray) s 0 0 A) (F0 m 21 ls []) := by
        intro n100
        induction n100 with
        | zero =>
          intro x95 x96 x97 H locs ls h_x95 h_x96 h_x97 hn101
          exact absurd hn101 (Nat.not_lt_zero _)
        | succ n100 ih99 =>
          intro x95 x96 x97 H locs ls h_x95 h_x96 h_x97 hn101 hP hD hS hl
          refine lv_iload hx hb dX11_shock_21 (lv_at hl 0 rfl) ?_
          refine lv_aload_n hx hb dX11_shock_23 rfl (lv_at hl 3 rfl) ?_
          refine g_get (C := RX11) (T := TX11) (N := 11) (ci := 11) (v := .ref d0) FC hKn hP i_X11 0 rfl rfl 1 (by decide) b_310 rfl dX11_shock_24 ?_
          refine g_getN (C := RX0) (T := TX0) (N := 20) (ci := 0) (v := .int dstates) FC hKn hP i_X0 3 rfl rfl 0 (by decide) b_412 rfl dX11_shock_27 ?_
          refine lv_icmp_ge (tgt := 72) hx hb dX11_shock_30 (by decide) (fun c102 => ?_) (fun c102 => ?_)
          · have c102 := k_le (a := dstates.toInt) (b := x95.toInt) rfl rfl c102
            refine lv_iload_n hx hb dX11_shock_72 rfl (lv_at hl 2 rfl) ?_
            exact rt_i FX ((fun k => match k with | 0 => x97 | _ => 0), (fun _ => fun _ => 0), (fun _ => fun _ => 0)) rfl trivial (hP.sub [0, 3, 1, 2] rfl) (hD.sub [0, 3, 1, 2] (by decide) rfl) hS (Nat.le_of_ble_eq_true rfl) (Nat.le_of_ble_eq_true rfl) dX11_shock_73
          · have c102 := k_nle (a := dstates.toInt) (b := x95.toInt) rfl rfl c102
            refine lv_aload_n hx hb dX11_shock_33 rfl (lv_at hl 3 rfl) ?_
            refine g_get (C := RX11) (T := TX11) (N := 11) (ci := 11) (v := .ref d0) FC hKn hP i_X11 0 rfl rfl 1 (by decide) b_310 rfl dX11_shock_34 ?_
            refine lv_iload_n hx hb dX11_shock_37 rfl (lv_at hl 4 rfl) ?_
            refine lv_aload_n hx hb dX11_shock_38 rfl (lv_at hl 3 rfl) ?_
            refine g_get (C := RX11) (T := TX11) (N := 11) (ci := 11) (v := .ref d0) FC hKn hP i_X11 0 rfl rfl 1 (by decide) b_310 rfl dX11_shock_39 ?_
            refine call_VN (As := []) (rest := [.int p1, .ref d0]) (wr := [(h0, .inr (11, [.ref rd0, .ref d0, .ref im0, .ref ig0, .ref rw0, .ref we0, .ref mi0, .ref re0, .ref pl0, .ref ri0, .ref le0])), (dr1, .inl (g.2 0, 32, .inl dthoughts)), (dr0, .inl (g.2 0, 8, .inl dgrades))]) FC hKn hZ (k_X0_everything l g d0 dr0 dr1 dr2 dr3 dr4 dr5 dr6 dr7 dr8 dr9 dstates dreally ddays dheal dleak dlines dhearers dwords dplans dnews (by omega) (by omega) (by omega) (by omega) (by omega) (by omega) (by omega)) m_yX0_everything b_413 (ci := 0) rfl rfl rfl hP hD hS hA [3] [0, 1, 2] rfl (by decide) rfl (by decide) (by decide) rfl hl.1 rfl (Nat.le_of_ble_eq_true rfl) dX11_shock_42 ⟨(Nat.le_of_ble_eq_true rfl), (Nat.le_of_ble_eq_true rfl)⟩ ⟨(Nat.le_of_ble_eq_true rfl), (Nat.le_of_ble_eq_true rfl)⟩ (fun u103 H locs q104 hP hD hS => ?_)
            have q104_0 : 0 ≤ (u103.1 0).toInt ∧ (u103.1 0).toInt ≤ 255 := q104
            have hP : va_P g.1 vwCl [(h0, .inr (11, [.ref rd0, .ref d0, .ref im0, .ref ig0, .ref rw0, .ref we0, .ref mi0, .ref re0, .ref pl0, .ref ri0, .ref le0])), (dr1, .inl (g.2 0, 32, .inl dthoughts)), (dr0, .inl (g.2 0, 8, .inl dgrades)), (d0, .inr (0, [.int dstates, .int dreally, .int ddays, .int dheal, .int dleak, .int dlines, .int dhearers, .int dwords, .int dplans, .int dnews, .ref dr0, .ref dr1, .ref dr2, .ref dr3, .ref dr4, .ref dr5, .ref dr6, .ref dr7, .ref dr8, .ref dr9]))] H := hP
            have hD : va_D A [(h0, .inr (11, [.ref rd0, .ref d0, .ref im0, .ref ig0, .ref rw0, .ref we0, .ref mi0, .ref re0, .ref pl0, .ref ri0, .ref le0])), (dr1, .inl (g.2 0, 32, .inl dthoughts)), (dr0, .inl (g.2 0, 8, .inl dgrades)), (d0, .inr (0, [.int dstates, .int dreally, .int ddays, .int dheal, .int dleak, .int dlines, .int dhearers, .int dwords, .int dplans, .int dnews, .ref dr0, .ref dr1, .ref dr2, .ref dr3, .ref dr4, .ref dr5, .ref dr6, .ref dr7, .ref dr8, .ref dr9]))] := hD
            refine W.eq (g2 := F0 m 45 ls [.int (u103.1 0), .int p1, .ref d0]) rfl ?_
            refine lv_iconst (v := 1) hx hb dX11_shock_45 (by decide) ?_
            refine lv_iload hx hb dX11_shock_46 (lv_at hl 0 rfl) ?_
            refine lv_ishl hx hb dX11_shock_48 ?_
            refine lv_topi (fun z105 e_z105 => ?_)
            have t_z105 : 1 ≤ z105.toInt ∧ z105.toInt ≤ 128 := by rw [e_z105]; exact shl_b (n := 7) (by omega) (by omega) (by decide)
            refine call_VN (As := [.int p1, .int (u103.1 0), .int z105]) (rest := []) (wr := [(h0, .inr (11, [.ref rd0, .ref d0, .ref im0, .ref ig0, .ref rw0, .ref we0, .ref mi0, .ref re0, .ref pl0, .ref ri0, .ref le0]))]) FC hKn hZ (k_X0_hurtBetween l g d0 dr0 dr1 dr2 dr3 dr4 dr5 dr6 dr7 dr8 dr9 dstates dreally ddays dheal dleak dlines dhearers dwords dplans dnews dthoughts dgrades p1 (u103.1 0) z105 (by omega) (by omega) (by omega) (by omega) (by omega) (by omega) (by omega) (by omega)) m_yX0_hurtBetween b_406 (ci := 0) rfl rfl rfl hP hD hS hA [3, 1, 2] [0] rfl (by decide) rfl (by decide) (by decide) rfl hl.1 rfl (Nat.le_of_ble_eq_true rfl) dX11_shock_49 ⟨(Nat.le_of_ble_eq_true rfl), (Nat.le_of_ble_eq_true rfl)⟩ ⟨(Nat.le_of_ble_eq_true rfl), (Nat.le_of_ble_eq_true rfl)⟩ (fun u106 H locs q107 hP hD hS => ?_)
            have hP : va_P g.1 vwCl [(h0, .inr (11, [.ref rd0, .ref d0, .ref im0, .ref ig0, .ref rw0, .ref we0, .ref mi0, .ref re0, .ref pl0, .ref ri0, .ref le0])), (d0, .inr (0, [.int dstates, .int dreally, .int ddays, .int dheal, .int dleak, .int dlines, .int dhearers, .int dwords, .int dplans, .int dnews, .ref dr0, .ref dr1, .ref dr2, .ref dr3, .ref dr4, .ref dr5, .ref dr6, .ref dr7, .ref dr8, .ref dr9])), (dr1, .inl (g.2 0, 32, .inl dthoughts)), (dr0, .inl (g.2 0, 8, .inl dgrades))] H := hP
            have hD : va_D A [(h0, .inr (11, [.ref rd0, .ref d0, .ref im0, .ref ig0, .ref rw0, .ref we0, .ref mi0, .ref re0, .ref pl0, .ref ri0, .ref le0])), (d0, .inr (0, [.int dstates, .int dreally, .int ddays, .int dheal, .int dleak, .int dlines, .int dhearers, .int dwords, .int dplans, .int dnews, .ref dr0, .ref dr1, .ref dr2, .ref dr3, .ref dr4, .ref dr5, .ref dr6, .ref dr7, .ref dr8, .ref dr9])), (dr1, .inl (g.2 0, 32, .inl dthoughts)), (dr0, .inl (g.2 0, 8, .inl dgrades))] := hD
            refine W.eq (g2 := F0 m 52 ls [.int (u106.1 0)]) rfl ?_
            refine lv_istore (lv' := [(5, .int (u106.1 0)), (4, .int x95), (3, .int x96), (2, .int x97), (0, .ref h0), (1, .int p1)]) hx hb dX11_shock_52 hl (by decide) rfl (fun ls hl => ?_)
            refine lv_iload hx hb dX11_shock_54 (lv_at hl 0 rfl) ?_
            refine lv_iload_n hx hb dX11_shock_56 rfl (lv_at hl 2 rfl) ?_
            refine lv_icmp_le (tgt := 66) hx hb dX11_shock_57 (by decide) (fun c108 => ?_) (fun c108 => ?_)
            · have c108 := k_le (a := (u106.1 0).toInt) (b := x96.toInt) rfl rfl c108
              obtain ⟨z109, e_z109⟩ : ∃ y : Int32, y = x95 + 1 := ⟨_, rfl⟩
              have t_z109 : z109.toInt = x95.toInt + 1 := by rw [e_z109]; exact addk (by decide) (by omega) (by omega)
              refine lv_iinc (v := z109) (lv' := [(4, .int z109), (5, .int (u106.1 0)), (3, .int x96), (2, .int x97), (0, .ref h0), (1, .int p1)]) hx hb dX11_shock_66 hl (k := 1) rfl (by rw [e_z109]; rfl) (by decide) rfl (fun ls hl => ?_)
              refine lv_goto (tgt := 21) hx hb dX11_shock_69 (by decide) ?_
              exact ih99 z109 x96 x97 _ _ ls (by omega) (by omega) (by omega) (by omega) (hP.sub [0, 2, 3, 1] rfl) (hD.sub [0, 2, 3, 1] (by decide) rfl) hS (lv_sub hl [0, 2, 3, 4, 5] rfl)
            · have c108 := k_nle (a := (u106.1 0).toInt) (b := x96.toInt) rfl rfl c108
              refine lv_iload hx hb dX11_shock_60 (lv_at hl 0 rfl) ?_
              refine lv_istore_n (lv' := [(3, .int (u106.1 0)), (5, .int (u106.1 0)), (4, .int x95), (2, .int x97), (0, .ref h0), (1, .int p1)]) hx hb dX11_shock_62 rfl hl (by decide) rfl (fun ls hl => ?_)
              refine lv_iload hx hb dX11_shock_63 (lv_at hl 2 rfl) ?_
              refine lv_istore_n (lv' := [(2, .int x95), (3, .int (u106.1 0)), (5, .int (u106.1 0)), (4, .int x95), (0, .ref h0), (1, .int p1)]) hx hb dX11_shock_65 rfl hl (by decide) rfl (fun ls hl => ?_)
              obtain ⟨z110, e_z110⟩ : ∃ y : Int32, y = x95 + 1 := ⟨_, rfl⟩
              have t_z110 : z110.toInt = x95.toInt + 1 := by rw [e_z110]; exact addk (by decide) (by omega) (by omega)
              refine lv_iinc (v := z110) (lv' := [(4, .int z110), (2, .int x95), (3, .int (u106.1 0)), (5, .int (u106.1 0)), (0, .ref h0), (1, .int p1)]) hx hb dX11_shock_66 hl (k := 3) rfl (by rw [e_z110]; rfl) (by decide) rfl (fun ls hl => ?_)
              refine lv_goto (tgt := 21) hx hb dX11_shock_69 (by decide) ?_
              exact ih99 z110 (u106.1 0) x95 _ _ ls (by omega) (by omega) (by omega) (by omega) (hP.sub [0, 2, 3, 1] rfl) (hD.sub [0, 2, 3, 1] (by decide) rfl) hS (lv_sub hl [0, 2, 1, 4, 5] rfl)
      have kc0 : (0 : Int32).toInt = 0 := by decide
      exact lp98 _ (0 : Int32) (0 : Int32) (0 : Int32) _ _ ls (by decide) (by decide) (by decide) (Nat.lt_succ_self _) hP hD hS (lv_sub hl [0, 1, 2, 3, 4] rfl)
    · have c5 := k_eq (a := (u1.1 0).toInt) (b := 0) rfl (by decide) c5
      exfalso; omega
set_option maxRecDepth 100000 in
set_option maxHeartbeats 4000000 in
theorem k_X11_unsaid (l : Launch) (g : GG) (h0 : Nat) (rd0 : Nat) (d0 : Nat) (im0 : Nat) (ig0 : Nat) (rw0 : Nat) (we0 : Nat) (mi0 : Nat) (re0 : Nat) (pl0 : Nat) (ri0 : Nat) (le0 : Nat) (dr0 : Nat) (dr1 : Nat) (dr2 : Nat) (dr3 : Nat) (dr4 : Nat) (dr5 : Nat) (dr6 : Nat) (dr7 : Nat) (dr8 : Nat) (dr9 : Nat) (dstates : Int32) (dreally : Int32) (ddays : Int32) (dheal : Int32) (dleak : Int32) (dlines : Int32) (dhearers : Int32) (dwords : Int32) (dplans : Int32) (dnews : Int32) (dmeanings : Nat → Int32) (i_dstates : 0 ≤ dstates.toInt ∧ dstates.toInt ≤ 8) (i_dreally : 0 ≤ dreally.toInt ∧ dreally.toInt ≤ 7) (i_ddays : 0 ≤ ddays.toInt ∧ ddays.toInt ≤ 10) (i_dhearers : 0 ≤ dhearers.toInt ∧ dhearers.toInt ≤ 4) (i_dwords : 0 ≤ dwords.toInt ∧ dwords.toInt ≤ 8) (i_dplans : 0 ≤ dplans.toInt ∧ dplans.toInt ≤ 4) (i_dnews : 0 ≤ dnews.toInt ∧ dnews.toInt ≤ 6) (i_dmeanings : ab dmeanings 8 0 255) : Ct l g yX11_unsaid cX11_unsaid 3 (some .int) { frames := 2, cells := 0, slots := 0, locals := 43 } [.ref h0] [(h0, .inr (11, [.ref rd0, .ref d0, .ref im0, .ref ig0, .ref rw0, .ref we0, .ref mi0, .ref re0, .ref pl0, .ref ri0, .ref le0])), (d0, .inr (0, [.int dstates, .int dreally, .int ddays, .int dheal, .int dleak, .int dlines, .int dhearers, .int dwords, .int dplans, .int dnews, .ref dr0, .ref dr1, .ref dr2, .ref dr3, .ref dr4, .ref dr5, .ref dr6, .ref dr7, .ref dr8, .ref dr9])), (dr5, .inl (g.2 0, 8, .inl dmeanings))] (S := (Nat → Int32) × (Nat → Nat → Int32) × (Nat → Nat → Int64)) (fun u => some (.int (u.1 0))) (fun u => True) (fun u => [(h0, .inr (11, [.ref rd0, .ref d0, .ref im0, .ref ig0, .ref rw0, .ref we0, .ref mi0, .ref re0, .ref pl0, .ref ri0, .ref le0])), (d0, .inr (0, [.int dstates, .int dreally, .int ddays, .int dheal, .int dleak, .int dlines, .int dhearers, .int dwords, .int dplans, .int dnews, .ref dr0, .ref dr1, .ref dr2, .ref dr3, .ref dr4, .ref dr5, .ref dr6, .ref dr7, .ref dr8, .ref dr9])), (dr5, .inl (g.2 0, 8, .inl dmeanings))]) := by
  refine Ct.of (by decide) (Nat.le_of_ble_eq_true rfl) ?_
  intro p e s m below meth c A ls FX hP hD hS hl
  obtain ⟨FC, hr, hlk, hKn, hA, hnm, hZ⟩ := id FX
  have FC : CallFix p m c cX11_unsaid 3 s _ BIG RX11 := FC
  obtain ⟨hx, hb, hml, hown, hB⟩ := id FC
  have hl : lv_has ls 3 [(0, .ref h0)] := hl
  refine lv_aload_n hx hb dX11_unsaid_0 rfl (lv_at hl 0 rfl) ?_
  refine g_get (C := RX11) (T := TX11) (N := 11) (ci := 11) (v := .ref d0) FC hKn hP i_X11 0 rfl rfl 1 (by decide) b_310 rfl dX11_unsaid_1 ?_
  refine call_VN (As := []) (rest := []) (wr := [(h0, .inr (11, [.ref rd0, .ref d0, .ref im0, .ref ig0, .ref rw0, .ref we0, .ref mi0, .ref re0, .ref pl0, .ref ri0, .ref le0])), (dr5, .inl (g.2 0, 8, .inl dmeanings))]) FC hKn hZ (k_X0_stands l g d0 dr0 dr1 dr2 dr3 dr4 dr5 dr6 dr7 dr8 dr9 dstates dreally ddays dheal dleak dlines dhearers dwords dplans dnews (by omega) (by omega) (by omega) (by omega) (by omega) (by omega) (by omega)) m_yX0_stands b_311 (ci := 0) rfl rfl rfl hP hD hS hA [1] [0, 2] rfl (by decide) rfl (by decide) (by decide) rfl hl.1 rfl (Nat.le_of_ble_eq_true rfl) dX11_unsaid_4 ⟨(Nat.le_of_ble_eq_true rfl), (Nat.le_of_ble_eq_true rfl)⟩ ⟨(Nat.le_of_ble_eq_true rfl), (Nat.le_of_ble_eq_true rfl)⟩ (fun u1 H locs q2 hP hD hS => ?_)
  have q2_0 : 0 ≤ (u1.1 0).toInt ∧ (u1.1 0).toInt ≤ 1 := q2
  have hP : va_P g.1 vwCl [(h0, .inr (11, [.ref rd0, .ref d0, .ref im0, .ref ig0, .ref rw0, .ref we0, .ref mi0, .ref re0, .ref pl0, .ref ri0, .ref le0])), (dr5, .inl (g.2 0, 8, .inl dmeanings)), (d0, .inr (0, [.int dstates, .int dreally, .int ddays, .int dheal, .int dleak, .int dlines, .int dhearers, .int dwords, .int dplans, .int dnews, .ref dr0, .ref dr1, .ref dr2, .ref dr3, .ref dr4, .ref dr5, .ref dr6, .ref dr7, .ref dr8, .ref dr9]))] H := hP
  have hD : va_D A [(h0, .inr (11, [.ref rd0, .ref d0, .ref im0, .ref ig0, .ref rw0, .ref we0, .ref mi0, .ref re0, .ref pl0, .ref ri0, .ref le0])), (dr5, .inl (g.2 0, 8, .inl dmeanings)), (d0, .inr (0, [.int dstates, .int dreally, .int ddays, .int dheal, .int dleak, .int dlines, .int dhearers, .int dwords, .int dplans, .int dnews, .ref dr0, .ref dr1, .ref dr2, .ref dr3, .ref dr4, .ref dr5, .ref dr6, .ref dr7, .ref dr8, .ref dr9]))] := hD
  refine W.eq (g2 := F0 m 7 ls [.int (u1.1 0)]) rfl ?_
  refine lv_if_ne (tgt := 13) hx hb dX11_unsaid_7 (by decide) (fun c3 => ?_) (fun c3 => ?_)
  · have c3 := k_ne (a := (u1.1 0).toInt) (b := 0) rfl (by decide) c3
    refine lv_iconst (v := 0) hx hb dX11_unsaid_13 (by decide) ?_
    refine lv_istore_n (lv' := [(1, .int 0), (0, .ref h0)]) hx hb dX11_unsaid_14 rfl hl (by decide) rfl (fun ls hl => ?_)
    refine lv_iconst (v := 0) hx hb dX11_unsaid_15 (by decide) ?_
    refine lv_istore_n (lv' := [(2, .int 0), (1, .int 0), (0, .ref h0)]) hx hb dX11_unsaid_16 rfl hl (by decide) rfl (fun ls hl => ?_)
    have lp98 : ∀ (n100 : Nat) (x96 : Int32) (x97 : Int32) (H : Heap) (locs : List Loc) (ls : Array Slot), 0 ≤ x96.toInt ∧ x96.toInt ≤ 8 → (8 - x96.toInt).toNat < n100 → va_P g.1 vwCl [(h0, .inr (11, [.ref rd0, .ref d0, .ref im0, .ref ig0, .ref rw0, .ref we0, .ref mi0, .ref re0, .ref pl0, .ref ri0, .ref le0])), (dr5, .inl (g.2 0, 8, .inl dmeanings)), (d0, .inr (0, [.int dstates, .int dreally, .int ddays, .int dheal, .int dleak, .int dlines, .int dhearers, .int dwords, .int dplans, .int dnews, .ref dr0, .ref dr1, .ref dr2, .ref dr3, .ref dr4, .ref dr5, .ref dr6, .ref dr7, .ref dr8, .ref dr9]))] H → va_D A [(h0, .inr (11, [.ref rd0, .ref d0, .ref im0, .ref ig0, .ref rw0, .ref we0, .ref mi0, .ref re0, .ref pl0, .ref ri0, .ref le0])), (dr5, .inl (g.2 0, 8, .inl dmeanings)), (d0, .inr (0, [.int dstates, .int dreally, .int ddays, .int dheal, .int dleak, .int dlines, .int dhearers, .int dwords, .int dplans, .int dnews, .ref dr0, .ref dr1, .ref dr2, .ref dr3, .ref dr4, .ref dr5, .ref dr6, .ref dr7, .ref dr8, .ref dr9]))] → va_S A s.heap H locs → lv_has ls 3 [(2, .int x96), (1, .int x97), (0, .ref h0)] → W p l e { frames := 2, cells := 0, slots := 0, locals := 43 } s m ([.ref h0].toArray) below meth c H locs 0 0 (MQ below (QX (S := (Nat → Int32) × (Nat → Nat → Int32) × (Nat → Nat → Int64)) (fun u => some (.int (u.1 0))) (fun u => True) g (fun u => [(h0, .inr (11, [.ref rd0, .ref d0, .ref im0, .ref ig0, .ref rw0, .ref we0, .ref mi0, .ref re0, .ref pl0, .ref ri0, .ref le0])), (d0, .inr (0, [.int dstates, .int dreally, .int ddays, .int dheal, .int dleak, .int dlines, .int dhearers, .int dwords, .int dplans, .int dnews, .ref dr0, .ref dr1, .ref dr2, .ref dr3, .ref dr4, .ref dr5, .ref dr6, .ref dr7, .ref dr8, .ref dr9])), (dr5, .inl (g.2 0, 8, .inl dmeanings))]) A) ([.ref h0].toArray) s 0 0 A) (F0 m 17 ls []) := by
      intro n100
      induction n100 with
      | zero =>
        intro x96 x97 H locs ls h_x96 hn101
        exact absurd hn101 (Nat.not_lt_zero _)
      | succ n100 ih99 =>
        intro x96 x97 H locs ls h_x96 hn101 hP hD hS hl
        refine lv_iload_n hx hb dX11_unsaid_17 rfl (lv_at hl 0 rfl) ?_
        refine lv_aload_n hx hb dX11_unsaid_18 rfl (lv_at hl 2 rfl) ?_
        refine g_get (C := RX11) (T := TX11) (N := 11) (ci := 11) (v := .ref d0) FC hKn hP i_X11 0 rfl rfl 1 (by decide) b_310 rfl dX11_unsaid_19 ?_
        refine g_getN (C := RX0) (T := TX0) (N := 20) (ci := 0) (v := .int dstates) FC hKn hP i_X0 2 rfl rfl 0 (by decide) b_412 rfl dX11_unsaid_22 ?_
        refine lv_icmp_ge (tgt := 54) hx hb dX11_unsaid_25 (by decide) (fun c102 => ?_) (fun c102 => ?_)
        · have c102 := k_le (a := dstates.toInt) (b := x96.toInt) rfl rfl c102
          refine lv_iload_n hx hb dX11_unsaid_54 rfl (lv_at hl 1 rfl) ?_
          exact rt_i FX ((fun k => match k with | 0 => x97 | _ => 0), (fun _ => fun _ => 0), (fun _ => fun _ => 0)) rfl trivial (hP.sub [0, 2, 1] rfl) (hD.sub [0, 2, 1] (by decide) rfl) hS (Nat.le_of_ble_eq_true rfl) (Nat.le_of_ble_eq_true rfl) dX11_unsaid_55
        · have c102 := k_nle (a := dstates.toInt) (b := x96.toInt) rfl rfl c102
          refine lv_aload_n hx hb dX11_unsaid_28 rfl (lv_at hl 2 rfl) ?_
          refine g_get (C := RX11) (T := TX11) (N := 11) (ci := 11) (v := .ref d0) FC hKn hP i_X11 0 rfl rfl 1 (by decide) b_310 rfl dX11_unsaid_29 ?_
          refine lv_iload_n hx hb dX11_unsaid_32 rfl (lv_at hl 0 rfl) ?_
          refine call_VN (As := [.int x96]) (rest := []) (wr := [(h0, .inr (11, [.ref rd0, .ref d0, .ref im0, .ref ig0, .ref rw0, .ref we0, .ref mi0, .ref re0, .ref pl0, .ref ri0, .ref le0]))]) FC hKn hZ (k_X0_sharpest l g d0 dr0 dr1 dr2 dr3 dr4 dr5 dr6 dr7 dr8 dr9 dstates dreally ddays dheal dleak dlines dhearers dwords dplans dnews dmeanings x96 (by omega) (by omega) (by omega) (by omega) (by omega) (by omega) (by omega) i_dmeanings) m_yX0_sharpest b_414 (ci := 0) rfl rfl rfl hP hD hS hA [2, 1] [0] rfl (by decide) rfl (by decide) (by decide) rfl hl.1 rfl (Nat.le_of_ble_eq_true rfl) dX11_unsaid_33 ⟨(Nat.le_of_ble_eq_true rfl), (Nat.le_of_ble_eq_true rfl)⟩ ⟨(Nat.le_of_ble_eq_true rfl), (Nat.le_of_ble_eq_true rfl)⟩ (fun u103 H locs q104 hP hD hS => ?_)
          have hP : va_P g.1 vwCl [(h0, .inr (11, [.ref rd0, .ref d0, .ref im0, .ref ig0, .ref rw0, .ref we0, .ref mi0, .ref re0, .ref pl0, .ref ri0, .ref le0])), (d0, .inr (0, [.int dstates, .int dreally, .int ddays, .int dheal, .int dleak, .int dlines, .int dhearers, .int dwords, .int dplans, .int dnews, .ref dr0, .ref dr1, .ref dr2, .ref dr3, .ref dr4, .ref dr5, .ref dr6, .ref dr7, .ref dr8, .ref dr9])), (dr5, .inl (g.2 0, 8, .inl dmeanings))] H := hP
          have hD : va_D A [(h0, .inr (11, [.ref rd0, .ref d0, .ref im0, .ref ig0, .ref rw0, .ref we0, .ref mi0, .ref re0, .ref pl0, .ref ri0, .ref le0])), (d0, .inr (0, [.int dstates, .int dreally, .int ddays, .int dheal, .int dleak, .int dlines, .int dhearers, .int dwords, .int dplans, .int dnews, .ref dr0, .ref dr1, .ref dr2, .ref dr3, .ref dr4, .ref dr5, .ref dr6, .ref dr7, .ref dr8, .ref dr9])), (dr5, .inl (g.2 0, 8, .inl dmeanings))] := hD
          refine W.eq (g2 := F0 m 36 ls [.int (u103.1 0)]) rfl ?_
          refine lv_iconst (v := 1) hx hb dX11_unsaid_36 (by decide) ?_
          refine lv_iload_n hx hb dX11_unsaid_37 rfl (lv_at hl 0 rfl) ?_
          refine lv_ishl hx hb dX11_unsaid_38 ?_
          refine lv_topi (fun z105 e_z105 => ?_)
          have t_z105 : 1 ≤ z105.toInt ∧ z105.toInt ≤ 128 := by rw [e_z105]; exact shl_b (n := 7) (by omega) (by omega) (by decide)
          refine lv_icmp_eq (tgt := 48) hx hb dX11_unsaid_39 (by decide) (fun c106 => ?_) (fun c106 => ?_)
          · have c106 := k_eq (a := (u103.1 0).toInt) (b := z105.toInt) rfl rfl c106
            obtain ⟨z107, e_z107⟩ : ∃ y : Int32, y = x96 + 1 := ⟨_, rfl⟩
            have t_z107 : z107.toInt = x96.toInt + 1 := by rw [e_z107]; exact addk (by decide) (by omega) (by omega)
            refine lv_iinc (v := z107) (lv' := [(2, .int z107), (1, .int x97), (0, .ref h0)]) hx hb dX11_unsaid_48 hl (k := 0) rfl (by rw [e_z107]; rfl) (by decide) rfl (fun ls hl => ?_)
            refine lv_goto (tgt := 17) hx hb dX11_unsaid_51 (by decide) ?_
            exact ih99 z107 x97 _ _ ls (by omega) (by omega) (hP.sub [0, 2, 1] rfl) (hD.sub [0, 2, 1] (by decide) rfl) hS (lv_sub hl [0, 1, 2] rfl)
          · have c106 := k_ne (a := (u103.1 0).toInt) (b := z105.toInt) rfl rfl c106
            refine lv_iload_n hx hb dX11_unsaid_42 rfl (lv_at hl 1 rfl) ?_
            refine lv_iconst (v := 1) hx hb dX11_unsaid_43 (by decide) ?_
            refine lv_iload_n hx hb dX11_unsaid_44 rfl (lv_at hl 0 rfl) ?_
            refine lv_ishl hx hb dX11_unsaid_45 ?_
            refine lv_topi (fun z108 e_z108 => ?_)
            have t_z108 : 1 ≤ z108.toInt ∧ z108.toInt ≤ 128 := by rw [e_z108]; exact shl_b (n := 7) (by omega) (by omega) (by decide)
            refine lv_ior hx hb dX11_unsaid_46 ?_
            refine lv_topi (fun z109 e_z109 => ?_)
            refine lv_istore_n (lv' := [(1, .int z109), (2, .int x96), (0, .ref h0)]) hx hb dX11_unsaid_47 rfl hl (by decide) rfl (fun ls hl => ?_)
            obtain ⟨z110, e_z110⟩ : ∃ y : Int32, y = x96 + 1 := ⟨_, rfl⟩
            have t_z110 : z110.toInt = x96.toInt + 1 := by rw [e_z110]; exact addk (by decide) (by omega) (by omega)
            refine lv_iinc (v := z110) (lv' := [(2, .int z110), (1, .int z109), (0, .ref h0)]) hx hb dX11_unsaid_48 hl (k := 1) rfl (by rw [e_z110]; rfl) (by decide) rfl (fun ls hl => ?_)
            refine lv_goto (tgt := 17) hx hb dX11_unsaid_51 (by decide) ?_
            exact ih99 z110 z109 _ _ ls (by omega) (by omega) (hP.sub [0, 2, 1] rfl) (hD.sub [0, 2, 1] (by decide) rfl) hS (lv_sub hl [0, 1, 2] rfl)
    have kc0 : (0 : Int32).toInt = 0 := by decide
    exact lp98 _ (0 : Int32) (0 : Int32) _ _ ls (by decide) (Nat.lt_succ_self _) hP hD hS (lv_sub hl [0, 1, 2] rfl)
  · have c3 := k_eq (a := (u1.1 0).toInt) (b := 0) rfl (by decide) c3
    refine lv_bipush (v := -2) hx hb dX11_unsaid_10 (by decide) ?_
    exact rt_i FX ((fun k => match k with | 0 => (-2 : Int32) | _ => 0), (fun _ => fun _ => 0), (fun _ => fun _ => 0)) rfl trivial (hP.sub [0, 2, 1] rfl) (hD.sub [0, 2, 1] (by decide) rfl) hS (Nat.le_of_ble_eq_true rfl) (Nat.le_of_ble_eq_true rfl) dX11_unsaid_12
set_option maxRecDepth 100000 in
set_option maxHeartbeats 4000000 in
theorem k_X11_ends (l : Launch) (g : GG) (h0 : Nat) (rd0 : Nat) (d0 : Nat) (im0 : Nat) (ig0 : Nat) (rw0 : Nat) (we0 : Nat) (mi0 : Nat) (re0 : Nat) (pl0 : Nat) (ri0 : Nat) (le0 : Nat) (dr0 : Nat) (dr1 : Nat) (dr2 : Nat) (dr3 : Nat) (dr4 : Nat) (dr5 : Nat) (dr6 : Nat) (dr7 : Nat) (dr8 : Nat) (dr9 : Nat) (dstates : Int32) (dreally : Int32) (ddays : Int32) (dheal : Int32) (dleak : Int32) (dlines : Int32) (dhearers : Int32) (dwords : Int32) (dplans : Int32) (dnews : Int32) (dmeanings : Nat → Int32) (dplanSizes : Nat → Int32) (dplanWords : Nat → Int32) (p1 : Int32) (i_dstates : 0 ≤ dstates.toInt ∧ dstates.toInt ≤ 8) (i_dreally : 0 ≤ dreally.toInt ∧ dreally.toInt ≤ 7) (i_ddays : 0 ≤ ddays.toInt ∧ ddays.toInt ≤ 10) (i_dhearers : 0 ≤ dhearers.toInt ∧ dhearers.toInt ≤ 4) (i_dwords : 0 ≤ dwords.toInt ∧ dwords.toInt ≤ 8) (i_dplans : 0 ≤ dplans.toInt ∧ dplans.toInt ≤ 4) (i_dnews : 0 ≤ dnews.toInt ∧ dnews.toInt ≤ 6) (i_dmeanings : ab dmeanings 8 0 255) (i_dplanSizes : ab dplanSizes 4 0 5) : Ct l g yX11_ends cX11_ends 2 (some .int) { frames := 3, cells := 0, slots := 0, locals := 67 } [.ref h0, .int p1] [(h0, .inr (11, [.ref rd0, .ref d0, .ref im0, .ref ig0, .ref rw0, .ref we0, .ref mi0, .ref re0, .ref pl0, .ref ri0, .ref le0])), (d0, .inr (0, [.int dstates, .int dreally, .int ddays, .int dheal, .int dleak, .int dlines, .int dhearers, .int dwords, .int dplans, .int dnews, .ref dr0, .ref dr1, .ref dr2, .ref dr3, .ref dr4, .ref dr5, .ref dr6, .ref dr7, .ref dr8, .ref dr9])), (dr5, .inl (g.2 0, 8, .inl dmeanings)), (dr6, .inl (g.2 0, 4, .inl dplanSizes)), (dr7, .inl (g.2 0, 20, .inl dplanWords))] (S := (Nat → Int32) × (Nat → Nat → Int32) × (Nat → Nat → Int64)) (fun u => some (.int (u.1 0))) (fun u => True) (fun u => [(h0, .inr (11, [.ref rd0, .ref d0, .ref im0, .ref ig0, .ref rw0, .ref we0, .ref mi0, .ref re0, .ref pl0, .ref ri0, .ref le0])), (d0, .inr (0, [.int dstates, .int dreally, .int ddays, .int dheal, .int dleak, .int dlines, .int dhearers, .int dwords, .int dplans, .int dnews, .ref dr0, .ref dr1, .ref dr2, .ref dr3, .ref dr4, .ref dr5, .ref dr6, .ref dr7, .ref dr8, .ref dr9])), (dr5, .inl (g.2 0, 8, .inl dmeanings)), (dr6, .inl (g.2 0, 4, .inl dplanSizes)), (dr7, .inl (g.2 0, 20, .inl dplanWords))]) := by
  refine Ct.of (by decide) (Nat.le_of_ble_eq_true rfl) ?_
  intro p e s m below meth c A ls FX hP hD hS hl
  obtain ⟨FC, hr, hlk, hKn, hA, hnm, hZ⟩ := id FX
  have FC : CallFix p m c cX11_ends 2 s _ BIG RX11 := FC
  obtain ⟨hx, hb, hml, hown, hB⟩ := id FC
  have hl : lv_has ls 2 [(0, .ref h0), (1, .int p1)] := hl
  refine lv_aload_n hx hb dX11_ends_0 rfl (lv_at hl 0 rfl) ?_
  refine g_get (C := RX11) (T := TX11) (N := 11) (ci := 11) (v := .ref d0) FC hKn hP i_X11 0 rfl rfl 1 (by decide) b_310 rfl dX11_ends_1 ?_
  refine lv_iload_n hx hb dX11_ends_4 rfl (lv_at hl 1 rfl) ?_
  refine call_VN (As := [.int p1]) (rest := []) (wr := [(h0, .inr (11, [.ref rd0, .ref d0, .ref im0, .ref ig0, .ref rw0, .ref we0, .ref mi0, .ref re0, .ref pl0, .ref ri0, .ref le0])), (dr5, .inl (g.2 0, 8, .inl dmeanings)), (dr6, .inl (g.2 0, 4, .inl dplanSizes)), (dr7, .inl (g.2 0, 20, .inl dplanWords))]) FC hKn hZ (k_X0_hasPlan l g d0 dr0 dr1 dr2 dr3 dr4 dr5 dr6 dr7 dr8 dr9 dstates dreally ddays dheal dleak dlines dhearers dwords dplans dnews p1 (by omega) (by omega) (by omega) (by omega) (by omega) (by omega) (by omega)) m_yX0_hasPlan b_396 (ci := 0) rfl rfl rfl hP hD hS hA [1] [0, 2, 3, 4] rfl (by decide) rfl (by decide) (by decide) rfl hl.1 rfl (Nat.le_of_ble_eq_true rfl) dX11_ends_5 ⟨(Nat.le_of_ble_eq_true rfl), (Nat.le_of_ble_eq_true rfl)⟩ ⟨(Nat.le_of_ble_eq_true rfl), (Nat.le_of_ble_eq_true rfl)⟩ (fun u1 H locs q2 hP hD hS => ?_)
  obtain ⟨q2_0, q2_1⟩ := q2
  have hP : va_P g.1 vwCl [(h0, .inr (11, [.ref rd0, .ref d0, .ref im0, .ref ig0, .ref rw0, .ref we0, .ref mi0, .ref re0, .ref pl0, .ref ri0, .ref le0])), (dr5, .inl (g.2 0, 8, .inl dmeanings)), (dr6, .inl (g.2 0, 4, .inl dplanSizes)), (dr7, .inl (g.2 0, 20, .inl dplanWords)), (d0, .inr (0, [.int dstates, .int dreally, .int ddays, .int dheal, .int dleak, .int dlines, .int dhearers, .int dwords, .int dplans, .int dnews, .ref dr0, .ref dr1, .ref dr2, .ref dr3, .ref dr4, .ref dr5, .ref dr6, .ref dr7, .ref dr8, .ref dr9]))] H := hP
  have hD : va_D A [(h0, .inr (11, [.ref rd0, .ref d0, .ref im0, .ref ig0, .ref rw0, .ref we0, .ref mi0, .ref re0, .ref pl0, .ref ri0, .ref le0])), (dr5, .inl (g.2 0, 8, .inl dmeanings)), (dr6, .inl (g.2 0, 4, .inl dplanSizes)), (dr7, .inl (g.2 0, 20, .inl dplanWords)), (d0, .inr (0, [.int dstates, .int dreally, .int ddays, .int dheal, .int dleak, .int dlines, .int dhearers, .int dwords, .int dplans, .int dnews, .ref dr0, .ref dr1, .ref dr2, .ref dr3, .ref dr4, .ref dr5, .ref dr6, .ref dr7, .ref dr8, .ref dr9]))] := hD
  refine W.eq (g2 := F0 m 8 ls [.int (u1.1 0)]) rfl ?_
  rcases (show (u1.1 0).toInt = 0 ∨ (u1.1 0).toInt = 1 by omega) with c3 | c3
  · skip
    refine lv_if_eq (tgt := 22) hx hb dX11_ends_8 (by decide) (fun c4 => ?_) (fun c4 => ?_)
    · have c4 := k_eq (a := (u1.1 0).toInt) (b := 0) rfl (by decide) c4
      refine lv_bipush (v := -2) hx hb dX11_ends_22 (by decide) ?_
      exact rt_i FX ((fun k => match k with | 0 => (-2 : Int32) | _ => 0), (fun _ => fun _ => 0), (fun _ => fun _ => 0)) rfl trivial (hP.sub [0, 4, 1, 2, 3] rfl) (hD.sub [0, 4, 1, 2, 3] (by decide) rfl) hS (Nat.le_of_ble_eq_true rfl) (Nat.le_of_ble_eq_true rfl) dX11_ends_24
    · have c4 := k_ne (a := (u1.1 0).toInt) (b := 0) rfl (by decide) c4
      exfalso; omega
  · have c3_r := q2_1 c3
    refine lv_if_eq (tgt := 22) hx hb dX11_ends_8 (by decide) (fun c5 => ?_) (fun c5 => ?_)
    · have c5 := k_eq (a := (u1.1 0).toInt) (b := 0) rfl (by decide) c5
      exfalso; omega
    · have c5 := k_ne (a := (u1.1 0).toInt) (b := 0) rfl (by decide) c5
      refine lv_aload_n hx hb dX11_ends_11 rfl (lv_at hl 0 rfl) ?_
      refine g_get (C := RX11) (T := TX11) (N := 11) (ci := 11) (v := .ref d0) FC hKn hP i_X11 0 rfl rfl 1 (by decide) b_310 rfl dX11_ends_12 ?_
      refine lv_iload_n hx hb dX11_ends_15 rfl (lv_at hl 1 rfl) ?_
      refine call_VN (As := [.int p1]) (rest := []) (wr := [(h0, .inr (11, [.ref rd0, .ref d0, .ref im0, .ref ig0, .ref rw0, .ref we0, .ref mi0, .ref re0, .ref pl0, .ref ri0, .ref le0]))]) FC hKn hZ (k_X0_beliefBehindPlan l g d0 dr0 dr1 dr2 dr3 dr4 dr5 dr6 dr7 dr8 dr9 dstates dreally ddays dheal dleak dlines dhearers dwords dplans dnews dmeanings dplanSizes dplanWords p1 (by omega) (by omega) (by omega) (by omega) (by omega) (by omega) (by omega) i_dmeanings i_dplanSizes (by omega)) m_yX0_beliefBehindPlan b_415 (ci := 0) rfl rfl rfl hP hD hS hA [4, 1, 2, 3] [0] rfl (by decide) rfl (by decide) (by decide) rfl hl.1 rfl (Nat.le_of_ble_eq_true rfl) dX11_ends_16 ⟨(Nat.le_of_ble_eq_true rfl), (Nat.le_of_ble_eq_true rfl)⟩ ⟨(Nat.le_of_ble_eq_true rfl), (Nat.le_of_ble_eq_true rfl)⟩ (fun u6 H locs q7 hP hD hS => ?_)
      have q7_0 : 0 ≤ (u6.1 0).toInt ∧ (u6.1 0).toInt ≤ 255 := q7
      have hP : va_P g.1 vwCl [(h0, .inr (11, [.ref rd0, .ref d0, .ref im0, .ref ig0, .ref rw0, .ref we0, .ref mi0, .ref re0, .ref pl0, .ref ri0, .ref le0])), (d0, .inr (0, [.int dstates, .int dreally, .int ddays, .int dheal, .int dleak, .int dlines, .int dhearers, .int dwords, .int dplans, .int dnews, .ref dr0, .ref dr1, .ref dr2, .ref dr3, .ref dr4, .ref dr5, .ref dr6, .ref dr7, .ref dr8, .ref dr9])), (dr5, .inl (g.2 0, 8, .inl dmeanings)), (dr6, .inl (g.2 0, 4, .inl dplanSizes)), (dr7, .inl (g.2 0, 20, .inl dplanWords))] H := hP
      have hD : va_D A [(h0, .inr (11, [.ref rd0, .ref d0, .ref im0, .ref ig0, .ref rw0, .ref we0, .ref mi0, .ref re0, .ref pl0, .ref ri0, .ref le0])), (d0, .inr (0, [.int dstates, .int dreally, .int ddays, .int dheal, .int dleak, .int dlines, .int dhearers, .int dwords, .int dplans, .int dnews, .ref dr0, .ref dr1, .ref dr2, .ref dr3, .ref dr4, .ref dr5, .ref dr6, .ref dr7, .ref dr8, .ref dr9])), (dr5, .inl (g.2 0, 8, .inl dmeanings)), (dr6, .inl (g.2 0, 4, .inl dplanSizes)), (dr7, .inl (g.2 0, 20, .inl dplanWords))] := hD
      refine W.eq (g2 := F0 m 19 ls [.int (u6.1 0)]) rfl ?_
      refine lv_goto (tgt := 24) hx hb dX11_ends_19 (by decide) ?_
      exact rt_i FX ((fun k => match k with | 0 => u6.1 0 | _ => 0), (fun _ => fun _ => 0), (fun _ => fun _ => 0)) rfl trivial (hP.sub [0, 1, 2, 3, 4] rfl) (hD.sub [0, 1, 2, 3, 4] (by decide) rfl) hS (Nat.le_of_ble_eq_true rfl) (Nat.le_of_ble_eq_true rfl) dX11_ends_24
set_option maxRecDepth 100000 in
set_option maxHeartbeats 4000000 in
theorem k_X11_heard (l : Launch) (g : GG) (h0 : Nat) (rd0 : Nat) (d0 : Nat) (im0 : Nat) (ig0 : Nat) (rw0 : Nat) (we0 : Nat) (mi0 : Nat) (re0 : Nat) (pl0 : Nat) (ri0 : Nat) (le0 : Nat) (dr0 : Nat) (dr1 : Nat) (dr2 : Nat) (dr3 : Nat) (dr4 : Nat) (dr5 : Nat) (dr6 : Nat) (dr7 : Nat) (dr8 : Nat) (dr9 : Nat) (dstates : Int32) (dreally : Int32) (ddays : Int32) (dheal : Int32) (dleak : Int32) (dlines : Int32) (dhearers : Int32) (dwords : Int32) (dplans : Int32) (dnews : Int32) (dtold : Nat → Int32) (p1 : Int32) (p2 : Int32) (i_dstates : 0 ≤ dstates.toInt ∧ dstates.toInt ≤ 8) (i_dreally : 0 ≤ dreally.toInt ∧ dreally.toInt ≤ 7) (i_ddays : 0 ≤ ddays.toInt ∧ ddays.toInt ≤ 10) (i_dhearers : 0 ≤ dhearers.toInt ∧ dhearers.toInt ≤ 4) (i_dwords : 0 ≤ dwords.toInt ∧ dwords.toInt ≤ 8) (i_dplans : 0 ≤ dplans.toInt ∧ dplans.toInt ≤ 4) (i_dnews : 0 ≤ dnews.toInt ∧ dnews.toInt ≤ 6) : Ct l g yX11_heard cX11_heard 3 (some .int) { frames := 1, cells := 0, slots := 0, locals := 26 } [.ref h0, .int p1, .int p2] [(h0, .inr (11, [.ref rd0, .ref d0, .ref im0, .ref ig0, .ref rw0, .ref we0, .ref mi0, .ref re0, .ref pl0, .ref ri0, .ref le0])), (d0, .inr (0, [.int dstates, .int dreally, .int ddays, .int dheal, .int dleak, .int dlines, .int dhearers, .int dwords, .int dplans, .int dnews, .ref dr0, .ref dr1, .ref dr2, .ref dr3, .ref dr4, .ref dr5, .ref dr6, .ref dr7, .ref dr8, .ref dr9])), (dr3, .inl (g.2 0, 4, .inl dtold))] (S := (Nat → Int32) × (Nat → Nat → Int32) × (Nat → Nat → Int64)) (fun u => some (.int (u.1 0))) (fun u => True) (fun u => [(h0, .inr (11, [.ref rd0, .ref d0, .ref im0, .ref ig0, .ref rw0, .ref we0, .ref mi0, .ref re0, .ref pl0, .ref ri0, .ref le0])), (d0, .inr (0, [.int dstates, .int dreally, .int ddays, .int dheal, .int dleak, .int dlines, .int dhearers, .int dwords, .int dplans, .int dnews, .ref dr0, .ref dr1, .ref dr2, .ref dr3, .ref dr4, .ref dr5, .ref dr6, .ref dr7, .ref dr8, .ref dr9])), (dr3, .inl (g.2 0, 4, .inl dtold))]) := by
  refine Ct.of (by decide) (Nat.le_of_ble_eq_true rfl) ?_
  intro p e s m below meth c A ls FX hP hD hS hl
  obtain ⟨FC, hr, hlk, hKn, hA, hnm, hZ⟩ := id FX
  have FC : CallFix p m c cX11_heard 3 s _ BIG RX11 := FC
  obtain ⟨hx, hb, hml, hown, hB⟩ := id FC
  have hl : lv_has ls 3 [(0, .ref h0), (1, .int p1), (2, .int p2)] := hl
  refine lv_aload_n hx hb dX11_heard_0 rfl (lv_at hl 0 rfl) ?_
  refine g_get (C := RX11) (T := TX11) (N := 11) (ci := 11) (v := .ref d0) FC hKn hP i_X11 0 rfl rfl 1 (by decide) b_310 rfl dX11_heard_1 ?_
  refine call_VN (As := []) (rest := []) (wr := [(h0, .inr (11, [.ref rd0, .ref d0, .ref im0, .ref ig0, .ref rw0, .ref we0, .ref mi0, .ref re0, .ref pl0, .ref ri0, .ref le0])), (dr3, .inl (g.2 0, 4, .inl dtold))]) FC hKn hZ (k_X0_stands l g d0 dr0 dr1 dr2 dr3 dr4 dr5 dr6 dr7 dr8 dr9 dstates dreally ddays dheal dleak dlines dhearers dwords dplans dnews (by omega) (by omega) (by omega) (by omega) (by omega) (by omega) (by omega)) m_yX0_stands b_311 (ci := 0) rfl rfl rfl hP hD hS hA [1] [0, 2] rfl (by decide) rfl (by decide) (by decide) rfl hl.1 rfl (Nat.le_of_ble_eq_true rfl) dX11_heard_4 ⟨(Nat.le_of_ble_eq_true rfl), (Nat.le_of_ble_eq_true rfl)⟩ ⟨(Nat.le_of_ble_eq_true rfl), (Nat.le_of_ble_eq_true rfl)⟩ (fun u1 H locs q2 hP hD hS => ?_)
  have q2_0 : 0 ≤ (u1.1 0).toInt ∧ (u1.1 0).toInt ≤ 1 := q2
  have hP : va_P g.1 vwCl [(h0, .inr (11, [.ref rd0, .ref d0, .ref im0, .ref ig0, .ref rw0, .ref we0, .ref mi0, .ref re0, .ref pl0, .ref ri0, .ref le0])), (dr3, .inl (g.2 0, 4, .inl dtold)), (d0, .inr (0, [.int dstates, .int dreally, .int ddays, .int dheal, .int dleak, .int dlines, .int dhearers, .int dwords, .int dplans, .int dnews, .ref dr0, .ref dr1, .ref dr2, .ref dr3, .ref dr4, .ref dr5, .ref dr6, .ref dr7, .ref dr8, .ref dr9]))] H := hP
  have hD : va_D A [(h0, .inr (11, [.ref rd0, .ref d0, .ref im0, .ref ig0, .ref rw0, .ref we0, .ref mi0, .ref re0, .ref pl0, .ref ri0, .ref le0])), (dr3, .inl (g.2 0, 4, .inl dtold)), (d0, .inr (0, [.int dstates, .int dreally, .int ddays, .int dheal, .int dleak, .int dlines, .int dhearers, .int dwords, .int dplans, .int dnews, .ref dr0, .ref dr1, .ref dr2, .ref dr3, .ref dr4, .ref dr5, .ref dr6, .ref dr7, .ref dr8, .ref dr9]))] := hD
  refine W.eq (g2 := F0 m 7 ls [.int (u1.1 0)]) rfl ?_
  refine lv_if_eq (tgt := 29) hx hb dX11_heard_7 (by decide) (fun c3 => ?_) (fun c3 => ?_)
  · have c3 := k_eq (a := (u1.1 0).toInt) (b := 0) rfl (by decide) c3
    refine lv_bipush (v := -2) hx hb dX11_heard_29 (by decide) ?_
    exact rt_i FX ((fun k => match k with | 0 => (-2 : Int32) | _ => 0), (fun _ => fun _ => 0), (fun _ => fun _ => 0)) rfl trivial (hP.sub [0, 2, 1] rfl) (hD.sub [0, 2, 1] (by decide) rfl) hS (Nat.le_of_ble_eq_true rfl) (Nat.le_of_ble_eq_true rfl) dX11_heard_31
  · have c3 := k_ne (a := (u1.1 0).toInt) (b := 0) rfl (by decide) c3
    refine lv_iload_n hx hb dX11_heard_10 rfl (lv_at hl 1 rfl) ?_
    refine lv_if_lt (tgt := 29) hx hb dX11_heard_11 (by decide) (fun c4 => ?_) (fun c4 => ?_)
    · have c4 := k_lt (a := p1.toInt) (b := 0) rfl (by decide) c4
      refine lv_bipush (v := -2) hx hb dX11_heard_29 (by decide) ?_
      exact rt_i FX ((fun k => match k with | 0 => (-2 : Int32) | _ => 0), (fun _ => fun _ => 0), (fun _ => fun _ => 0)) rfl trivial (hP.sub [0, 2, 1] rfl) (hD.sub [0, 2, 1] (by decide) rfl) hS (Nat.le_of_ble_eq_true rfl) (Nat.le_of_ble_eq_true rfl) dX11_heard_31
    · have c4 := k_nlt (a := p1.toInt) (b := 0) rfl (by decide) c4
      refine lv_iload_n hx hb dX11_heard_14 rfl (lv_at hl 1 rfl) ?_
      refine lv_aload_n hx hb dX11_heard_15 rfl (lv_at hl 0 rfl) ?_
      refine g_get (C := RX11) (T := TX11) (N := 11) (ci := 11) (v := .ref d0) FC hKn hP i_X11 0 rfl rfl 1 (by decide) b_310 rfl dX11_heard_16 ?_
      refine call_VN (As := []) (rest := [.int p1]) (wr := [(h0, .inr (11, [.ref rd0, .ref d0, .ref im0, .ref ig0, .ref rw0, .ref we0, .ref mi0, .ref re0, .ref pl0, .ref ri0, .ref le0])), (dr3, .inl (g.2 0, 4, .inl dtold))]) FC hKn hZ (k_X0_everybody l g d0 dr0 dr1 dr2 dr3 dr4 dr5 dr6 dr7 dr8 dr9 dstates dreally ddays dheal dleak dlines dhearers dwords dplans dnews (by omega) (by omega) (by omega) (by omega) (by omega) (by omega) (by omega)) m_yX0_everybody b_416 (ci := 0) rfl rfl rfl hP hD hS hA [2] [0, 1] rfl (by decide) rfl (by decide) (by decide) rfl hl.1 rfl (Nat.le_of_ble_eq_true rfl) dX11_heard_19 ⟨(Nat.le_of_ble_eq_true rfl), (Nat.le_of_ble_eq_true rfl)⟩ ⟨(Nat.le_of_ble_eq_true rfl), (Nat.le_of_ble_eq_true rfl)⟩ (fun u5 H locs q6 hP hD hS => ?_)
      have q6_0 : 0 ≤ (u5.1 0).toInt ∧ (u5.1 0).toInt ≤ 15 := q6
      have hP : va_P g.1 vwCl [(h0, .inr (11, [.ref rd0, .ref d0, .ref im0, .ref ig0, .ref rw0, .ref we0, .ref mi0, .ref re0, .ref pl0, .ref ri0, .ref le0])), (dr3, .inl (g.2 0, 4, .inl dtold)), (d0, .inr (0, [.int dstates, .int dreally, .int ddays, .int dheal, .int dleak, .int dlines, .int dhearers, .int dwords, .int dplans, .int dnews, .ref dr0, .ref dr1, .ref dr2, .ref dr3, .ref dr4, .ref dr5, .ref dr6, .ref dr7, .ref dr8, .ref dr9]))] H := hP
      have hD : va_D A [(h0, .inr (11, [.ref rd0, .ref d0, .ref im0, .ref ig0, .ref rw0, .ref we0, .ref mi0, .ref re0, .ref pl0, .ref ri0, .ref le0])), (dr3, .inl (g.2 0, 4, .inl dtold)), (d0, .inr (0, [.int dstates, .int dreally, .int ddays, .int dheal, .int dleak, .int dlines, .int dhearers, .int dwords, .int dplans, .int dnews, .ref dr0, .ref dr1, .ref dr2, .ref dr3, .ref dr4, .ref dr5, .ref dr6, .ref dr7, .ref dr8, .ref dr9]))] := hD
      refine W.eq (g2 := F0 m 22 ls [.int (u5.1 0), .int p1]) rfl ?_
      refine lv_icmp_gt (tgt := 29) hx hb dX11_heard_22 (by decide) (fun c7 => ?_) (fun c7 => ?_)
      · have c7 := k_lt (a := (u5.1 0).toInt) (b := p1.toInt) rfl rfl c7
        refine lv_bipush (v := -2) hx hb dX11_heard_29 (by decide) ?_
        exact rt_i FX ((fun k => match k with | 0 => (-2 : Int32) | _ => 0), (fun _ => fun _ => 0), (fun _ => fun _ => 0)) rfl trivial (hP.sub [0, 2, 1] rfl) (hD.sub [0, 2, 1] (by decide) rfl) hS (Nat.le_of_ble_eq_true rfl) (Nat.le_of_ble_eq_true rfl) dX11_heard_31
      · have c7 := k_nlt (a := (u5.1 0).toInt) (b := p1.toInt) rfl rfl c7
        refine lv_iload_n hx hb dX11_heard_25 rfl (lv_at hl 2 rfl) ?_
        refine lv_if_ge (tgt := 32) hx hb dX11_heard_26 (by decide) (fun c8 => ?_) (fun c8 => ?_)
        · have c8 := k_le (a := 0) (b := p2.toInt) (by decide) rfl c8
          refine lv_aload_n hx hb dX11_heard_32 rfl (lv_at hl 0 rfl) ?_
          refine g_get (C := RX11) (T := TX11) (N := 11) (ci := 11) (v := .ref d0) FC hKn hP i_X11 0 rfl rfl 1 (by decide) b_310 rfl dX11_heard_33 ?_
          refine lv_iload_n hx hb dX11_heard_36 rfl (lv_at hl 1 rfl) ?_
          refine lv_iload_n hx hb dX11_heard_37 rfl (lv_at hl 2 rfl) ?_
          refine call_VN (As := [.int p1, .int p2]) (rest := []) (wr := [(h0, .inr (11, [.ref rd0, .ref d0, .ref im0, .ref ig0, .ref rw0, .ref we0, .ref mi0, .ref re0, .ref pl0, .ref ri0, .ref le0]))]) FC hKn hZ (k_X0_knowingAfter l g d0 dr0 dr1 dr2 dr3 dr4 dr5 dr6 dr7 dr8 dr9 dstates dreally ddays dheal dleak dlines dhearers dwords dplans dnews dtold p1 p2 (by omega) (by omega) (by omega) (by omega) (by omega) (by omega) (by omega)) m_yX0_knowingAfter b_417 (ci := 0) rfl rfl rfl hP hD hS hA [2, 1] [0] rfl (by decide) rfl (by decide) (by decide) rfl hl.1 rfl (Nat.le_of_ble_eq_true rfl) dX11_heard_38 ⟨(Nat.le_of_ble_eq_true rfl), (Nat.le_of_ble_eq_true rfl)⟩ ⟨(Nat.le_of_ble_eq_true rfl), (Nat.le_of_ble_eq_true rfl)⟩ (fun u9 H locs q10 hP hD hS => ?_)
          have hP : va_P g.1 vwCl [(h0, .inr (11, [.ref rd0, .ref d0, .ref im0, .ref ig0, .ref rw0, .ref we0, .ref mi0, .ref re0, .ref pl0, .ref ri0, .ref le0])), (d0, .inr (0, [.int dstates, .int dreally, .int ddays, .int dheal, .int dleak, .int dlines, .int dhearers, .int dwords, .int dplans, .int dnews, .ref dr0, .ref dr1, .ref dr2, .ref dr3, .ref dr4, .ref dr5, .ref dr6, .ref dr7, .ref dr8, .ref dr9])), (dr3, .inl (g.2 0, 4, .inl dtold))] H := hP
          have hD : va_D A [(h0, .inr (11, [.ref rd0, .ref d0, .ref im0, .ref ig0, .ref rw0, .ref we0, .ref mi0, .ref re0, .ref pl0, .ref ri0, .ref le0])), (d0, .inr (0, [.int dstates, .int dreally, .int ddays, .int dheal, .int dleak, .int dlines, .int dhearers, .int dwords, .int dplans, .int dnews, .ref dr0, .ref dr1, .ref dr2, .ref dr3, .ref dr4, .ref dr5, .ref dr6, .ref dr7, .ref dr8, .ref dr9])), (dr3, .inl (g.2 0, 4, .inl dtold))] := hD
          refine W.eq (g2 := F0 m 41 ls [.int (u9.1 0)]) rfl ?_
          exact rt_i FX ((fun k => match k with | 0 => u9.1 0 | _ => 0), (fun _ => fun _ => 0), (fun _ => fun _ => 0)) rfl trivial (hP.sub [0, 1, 2] rfl) (hD.sub [0, 1, 2] (by decide) rfl) hS (Nat.le_of_ble_eq_true rfl) (Nat.le_of_ble_eq_true rfl) dX11_heard_41
        · have c8 := k_nle (a := 0) (b := p2.toInt) (by decide) rfl c8
          refine lv_bipush (v := -2) hx hb dX11_heard_29 (by decide) ?_
          exact rt_i FX ((fun k => match k with | 0 => (-2 : Int32) | _ => 0), (fun _ => fun _ => 0), (fun _ => fun _ => 0)) rfl trivial (hP.sub [0, 2, 1] rfl) (hD.sub [0, 2, 1] (by decide) rfl) hS (Nat.le_of_ble_eq_true rfl) (Nat.le_of_ble_eq_true rfl) dX11_heard_31
set_option maxRecDepth 100000 in
set_option maxHeartbeats 4000000 in
theorem k_X11_whom (l : Launch) (g : GG) (h0 : Nat) (rd0 : Nat) (d0 : Nat) (im0 : Nat) (ig0 : Nat) (rw0 : Nat) (we0 : Nat) (mi0 : Nat) (re0 : Nat) (pl0 : Nat) (ri0 : Nat) (le0 : Nat) (dr0 : Nat) (dr1 : Nat) (dr2 : Nat) (dr3 : Nat) (dr4 : Nat) (dr5 : Nat) (dr6 : Nat) (dr7 : Nat) (dr8 : Nat) (dr9 : Nat) (dstates : Int32) (dreally : Int32) (ddays : Int32) (dheal : Int32) (dleak : Int32) (dlines : Int32) (dhearers : Int32) (dwords : Int32) (dplans : Int32) (dnews : Int32) (dtold : Nat → Int32) (i_dstates : 0 ≤ dstates.toInt ∧ dstates.toInt ≤ 8) (i_dreally : 0 ≤ dreally.toInt ∧ dreally.toInt ≤ 7) (i_ddays : 0 ≤ ddays.toInt ∧ ddays.toInt ≤ 10) (i_dhearers : 0 ≤ dhearers.toInt ∧ dhearers.toInt ≤ 4) (i_dwords : 0 ≤ dwords.toInt ∧ dwords.toInt ≤ 8) (i_dplans : 0 ≤ dplans.toInt ∧ dplans.toInt ≤ 4) (i_dnews : 0 ≤ dnews.toInt ∧ dnews.toInt ≤ 6) : Ct l g yX11_whom cX11_whom 1 (some .int) { frames := 2, cells := 0, slots := 0, locals := 48 } [.ref h0] [(h0, .inr (11, [.ref rd0, .ref d0, .ref im0, .ref ig0, .ref rw0, .ref we0, .ref mi0, .ref re0, .ref pl0, .ref ri0, .ref le0])), (d0, .inr (0, [.int dstates, .int dreally, .int ddays, .int dheal, .int dleak, .int dlines, .int dhearers, .int dwords, .int dplans, .int dnews, .ref dr0, .ref dr1, .ref dr2, .ref dr3, .ref dr4, .ref dr5, .ref dr6, .ref dr7, .ref dr8, .ref dr9])), (dr3, .inl (g.2 0, 4, .inl dtold))] (S := (Nat → Int32) × (Nat → Nat → Int32) × (Nat → Nat → Int64)) (fun u => some (.int (u.1 0))) (fun u => True) (fun u => [(h0, .inr (11, [.ref rd0, .ref d0, .ref im0, .ref ig0, .ref rw0, .ref we0, .ref mi0, .ref re0, .ref pl0, .ref ri0, .ref le0])), (d0, .inr (0, [.int dstates, .int dreally, .int ddays, .int dheal, .int dleak, .int dlines, .int dhearers, .int dwords, .int dplans, .int dnews, .ref dr0, .ref dr1, .ref dr2, .ref dr3, .ref dr4, .ref dr5, .ref dr6, .ref dr7, .ref dr8, .ref dr9])), (dr3, .inl (g.2 0, 4, .inl dtold))]) := by
  refine Ct.of (by decide) (Nat.le_of_ble_eq_true rfl) ?_
  intro p e s m below meth c A ls FX hP hD hS hl
  obtain ⟨FC, hr, hlk, hKn, hA, hnm, hZ⟩ := id FX
  have FC : CallFix p m c cX11_whom 1 s _ BIG RX11 := FC
  obtain ⟨hx, hb, hml, hown, hB⟩ := id FC
  have hl : lv_has ls 1 [(0, .ref h0)] := hl
  refine lv_aload_n hx hb dX11_whom_0 rfl (lv_at hl 0 rfl) ?_
  refine g_get (C := RX11) (T := TX11) (N := 11) (ci := 11) (v := .ref d0) FC hKn hP i_X11 0 rfl rfl 1 (by decide) b_310 rfl dX11_whom_1 ?_
  refine call_VN (As := []) (rest := []) (wr := [(h0, .inr (11, [.ref rd0, .ref d0, .ref im0, .ref ig0, .ref rw0, .ref we0, .ref mi0, .ref re0, .ref pl0, .ref ri0, .ref le0])), (dr3, .inl (g.2 0, 4, .inl dtold))]) FC hKn hZ (k_X0_stands l g d0 dr0 dr1 dr2 dr3 dr4 dr5 dr6 dr7 dr8 dr9 dstates dreally ddays dheal dleak dlines dhearers dwords dplans dnews (by omega) (by omega) (by omega) (by omega) (by omega) (by omega) (by omega)) m_yX0_stands b_311 (ci := 0) rfl rfl rfl hP hD hS hA [1] [0, 2] rfl (by decide) rfl (by decide) (by decide) rfl hl.1 rfl (Nat.le_of_ble_eq_true rfl) dX11_whom_4 ⟨(Nat.le_of_ble_eq_true rfl), (Nat.le_of_ble_eq_true rfl)⟩ ⟨(Nat.le_of_ble_eq_true rfl), (Nat.le_of_ble_eq_true rfl)⟩ (fun u1 H locs q2 hP hD hS => ?_)
  have q2_0 : 0 ≤ (u1.1 0).toInt ∧ (u1.1 0).toInt ≤ 1 := q2
  have hP : va_P g.1 vwCl [(h0, .inr (11, [.ref rd0, .ref d0, .ref im0, .ref ig0, .ref rw0, .ref we0, .ref mi0, .ref re0, .ref pl0, .ref ri0, .ref le0])), (dr3, .inl (g.2 0, 4, .inl dtold)), (d0, .inr (0, [.int dstates, .int dreally, .int ddays, .int dheal, .int dleak, .int dlines, .int dhearers, .int dwords, .int dplans, .int dnews, .ref dr0, .ref dr1, .ref dr2, .ref dr3, .ref dr4, .ref dr5, .ref dr6, .ref dr7, .ref dr8, .ref dr9]))] H := hP
  have hD : va_D A [(h0, .inr (11, [.ref rd0, .ref d0, .ref im0, .ref ig0, .ref rw0, .ref we0, .ref mi0, .ref re0, .ref pl0, .ref ri0, .ref le0])), (dr3, .inl (g.2 0, 4, .inl dtold)), (d0, .inr (0, [.int dstates, .int dreally, .int ddays, .int dheal, .int dleak, .int dlines, .int dhearers, .int dwords, .int dplans, .int dnews, .ref dr0, .ref dr1, .ref dr2, .ref dr3, .ref dr4, .ref dr5, .ref dr6, .ref dr7, .ref dr8, .ref dr9]))] := hD
  refine W.eq (g2 := F0 m 7 ls [.int (u1.1 0)]) rfl ?_
  refine lv_if_eq (tgt := 23) hx hb dX11_whom_7 (by decide) (fun c3 => ?_) (fun c3 => ?_)
  · have c3 := k_eq (a := (u1.1 0).toInt) (b := 0) rfl (by decide) c3
    refine lv_bipush (v := -2) hx hb dX11_whom_23 (by decide) ?_
    exact rt_i FX ((fun k => match k with | 0 => (-2 : Int32) | _ => 0), (fun _ => fun _ => 0), (fun _ => fun _ => 0)) rfl trivial (hP.sub [0, 2, 1] rfl) (hD.sub [0, 2, 1] (by decide) rfl) hS (Nat.le_of_ble_eq_true rfl) (Nat.le_of_ble_eq_true rfl) dX11_whom_25
  · have c3 := k_ne (a := (u1.1 0).toInt) (b := 0) rfl (by decide) c3
    refine lv_aload_n hx hb dX11_whom_10 rfl (lv_at hl 0 rfl) ?_
    refine g_get (C := RX11) (T := TX11) (N := 11) (ci := 11) (v := .ref d0) FC hKn hP i_X11 0 rfl rfl 1 (by decide) b_310 rfl dX11_whom_11 ?_
    refine call_VN (As := []) (rest := []) (wr := [(h0, .inr (11, [.ref rd0, .ref d0, .ref im0, .ref ig0, .ref rw0, .ref we0, .ref mi0, .ref re0, .ref pl0, .ref ri0, .ref le0]))]) FC hKn hZ (k_X0_fewestToTell l g d0 dr0 dr1 dr2 dr3 dr4 dr5 dr6 dr7 dr8 dr9 dstates dreally ddays dheal dleak dlines dhearers dwords dplans dnews dtold (by omega) (by omega) (by omega) (by omega) (by omega) (by omega) (by omega)) m_yX0_fewestToTell b_418 (ci := 0) rfl rfl rfl hP hD hS hA [2, 1] [0] rfl (by decide) rfl (by decide) (by decide) rfl hl.1 rfl (Nat.le_of_ble_eq_true rfl) dX11_whom_14 ⟨(Nat.le_of_ble_eq_true rfl), (Nat.le_of_ble_eq_true rfl)⟩ ⟨(Nat.le_of_ble_eq_true rfl), (Nat.le_of_ble_eq_true rfl)⟩ (fun u4 H locs q5 hP hD hS => ?_)
    have hP : va_P g.1 vwCl [(h0, .inr (11, [.ref rd0, .ref d0, .ref im0, .ref ig0, .ref rw0, .ref we0, .ref mi0, .ref re0, .ref pl0, .ref ri0, .ref le0])), (d0, .inr (0, [.int dstates, .int dreally, .int ddays, .int dheal, .int dleak, .int dlines, .int dhearers, .int dwords, .int dplans, .int dnews, .ref dr0, .ref dr1, .ref dr2, .ref dr3, .ref dr4, .ref dr5, .ref dr6, .ref dr7, .ref dr8, .ref dr9])), (dr3, .inl (g.2 0, 4, .inl dtold))] H := hP
    have hD : va_D A [(h0, .inr (11, [.ref rd0, .ref d0, .ref im0, .ref ig0, .ref rw0, .ref we0, .ref mi0, .ref re0, .ref pl0, .ref ri0, .ref le0])), (d0, .inr (0, [.int dstates, .int dreally, .int ddays, .int dheal, .int dleak, .int dlines, .int dhearers, .int dwords, .int dplans, .int dnews, .ref dr0, .ref dr1, .ref dr2, .ref dr3, .ref dr4, .ref dr5, .ref dr6, .ref dr7, .ref dr8, .ref dr9])), (dr3, .inl (g.2 0, 4, .inl dtold))] := hD
    refine W.eq (g2 := F0 m 17 ls [.int (u4.1 0)]) rfl ?_
    refine call_S (As := [.int (u4.1 0)]) (rest := []) (wr := [(h0, .inr (11, [.ref rd0, .ref d0, .ref im0, .ref ig0, .ref rw0, .ref we0, .ref mi0, .ref re0, .ref pl0, .ref ri0, .ref le0])), (d0, .inr (0, [.int dstates, .int dreally, .int ddays, .int dheal, .int dleak, .int dlines, .int dhearers, .int dwords, .int dplans, .int dnews, .ref dr0, .ref dr1, .ref dr2, .ref dr3, .ref dr4, .ref dr5, .ref dr6, .ref dr7, .ref dr8, .ref dr9])), (dr3, .inl (g.2 0, 4, .inl dtold))]) FC hKn hZ (k_bitCount l g (u4.1 0)) m_yJ6_bitCount_0f7a4 b_419 hP hD hS hA [] [0, 1, 2] rfl (by decide) rfl (by decide) (by decide) rfl hl.1 rfl (Nat.le_of_ble_eq_true rfl) dX11_whom_17 ⟨(Nat.le_of_ble_eq_true rfl), (Nat.le_of_ble_eq_true rfl)⟩ ⟨(Nat.le_of_ble_eq_true rfl), (Nat.le_of_ble_eq_true rfl)⟩ (fun u6 H locs q7 hP hD hS => ?_)
    have hP : va_P g.1 vwCl [(h0, .inr (11, [.ref rd0, .ref d0, .ref im0, .ref ig0, .ref rw0, .ref we0, .ref mi0, .ref re0, .ref pl0, .ref ri0, .ref le0])), (d0, .inr (0, [.int dstates, .int dreally, .int ddays, .int dheal, .int dleak, .int dlines, .int dhearers, .int dwords, .int dplans, .int dnews, .ref dr0, .ref dr1, .ref dr2, .ref dr3, .ref dr4, .ref dr5, .ref dr6, .ref dr7, .ref dr8, .ref dr9])), (dr3, .inl (g.2 0, 4, .inl dtold))] H := hP
    have hD : va_D A [(h0, .inr (11, [.ref rd0, .ref d0, .ref im0, .ref ig0, .ref rw0, .ref we0, .ref mi0, .ref re0, .ref pl0, .ref ri0, .ref le0])), (d0, .inr (0, [.int dstates, .int dreally, .int ddays, .int dheal, .int dleak, .int dlines, .int dhearers, .int dwords, .int dplans, .int dnews, .ref dr0, .ref dr1, .ref dr2, .ref dr3, .ref dr4, .ref dr5, .ref dr6, .ref dr7, .ref dr8, .ref dr9])), (dr3, .inl (g.2 0, 4, .inl dtold))] := hD
    refine W.eq (g2 := F0 m 20 ls [.int (u6.1 0)]) rfl ?_
    refine lv_goto (tgt := 25) hx hb dX11_whom_20 (by decide) ?_
    exact rt_i FX ((fun k => match k with | 0 => u6.1 0 | _ => 0), (fun _ => fun _ => 0), (fun _ => fun _ => 0)) rfl trivial (hP.sub [0, 1, 2] rfl) (hD.sub [0, 1, 2] (by decide) rfl) hS (Nat.le_of_ble_eq_true rfl) (Nat.le_of_ble_eq_true rfl) dX11_whom_25
set_option maxRecDepth 100000 in
set_option maxHeartbeats 4000000 in
theorem k_X11_first (l : Launch) (g : GG) (h0 : Nat) (rd0 : Nat) (d0 : Nat) (im0 : Nat) (ig0 : Nat) (rw0 : Nat) (we0 : Nat) (mi0 : Nat) (re0 : Nat) (pl0 : Nat) (ri0 : Nat) (le0 : Nat) (dr0 : Nat) (dr1 : Nat) (dr2 : Nat) (dr3 : Nat) (dr4 : Nat) (dr5 : Nat) (dr6 : Nat) (dr7 : Nat) (dr8 : Nat) (dr9 : Nat) (dstates : Int32) (dreally : Int32) (ddays : Int32) (dheal : Int32) (dleak : Int32) (dlines : Int32) (dhearers : Int32) (dwords : Int32) (dplans : Int32) (dnews : Int32) (dtold : Nat → Int32) (i_dstates : 0 ≤ dstates.toInt ∧ dstates.toInt ≤ 8) (i_dreally : 0 ≤ dreally.toInt ∧ dreally.toInt ≤ 7) (i_ddays : 0 ≤ ddays.toInt ∧ ddays.toInt ≤ 10) (i_dhearers : 0 ≤ dhearers.toInt ∧ dhearers.toInt ≤ 4) (i_dwords : 0 ≤ dwords.toInt ∧ dwords.toInt ≤ 8) (i_dplans : 0 ≤ dplans.toInt ∧ dplans.toInt ≤ 4) (i_dnews : 0 ≤ dnews.toInt ∧ dnews.toInt ≤ 6) : Ct l g yX11_first cX11_first 1 (some .int) { frames := 2, cells := 0, slots := 0, locals := 48 } [.ref h0] [(h0, .inr (11, [.ref rd0, .ref d0, .ref im0, .ref ig0, .ref rw0, .ref we0, .ref mi0, .ref re0, .ref pl0, .ref ri0, .ref le0])), (d0, .inr (0, [.int dstates, .int dreally, .int ddays, .int dheal, .int dleak, .int dlines, .int dhearers, .int dwords, .int dplans, .int dnews, .ref dr0, .ref dr1, .ref dr2, .ref dr3, .ref dr4, .ref dr5, .ref dr6, .ref dr7, .ref dr8, .ref dr9])), (dr3, .inl (g.2 0, 4, .inl dtold))] (S := (Nat → Int32) × (Nat → Nat → Int32) × (Nat → Nat → Int64)) (fun u => some (.int (u.1 0))) (fun u => True) (fun u => [(h0, .inr (11, [.ref rd0, .ref d0, .ref im0, .ref ig0, .ref rw0, .ref we0, .ref mi0, .ref re0, .ref pl0, .ref ri0, .ref le0])), (d0, .inr (0, [.int dstates, .int dreally, .int ddays, .int dheal, .int dleak, .int dlines, .int dhearers, .int dwords, .int dplans, .int dnews, .ref dr0, .ref dr1, .ref dr2, .ref dr3, .ref dr4, .ref dr5, .ref dr6, .ref dr7, .ref dr8, .ref dr9])), (dr3, .inl (g.2 0, 4, .inl dtold))]) := by
  refine Ct.of (by decide) (Nat.le_of_ble_eq_true rfl) ?_
  intro p e s m below meth c A ls FX hP hD hS hl
  obtain ⟨FC, hr, hlk, hKn, hA, hnm, hZ⟩ := id FX
  have FC : CallFix p m c cX11_first 1 s _ BIG RX11 := FC
  obtain ⟨hx, hb, hml, hown, hB⟩ := id FC
  have hl : lv_has ls 1 [(0, .ref h0)] := hl
  refine lv_aload_n hx hb dX11_first_0 rfl (lv_at hl 0 rfl) ?_
  refine g_get (C := RX11) (T := TX11) (N := 11) (ci := 11) (v := .ref d0) FC hKn hP i_X11 0 rfl rfl 1 (by decide) b_310 rfl dX11_first_1 ?_
  refine call_VN (As := []) (rest := []) (wr := [(h0, .inr (11, [.ref rd0, .ref d0, .ref im0, .ref ig0, .ref rw0, .ref we0, .ref mi0, .ref re0, .ref pl0, .ref ri0, .ref le0])), (dr3, .inl (g.2 0, 4, .inl dtold))]) FC hKn hZ (k_X0_stands l g d0 dr0 dr1 dr2 dr3 dr4 dr5 dr6 dr7 dr8 dr9 dstates dreally ddays dheal dleak dlines dhearers dwords dplans dnews (by omega) (by omega) (by omega) (by omega) (by omega) (by omega) (by omega)) m_yX0_stands b_311 (ci := 0) rfl rfl rfl hP hD hS hA [1] [0, 2] rfl (by decide) rfl (by decide) (by decide) rfl hl.1 rfl (Nat.le_of_ble_eq_true rfl) dX11_first_4 ⟨(Nat.le_of_ble_eq_true rfl), (Nat.le_of_ble_eq_true rfl)⟩ ⟨(Nat.le_of_ble_eq_true rfl), (Nat.le_of_ble_eq_true rfl)⟩ (fun u1 H locs q2 hP hD hS => ?_)
  have q2_0 : 0 ≤ (u1.1 0).toInt ∧ (u1.1 0).toInt ≤ 1 := q2
  have hP : va_P g.1 vwCl [(h0, .inr (11, [.ref rd0, .ref d0, .ref im0, .ref ig0, .ref rw0, .ref we0, .ref mi0, .ref re0, .ref pl0, .ref ri0, .ref le0])), (dr3, .inl (g.2 0, 4, .inl dtold)), (d0, .inr (0, [.int dstates, .int dreally, .int ddays, .int dheal, .int dleak, .int dlines, .int dhearers, .int dwords, .int dplans, .int dnews, .ref dr0, .ref dr1, .ref dr2, .ref dr3, .ref dr4, .ref dr5, .ref dr6, .ref dr7, .ref dr8, .ref dr9]))] H := hP
  have hD : va_D A [(h0, .inr (11, [.ref rd0, .ref d0, .ref im0, .ref ig0, .ref rw0, .ref we0, .ref mi0, .ref re0, .ref pl0, .ref ri0, .ref le0])), (dr3, .inl (g.2 0, 4, .inl dtold)), (d0, .inr (0, [.int dstates, .int dreally, .int ddays, .int dheal, .int dleak, .int dlines, .int dhearers, .int dwords, .int dplans, .int dnews, .ref dr0, .ref dr1, .ref dr2, .ref dr3, .ref dr4, .ref dr5, .ref dr6, .ref dr7, .ref dr8, .ref dr9]))] := hD
  refine W.eq (g2 := F0 m 7 ls [.int (u1.1 0)]) rfl ?_
  refine lv_if_eq (tgt := 20) hx hb dX11_first_7 (by decide) (fun c3 => ?_) (fun c3 => ?_)
  · have c3 := k_eq (a := (u1.1 0).toInt) (b := 0) rfl (by decide) c3
    refine lv_bipush (v := -2) hx hb dX11_first_20 (by decide) ?_
    exact rt_i FX ((fun k => match k with | 0 => (-2 : Int32) | _ => 0), (fun _ => fun _ => 0), (fun _ => fun _ => 0)) rfl trivial (hP.sub [0, 2, 1] rfl) (hD.sub [0, 2, 1] (by decide) rfl) hS (Nat.le_of_ble_eq_true rfl) (Nat.le_of_ble_eq_true rfl) dX11_first_22
  · have c3 := k_ne (a := (u1.1 0).toInt) (b := 0) rfl (by decide) c3
    refine lv_aload_n hx hb dX11_first_10 rfl (lv_at hl 0 rfl) ?_
    refine g_get (C := RX11) (T := TX11) (N := 11) (ci := 11) (v := .ref d0) FC hKn hP i_X11 0 rfl rfl 1 (by decide) b_310 rfl dX11_first_11 ?_
    refine call_VN (As := []) (rest := []) (wr := [(h0, .inr (11, [.ref rd0, .ref d0, .ref im0, .ref ig0, .ref rw0, .ref we0, .ref mi0, .ref re0, .ref pl0, .ref ri0, .ref le0]))]) FC hKn hZ (k_X0_fewestToTell l g d0 dr0 dr1 dr2 dr3 dr4 dr5 dr6 dr7 dr8 dr9 dstates dreally ddays dheal dleak dlines dhearers dwords dplans dnews dtold (by omega) (by omega) (by omega) (by omega) (by omega) (by omega) (by omega)) m_yX0_fewestToTell b_418 (ci := 0) rfl rfl rfl hP hD hS hA [2, 1] [0] rfl (by decide) rfl (by decide) (by decide) rfl hl.1 rfl (Nat.le_of_ble_eq_true rfl) dX11_first_14 ⟨(Nat.le_of_ble_eq_true rfl), (Nat.le_of_ble_eq_true rfl)⟩ ⟨(Nat.le_of_ble_eq_true rfl), (Nat.le_of_ble_eq_true rfl)⟩ (fun u4 H locs q5 hP hD hS => ?_)
    have hP : va_P g.1 vwCl [(h0, .inr (11, [.ref rd0, .ref d0, .ref im0, .ref ig0, .ref rw0, .ref we0, .ref mi0, .ref re0, .ref pl0, .ref ri0, .ref le0])), (d0, .inr (0, [.int dstates, .int dreally, .int ddays, .int dheal, .int dleak, .int dlines, .int dhearers, .int dwords, .int dplans, .int dnews, .ref dr0, .ref dr1, .ref dr2, .ref dr3, .ref dr4, .ref dr5, .ref dr6, .ref dr7, .ref dr8, .ref dr9])), (dr3, .inl (g.2 0, 4, .inl dtold))] H := hP
    have hD : va_D A [(h0, .inr (11, [.ref rd0, .ref d0, .ref im0, .ref ig0, .ref rw0, .ref we0, .ref mi0, .ref re0, .ref pl0, .ref ri0, .ref le0])), (d0, .inr (0, [.int dstates, .int dreally, .int ddays, .int dheal, .int dleak, .int dlines, .int dhearers, .int dwords, .int dplans, .int dnews, .ref dr0, .ref dr1, .ref dr2, .ref dr3, .ref dr4, .ref dr5, .ref dr6, .ref dr7, .ref dr8, .ref dr9])), (dr3, .inl (g.2 0, 4, .inl dtold))] := hD
    refine W.eq (g2 := F0 m 17 ls [.int (u4.1 0)]) rfl ?_
    refine lv_goto (tgt := 22) hx hb dX11_first_17 (by decide) ?_
    exact rt_i FX ((fun k => match k with | 0 => u4.1 0 | _ => 0), (fun _ => fun _ => 0), (fun _ => fun _ => 0)) rfl trivial (hP.sub [0, 1, 2] rfl) (hD.sub [0, 1, 2] (by decide) rfl) hS (Nat.le_of_ble_eq_true rfl) (Nat.le_of_ble_eq_true rfl) dX11_first_22
set_option maxRecDepth 100000 in
set_option maxHeartbeats 4000000 in
theorem k_X11_leaks (l : Launch) (g : GG) (h0 : Nat) (rd0 : Nat) (d0 : Nat) (im0 : Nat) (ig0 : Nat) (rw0 : Nat) (we0 : Nat) (mi0 : Nat) (re0 : Nat) (pl0 : Nat) (ri0 : Nat) (le0 : Nat) (dr0 : Nat) (dr1 : Nat) (dr2 : Nat) (dr3 : Nat) (dr4 : Nat) (dr5 : Nat) (dr6 : Nat) (dr7 : Nat) (dr8 : Nat) (dr9 : Nat) (dstates : Int32) (dreally : Int32) (ddays : Int32) (dheal : Int32) (dleak : Int32) (dlines : Int32) (dhearers : Int32) (dwords : Int32) (dplans : Int32) (dnews : Int32) (p1 : Int32) (p2 : Int32) (i_dstates : 0 ≤ dstates.toInt ∧ dstates.toInt ≤ 8) (i_dreally : 0 ≤ dreally.toInt ∧ dreally.toInt ≤ 7) (i_ddays : 0 ≤ ddays.toInt ∧ ddays.toInt ≤ 10) (i_dhearers : 0 ≤ dhearers.toInt ∧ dhearers.toInt ≤ 4) (i_dwords : 0 ≤ dwords.toInt ∧ dwords.toInt ≤ 8) (i_dplans : 0 ≤ dplans.toInt ∧ dplans.toInt ≤ 4) (i_dnews : 0 ≤ dnews.toInt ∧ dnews.toInt ≤ 6) : Ct l g yX11_leaks cX11_leaks 5 (some .int) { frames := 1, cells := 0, slots := 0, locals := 24 } [.ref h0, .int p1, .int p2] [(h0, .inr (11, [.ref rd0, .ref d0, .ref im0, .ref ig0, .ref rw0, .ref we0, .ref mi0, .ref re0, .ref pl0, .ref ri0, .ref le0])), (d0, .inr (0, [.int dstates, .int dreally, .int ddays, .int dheal, .int dleak, .int dlines, .int dhearers, .int dwords, .int dplans, .int dnews, .ref dr0, .ref dr1, .ref dr2, .ref dr3, .ref dr4, .ref dr5, .ref dr6, .ref dr7, .ref dr8, .ref dr9]))] (S := (Nat → Int32) × (Nat → Nat → Int32) × (Nat → Nat → Int64)) (fun u => some (.int (u.1 0))) (fun u => True) (fun u => [(h0, .inr (11, [.ref rd0, .ref d0, .ref im0, .ref ig0, .ref rw0, .ref we0, .ref mi0, .ref re0, .ref pl0, .ref ri0, .ref le0])), (d0, .inr (0, [.int dstates, .int dreally, .int ddays, .int dheal, .int dleak, .int dlines, .int dhearers, .int dwords, .int dplans, .int dnews, .ref dr0, .ref dr1, .ref dr2, .ref dr3, .ref dr4, .ref dr5, .ref dr6, .ref dr7, .ref dr8, .ref dr9]))]) := by
  refine Ct.of (by decide) (Nat.le_of_ble_eq_true rfl) ?_
  intro p e s m below meth c A ls FX hP hD hS hl
  obtain ⟨FC, hr, hlk, hKn, hA, hnm, hZ⟩ := id FX
  have FC : CallFix p m c cX11_leaks 5 s _ BIG RX11 := FC
  obtain ⟨hx, hb, hml, hown, hB⟩ := id FC
  have hl : lv_has ls 5 [(0, .ref h0), (1, .int p1), (2, .int p2)] := hl
  refine lv_aload_n hx hb dX11_leaks_0 rfl (lv_at hl 0 rfl) ?_
  refine g_get (C := RX11) (T := TX11) (N := 11) (ci := 11) (v := .ref d0) FC hKn hP i_X11 0 rfl rfl 1 (by decide) b_310 rfl dX11_leaks_1 ?_
  refine call_VN (As := []) (rest := []) (wr := [(h0, .inr (11, [.ref rd0, .ref d0, .ref im0, .ref ig0, .ref rw0, .ref we0, .ref mi0, .ref re0, .ref pl0, .ref ri0, .ref le0]))]) FC hKn hZ (k_X0_stands l g d0 dr0 dr1 dr2 dr3 dr4 dr5 dr6 dr7 dr8 dr9 dstates dreally ddays dheal dleak dlines dhearers dwords dplans dnews (by omega) (by omega) (by omega) (by omega) (by omega) (by omega) (by omega)) m_yX0_stands b_311 (ci := 0) rfl rfl rfl hP hD hS hA [1] [0] rfl (by decide) rfl (by decide) (by decide) rfl hl.1 rfl (Nat.le_of_ble_eq_true rfl) dX11_leaks_4 ⟨(Nat.le_of_ble_eq_true rfl), (Nat.le_of_ble_eq_true rfl)⟩ ⟨(Nat.le_of_ble_eq_true rfl), (Nat.le_of_ble_eq_true rfl)⟩ (fun u1 H locs q2 hP hD hS => ?_)
  have q2_0 : 0 ≤ (u1.1 0).toInt ∧ (u1.1 0).toInt ≤ 1 := q2
  have hP : va_P g.1 vwCl [(h0, .inr (11, [.ref rd0, .ref d0, .ref im0, .ref ig0, .ref rw0, .ref we0, .ref mi0, .ref re0, .ref pl0, .ref ri0, .ref le0])), (d0, .inr (0, [.int dstates, .int dreally, .int ddays, .int dheal, .int dleak, .int dlines, .int dhearers, .int dwords, .int dplans, .int dnews, .ref dr0, .ref dr1, .ref dr2, .ref dr3, .ref dr4, .ref dr5, .ref dr6, .ref dr7, .ref dr8, .ref dr9]))] H := hP
  have hD : va_D A [(h0, .inr (11, [.ref rd0, .ref d0, .ref im0, .ref ig0, .ref rw0, .ref we0, .ref mi0, .ref re0, .ref pl0, .ref ri0, .ref le0])), (d0, .inr (0, [.int dstates, .int dreally, .int ddays, .int dheal, .int dleak, .int dlines, .int dhearers, .int dwords, .int dplans, .int dnews, .ref dr0, .ref dr1, .ref dr2, .ref dr3, .ref dr4, .ref dr5, .ref dr6, .ref dr7, .ref dr8, .ref dr9]))] := hD
  refine W.eq (g2 := F0 m 7 ls [.int (u1.1 0)]) rfl ?_
  refine lv_if_eq (tgt := 28) hx hb dX11_leaks_7 (by decide) (fun c3 => ?_) (fun c3 => ?_)
  · have c3 := k_eq (a := (u1.1 0).toInt) (b := 0) rfl (by decide) c3
    refine lv_bipush (v := -2) hx hb dX11_leaks_28 (by decide) ?_
    exact rt_i FX ((fun k => match k with | 0 => (-2 : Int32) | _ => 0), (fun _ => fun _ => 0), (fun _ => fun _ => 0)) rfl trivial (hP.sub [0, 1] rfl) (hD.sub [0, 1] (by decide) rfl) hS (Nat.le_of_ble_eq_true rfl) (Nat.le_of_ble_eq_true rfl) dX11_leaks_30
  · have c3 := k_ne (a := (u1.1 0).toInt) (b := 0) rfl (by decide) c3
    refine lv_iload_n hx hb dX11_leaks_10 rfl (lv_at hl 1 rfl) ?_
    refine call_S (As := [.int p1]) (rest := []) (wr := [(h0, .inr (11, [.ref rd0, .ref d0, .ref im0, .ref ig0, .ref rw0, .ref we0, .ref mi0, .ref re0, .ref pl0, .ref ri0, .ref le0])), (d0, .inr (0, [.int dstates, .int dreally, .int ddays, .int dheal, .int dleak, .int dlines, .int dhearers, .int dwords, .int dplans, .int dnews, .ref dr0, .ref dr1, .ref dr2, .ref dr3, .ref dr4, .ref dr5, .ref dr6, .ref dr7, .ref dr8, .ref dr9]))]) FC hKn hZ (k_X11_isSeed l g p1) m_yX11_isSeed b_420 hP hD hS hA [] [0, 1] rfl (by decide) rfl (by decide) (by decide) rfl hl.1 rfl (Nat.le_of_ble_eq_true rfl) dX11_leaks_11 ⟨(Nat.le_of_ble_eq_true rfl), (Nat.le_of_ble_eq_true rfl)⟩ ⟨(Nat.le_of_ble_eq_true rfl), (Nat.le_of_ble_eq_true rfl)⟩ (fun u4 H locs q5 hP hD hS => ?_)
    obtain ⟨q5_0, q5_1, q5_2⟩ := q5
    have hP : va_P g.1 vwCl [(h0, .inr (11, [.ref rd0, .ref d0, .ref im0, .ref ig0, .ref rw0, .ref we0, .ref mi0, .ref re0, .ref pl0, .ref ri0, .ref le0])), (d0, .inr (0, [.int dstates, .int dreally, .int ddays, .int dheal, .int dleak, .int dlines, .int dhearers, .int dwords, .int dplans, .int dnews, .ref dr0, .ref dr1, .ref dr2, .ref dr3, .ref dr4, .ref dr5, .ref dr6, .ref dr7, .ref dr8, .ref dr9]))] H := hP
    have hD : va_D A [(h0, .inr (11, [.ref rd0, .ref d0, .ref im0, .ref ig0, .ref rw0, .ref we0, .ref mi0, .ref re0, .ref pl0, .ref ri0, .ref le0])), (d0, .inr (0, [.int dstates, .int dreally, .int ddays, .int dheal, .int dleak, .int dlines, .int dhearers, .int dwords, .int dplans, .int dnews, .ref dr0, .ref dr1, .ref dr2, .ref dr3, .ref dr4, .ref dr5, .ref dr6, .ref dr7, .ref dr8, .ref dr9]))] := hD
    refine W.eq (g2 := F0 m 14 ls [.int (u4.1 0)]) rfl ?_
    rcases (show (u4.1 0).toInt = 0 ∨ (u4.1 0).toInt = 1 by omega) with c6 | c6
    · skip
      refine lv_if_eq (tgt := 28) hx hb dX11_leaks_14 (by decide) (fun c7 => ?_) (fun c7 => ?_)
      · have c7 := k_eq (a := (u4.1 0).toInt) (b := 0) rfl (by decide) c7
        refine lv_bipush (v := -2) hx hb dX11_leaks_28 (by decide) ?_
        exact rt_i FX ((fun k => match k with | 0 => (-2 : Int32) | _ => 0), (fun _ => fun _ => 0), (fun _ => fun _ => 0)) rfl trivial (hP.sub [0, 1] rfl) (hD.sub [0, 1] (by decide) rfl) hS (Nat.le_of_ble_eq_true rfl) (Nat.le_of_ble_eq_true rfl) dX11_leaks_30
      · have c7 := k_ne (a := (u4.1 0).toInt) (b := 0) rfl (by decide) c7
        exfalso; omega
    · have c6_r := q5_2 c6
      refine lv_if_eq (tgt := 28) hx hb dX11_leaks_14 (by decide) (fun c8 => ?_) (fun c8 => ?_)
      · have c8 := k_eq (a := (u4.1 0).toInt) (b := 0) rfl (by decide) c8
        exfalso; omega
      · have c8 := k_ne (a := (u4.1 0).toInt) (b := 0) rfl (by decide) c8
        refine lv_iload_n hx hb dX11_leaks_17 rfl (lv_at hl 2 rfl) ?_
        refine lv_iconst (v := 1) hx hb dX11_leaks_18 (by decide) ?_
        refine lv_icmp_lt (tgt := 28) hx hb dX11_leaks_19 (by decide) (fun c9 => ?_) (fun c9 => ?_)
        · have c9 := k_lt (a := p2.toInt) (b := 1) rfl (by decide) c9
          refine lv_bipush (v := -2) hx hb dX11_leaks_28 (by decide) ?_
          exact rt_i FX ((fun k => match k with | 0 => (-2 : Int32) | _ => 0), (fun _ => fun _ => 0), (fun _ => fun _ => 0)) rfl trivial (hP.sub [0, 1] rfl) (hD.sub [0, 1] (by decide) rfl) hS (Nat.le_of_ble_eq_true rfl) (Nat.le_of_ble_eq_true rfl) dX11_leaks_30
        · have c9 := k_nlt (a := p2.toInt) (b := 1) rfl (by decide) c9
          refine lv_iload_n hx hb dX11_leaks_22 rfl (lv_at hl 2 rfl) ?_
          refine lv_bipush (v := 20) hx hb dX11_leaks_23 (by decide) ?_
          refine lv_icmp_le (tgt := 31) hx hb dX11_leaks_25 (by decide) (fun c10 => ?_) (fun c10 => ?_)
          · have c10 := k_le (a := p2.toInt) (b := 20) rfl (by decide) c10
            refine lv_iconst (v := 0) hx hb dX11_leaks_31 (by decide) ?_
            refine lv_istore_n (lv' := [(3, .int 0), (0, .ref h0), (1, .int p1), (2, .int p2)]) hx hb dX11_leaks_32 rfl hl (by decide) rfl (fun ls hl => ?_)
            refine lv_iconst (v := 0) hx hb dX11_leaks_33 (by decide) ?_
            refine lv_istore (lv' := [(4, .int 0), (3, .int 0), (0, .ref h0), (1, .int p1), (2, .int p2)]) hx hb dX11_leaks_34 hl (by decide) rfl (fun ls hl => ?_)
            have lp98 : ∀ (n100 : Nat) (x96 : Int32) (x97 : Int32) (H : Heap) (locs : List Loc) (ls : Array Slot), 0 ≤ x96.toInt ∧ x96.toInt ≤ 20 → (20 - x96.toInt).toNat < n100 → va_P g.1 vwCl [(h0, .inr (11, [.ref rd0, .ref d0, .ref im0, .ref ig0, .ref rw0, .ref we0, .ref mi0, .ref re0, .ref pl0, .ref ri0, .ref le0])), (d0, .inr (0, [.int dstates, .int dreally, .int ddays, .int dheal, .int dleak, .int dlines, .int dhearers, .int dwords, .int dplans, .int dnews, .ref dr0, .ref dr1, .ref dr2, .ref dr3, .ref dr4, .ref dr5, .ref dr6, .ref dr7, .ref dr8, .ref dr9]))] H → va_D A [(h0, .inr (11, [.ref rd0, .ref d0, .ref im0, .ref ig0, .ref rw0, .ref we0, .ref mi0, .ref re0, .ref pl0, .ref ri0, .ref le0])), (d0, .inr (0, [.int dstates, .int dreally, .int ddays, .int dheal, .int dleak, .int dlines, .int dhearers, .int dwords, .int dplans, .int dnews, .ref dr0, .ref dr1, .ref dr2, .ref dr3, .ref dr4, .ref dr5, .ref dr6, .ref dr7, .ref dr8, .ref dr9]))] → va_S A s.heap H locs → lv_has ls 5 [(4, .int x96), (3, .int x97), (0, .ref h0), (1, .int p1), (2, .int p2)] → W p l e { frames := 1, cells := 0, slots := 0, locals := 24 } s m ([.ref h0, .int p1, .int p2].toArray) below meth c H locs 0 0 (MQ below (QX (S := (Nat → Int32) × (Nat → Nat → Int32) × (Nat → Nat → Int64)) (fun u => some (.int (u.1 0))) (fun u => True) g (fun u => [(h0, .inr (11, [.ref rd0, .ref d0, .ref im0, .ref ig0, .ref rw0, .ref we0, .ref mi0, .ref re0, .ref pl0, .ref ri0, .ref le0])), (d0, .inr (0, [.int dstates, .int dreally, .int ddays, .int dheal, .int dleak, .int dlines, .int dhearers, .int dwords, .int dplans, .int dnews, .ref dr0, .ref dr1, .ref dr2, .ref dr3, .ref dr4, .ref dr5, .ref dr6, .ref dr7, .ref dr8, .ref dr9]))]) A) ([.ref h0, .int p1, .int p2].toArray) s 0 0 A) (F0 m 36 ls []) := by
              intro n100
              induction n100 with
              | zero =>
                intro x96 x97 H locs ls h_x96 hn101
                exact absurd hn101 (Nat.not_lt_zero _)
              | succ n100 ih99 =>
                intro x96 x97 H locs ls h_x96 hn101 hP hD hS hl
                refine lv_iload hx hb dX11_leaks_36 (lv_at hl 0 rfl) ?_
                refine lv_iload_n hx hb dX11_leaks_38 rfl (lv_at hl 4 rfl) ?_
                refine lv_icmp_ge (tgt := 66) hx hb dX11_leaks_39 (by decide) (fun c102 => ?_) (fun c102 => ?_)
                · have c102 := k_le (a := p2.toInt) (b := x96.toInt) rfl rfl c102
                  refine lv_iload_n hx hb dX11_leaks_66 rfl (lv_at hl 1 rfl) ?_
                  exact rt_i FX ((fun k => match k with | 0 => x97 | _ => 0), (fun _ => fun _ => 0), (fun _ => fun _ => 0)) rfl trivial (hP.sub [0, 1] rfl) (hD.sub [0, 1] (by decide) rfl) hS (Nat.le_of_ble_eq_true rfl) (Nat.le_of_ble_eq_true rfl) dX11_leaks_67
                · have c102 := k_nle (a := p2.toInt) (b := x96.toInt) rfl rfl c102
                  refine lv_aload_n hx hb dX11_leaks_42 rfl (lv_at hl 2 rfl) ?_
                  refine g_get (C := RX11) (T := TX11) (N := 11) (ci := 11) (v := .ref d0) FC hKn hP i_X11 0 rfl rfl 1 (by decide) b_310 rfl dX11_leaks_43 ?_
                  refine lv_iload_n hx hb dX11_leaks_46 rfl (lv_at hl 3 rfl) ?_
                  refine lv_iload hx hb dX11_leaks_47 (lv_at hl 0 rfl) ?_
                  refine lv_iadd hx hb dX11_leaks_49 ?_
                  refine lv_topi (fun z103 e_z103 => ?_)
                  have t_z103 : z103.toInt = p1.toInt + x96.toInt := by rw [e_z103]; exact fb_addI (by omega) (by omega)
                  refine call_VN (As := [.int z103]) (rest := []) (wr := [(h0, .inr (11, [.ref rd0, .ref d0, .ref im0, .ref ig0, .ref rw0, .ref we0, .ref mi0, .ref re0, .ref pl0, .ref ri0, .ref le0]))]) FC hKn hZ (k_X0_drawLeak l g d0 dr0 dr1 dr2 dr3 dr4 dr5 dr6 dr7 dr8 dr9 dstates dreally ddays dheal dleak dlines dhearers dwords dplans dnews z103 (by omega) (by omega) (by omega) (by omega) (by omega) (by omega) (by omega)) m_yX0_drawLeak b_421 (ci := 0) rfl rfl rfl hP hD hS hA [1] [0] rfl (by decide) rfl (by decide) (by decide) rfl hl.1 rfl (Nat.le_of_ble_eq_true rfl) dX11_leaks_50 ⟨(Nat.le_of_ble_eq_true rfl), (Nat.le_of_ble_eq_true rfl)⟩ ⟨(Nat.le_of_ble_eq_true rfl), (Nat.le_of_ble_eq_true rfl)⟩ (fun u104 H locs q105 hP hD hS => ?_)
                  have q105_0 : -1 ≤ (u104.1 0).toInt ∧ (u104.1 0).toInt ≤ 9 := q105
                  have hP : va_P g.1 vwCl [(h0, .inr (11, [.ref rd0, .ref d0, .ref im0, .ref ig0, .ref rw0, .ref we0, .ref mi0, .ref re0, .ref pl0, .ref ri0, .ref le0])), (d0, .inr (0, [.int dstates, .int dreally, .int ddays, .int dheal, .int dleak, .int dlines, .int dhearers, .int dwords, .int dplans, .int dnews, .ref dr0, .ref dr1, .ref dr2, .ref dr3, .ref dr4, .ref dr5, .ref dr6, .ref dr7, .ref dr8, .ref dr9]))] H := hP
                  have hD : va_D A [(h0, .inr (11, [.ref rd0, .ref d0, .ref im0, .ref ig0, .ref rw0, .ref we0, .ref mi0, .ref re0, .ref pl0, .ref ri0, .ref le0])), (d0, .inr (0, [.int dstates, .int dreally, .int ddays, .int dheal, .int dleak, .int dlines, .int dhearers, .int dwords, .int dplans, .int dnews, .ref dr0, .ref dr1, .ref dr2, .ref dr3, .ref dr4, .ref dr5, .ref dr6, .ref dr7, .ref dr8, .ref dr9]))] := hD
                  refine W.eq (g2 := F0 m 53 ls [.int (u104.1 0)]) rfl ?_
                  refine lv_iconst (v := -1) hx hb dX11_leaks_53 (by decide) ?_
                  refine lv_icmp_eq (tgt := 60) hx hb dX11_leaks_54 (by decide) (fun c106 => ?_) (fun c106 => ?_)
                  · have c106 := k_eq (a := (u104.1 0).toInt) (b := -1) rfl (by decide) c106
                    obtain ⟨z107, e_z107⟩ : ∃ y : Int32, y = x96 + 1 := ⟨_, rfl⟩
                    have t_z107 : z107.toInt = x96.toInt + 1 := by rw [e_z107]; exact addk (by decide) (by omega) (by omega)
                    refine lv_iinc (v := z107) (lv' := [(4, .int z107), (3, .int x97), (0, .ref h0), (1, .int p1), (2, .int p2)]) hx hb dX11_leaks_60 hl (k := 0) rfl (by rw [e_z107]; rfl) (by decide) rfl (fun ls hl => ?_)
                    refine lv_goto (tgt := 36) hx hb dX11_leaks_63 (by decide) ?_
                    exact ih99 z107 x97 _ _ ls (by omega) (by omega) hP hD hS (lv_sub hl [0, 1, 2, 3, 4] rfl)
                  · have c106 := k_ne (a := (u104.1 0).toInt) (b := -1) rfl (by decide) c106
                    obtain ⟨z108, e_z108⟩ : ∃ y : Int32, y = x97 + 1 := ⟨_, rfl⟩
                    refine lv_iinc (v := z108) (lv' := [(3, .int z108), (4, .int x96), (0, .ref h0), (1, .int p1), (2, .int p2)]) hx hb dX11_leaks_57 hl (k := 1) rfl (by rw [e_z108]; rfl) (by decide) rfl (fun ls hl => ?_)
                    obtain ⟨z109, e_z109⟩ : ∃ y : Int32, y = x96 + 1 := ⟨_, rfl⟩
                    have t_z109 : z109.toInt = x96.toInt + 1 := by rw [e_z109]; exact addk (by decide) (by omega) (by omega)
                    refine lv_iinc (v := z109) (lv' := [(4, .int z109), (3, .int z108), (0, .ref h0), (1, .int p1), (2, .int p2)]) hx hb dX11_leaks_60 hl (k := 1) rfl (by rw [e_z109]; rfl) (by decide) rfl (fun ls hl => ?_)
                    refine lv_goto (tgt := 36) hx hb dX11_leaks_63 (by decide) ?_
                    exact ih99 z109 z108 _ _ ls (by omega) (by omega) hP hD hS (lv_sub hl [0, 1, 2, 3, 4] rfl)
            have kc0 : (0 : Int32).toInt = 0 := by decide
            exact lp98 _ (0 : Int32) (0 : Int32) _ _ ls (by decide) (Nat.lt_succ_self _) hP hD hS (lv_sub hl [0, 1, 2, 3, 4] rfl)
          · have c10 := k_nle (a := p2.toInt) (b := 20) rfl (by decide) c10
            refine lv_bipush (v := -2) hx hb dX11_leaks_28 (by decide) ?_
            exact rt_i FX ((fun k => match k with | 0 => (-2 : Int32) | _ => 0), (fun _ => fun _ => 0), (fun _ => fun _ => 0)) rfl trivial (hP.sub [0, 1] rfl) (hD.sub [0, 1] (by decide) rfl) hS (Nat.le_of_ble_eq_true rfl) (Nat.le_of_ble_eq_true rfl) dX11_leaks_30
set_option maxRecDepth 100000 in
set_option maxHeartbeats 4000000 in
theorem k_X11_soon (l : Launch) (g : GG) (h0 : Nat) (rd0 : Nat) (d0 : Nat) (im0 : Nat) (ig0 : Nat) (rw0 : Nat) (we0 : Nat) (mi0 : Nat) (re0 : Nat) (pl0 : Nat) (ri0 : Nat) (le0 : Nat) (dr0 : Nat) (dr1 : Nat) (dr2 : Nat) (dr3 : Nat) (dr4 : Nat) (dr5 : Nat) (dr6 : Nat) (dr7 : Nat) (dr8 : Nat) (dr9 : Nat) (dstates : Int32) (dreally : Int32) (ddays : Int32) (dheal : Int32) (dleak : Int32) (dlines : Int32) (dhearers : Int32) (dwords : Int32) (dplans : Int32) (dnews : Int32) (dthoughts : Nat → Int32) (dgrades : Nat → Int32) (p1 : Int32) (p2 : Int32) (i_dstates : 0 ≤ dstates.toInt ∧ dstates.toInt ≤ 8) (i_dreally : 0 ≤ dreally.toInt ∧ dreally.toInt ≤ 7) (i_ddays : 0 ≤ ddays.toInt ∧ ddays.toInt ≤ 10) (i_dhearers : 0 ≤ dhearers.toInt ∧ dhearers.toInt ≤ 4) (i_dwords : 0 ≤ dwords.toInt ∧ dwords.toInt ≤ 8) (i_dplans : 0 ≤ dplans.toInt ∧ dplans.toInt ≤ 4) (i_dnews : 0 ≤ dnews.toInt ∧ dnews.toInt ≤ 6) : Ct l g yX11_soon cX11_soon 8 (some .int) { frames := 4, cells := 0, slots := 0, locals := 94 } [.ref h0, .int p1, .int p2] [(h0, .inr (11, [.ref rd0, .ref d0, .ref im0, .ref ig0, .ref rw0, .ref we0, .ref mi0, .ref re0, .ref pl0, .ref ri0, .ref le0])), (d0, .inr (0, [.int dstates, .int dreally, .int ddays, .int dheal, .int dleak, .int dlines, .int dhearers, .int dwords, .int dplans, .int dnews, .ref dr0, .ref dr1, .ref dr2, .ref dr3, .ref dr4, .ref dr5, .ref dr6, .ref dr7, .ref dr8, .ref dr9])), (dr1, .inl (g.2 0, 32, .inl dthoughts)), (dr0, .inl (g.2 0, 8, .inl dgrades))] (S := (Nat → Int32) × (Nat → Nat → Int32) × (Nat → Nat → Int64)) (fun u => some (.int (u.1 0))) (fun u => True) (fun u => [(h0, .inr (11, [.ref rd0, .ref d0, .ref im0, .ref ig0, .ref rw0, .ref we0, .ref mi0, .ref re0, .ref pl0, .ref ri0, .ref le0])), (d0, .inr (0, [.int dstates, .int dreally, .int ddays, .int dheal, .int dleak, .int dlines, .int dhearers, .int dwords, .int dplans, .int dnews, .ref dr0, .ref dr1, .ref dr2, .ref dr3, .ref dr4, .ref dr5, .ref dr6, .ref dr7, .ref dr8, .ref dr9])), (dr1, .inl (g.2 0, 32, .inl dthoughts)), (dr0, .inl (g.2 0, 8, .inl dgrades))]) := by
  refine Ct.of (by decide) (Nat.le_of_ble_eq_true rfl) ?_
  intro p e s m below meth c A ls FX hP hD hS hl
  obtain ⟨FC, hr, hlk, hKn, hA, hnm, hZ⟩ := id FX
  have FC : CallFix p m c cX11_soon 8 s _ BIG RX11 := FC
  obtain ⟨hx, hb, hml, hown, hB⟩ := id FC
  have hl : lv_has ls 8 [(0, .ref h0), (1, .int p1), (2, .int p2)] := hl
  refine lv_aload_n hx hb dX11_soon_0 rfl (lv_at hl 0 rfl) ?_
  refine g_get (C := RX11) (T := TX11) (N := 11) (ci := 11) (v := .ref d0) FC hKn hP i_X11 0 rfl rfl 1 (by decide) b_310 rfl dX11_soon_1 ?_
  refine lv_iload_n hx hb dX11_soon_4 rfl (lv_at hl 1 rfl) ?_
  refine call_VN (As := [.int p1]) (rest := []) (wr := [(h0, .inr (11, [.ref rd0, .ref d0, .ref im0, .ref ig0, .ref rw0, .ref we0, .ref mi0, .ref re0, .ref pl0, .ref ri0, .ref le0])), (dr1, .inl (g.2 0, 32, .inl dthoughts)), (dr0, .inl (g.2 0, 8, .inl dgrades))]) FC hKn hZ (k_X0_hasHearer l g d0 dr0 dr1 dr2 dr3 dr4 dr5 dr6 dr7 dr8 dr9 dstates dreally ddays dheal dleak dlines dhearers dwords dplans dnews p1 (by omega) (by omega) (by omega) (by omega) (by omega) (by omega) (by omega)) m_yX0_hasHearer b_316 (ci := 0) rfl rfl rfl hP hD hS hA [1] [0, 2, 3] rfl (by decide) rfl (by decide) (by decide) rfl hl.1 rfl (Nat.le_of_ble_eq_true rfl) dX11_soon_5 ⟨(Nat.le_of_ble_eq_true rfl), (Nat.le_of_ble_eq_true rfl)⟩ ⟨(Nat.le_of_ble_eq_true rfl), (Nat.le_of_ble_eq_true rfl)⟩ (fun u1 H locs q2 hP hD hS => ?_)
  obtain ⟨q2_0, q2_1⟩ := q2
  have hP : va_P g.1 vwCl [(h0, .inr (11, [.ref rd0, .ref d0, .ref im0, .ref ig0, .ref rw0, .ref we0, .ref mi0, .ref re0, .ref pl0, .ref ri0, .ref le0])), (dr1, .inl (g.2 0, 32, .inl dthoughts)), (dr0, .inl (g.2 0, 8, .inl dgrades)), (d0, .inr (0, [.int dstates, .int dreally, .int ddays, .int dheal, .int dleak, .int dlines, .int dhearers, .int dwords, .int dplans, .int dnews, .ref dr0, .ref dr1, .ref dr2, .ref dr3, .ref dr4, .ref dr5, .ref dr6, .ref dr7, .ref dr8, .ref dr9]))] H := hP
  have hD : va_D A [(h0, .inr (11, [.ref rd0, .ref d0, .ref im0, .ref ig0, .ref rw0, .ref we0, .ref mi0, .ref re0, .ref pl0, .ref ri0, .ref le0])), (dr1, .inl (g.2 0, 32, .inl dthoughts)), (dr0, .inl (g.2 0, 8, .inl dgrades)), (d0, .inr (0, [.int dstates, .int dreally, .int ddays, .int dheal, .int dleak, .int dlines, .int dhearers, .int dwords, .int dplans, .int dnews, .ref dr0, .ref dr1, .ref dr2, .ref dr3, .ref dr4, .ref dr5, .ref dr6, .ref dr7, .ref dr8, .ref dr9]))] := hD
  refine W.eq (g2 := F0 m 8 ls [.int (u1.1 0)]) rfl ?_
  rcases (show (u1.1 0).toInt = 0 ∨ (u1.1 0).toInt = 1 by omega) with c3 | c3
  · skip
    refine lv_if_eq (tgt := 20) hx hb dX11_soon_8 (by decide) (fun c4 => ?_) (fun c4 => ?_)
    · have c4 := k_eq (a := (u1.1 0).toInt) (b := 0) rfl (by decide) c4
      refine lv_bipush (v := -2) hx hb dX11_soon_20 (by decide) ?_
      exact rt_i FX ((fun k => match k with | 0 => (-2 : Int32) | _ => 0), (fun _ => fun _ => 0), (fun _ => fun _ => 0)) rfl trivial (hP.sub [0, 3, 1, 2] rfl) (hD.sub [0, 3, 1, 2] (by decide) rfl) hS (Nat.le_of_ble_eq_true rfl) (Nat.le_of_ble_eq_true rfl) dX11_soon_22
    · have c4 := k_ne (a := (u1.1 0).toInt) (b := 0) rfl (by decide) c4
      exfalso; omega
  · have c3_r := q2_1 c3
    refine lv_if_eq (tgt := 20) hx hb dX11_soon_8 (by decide) (fun c5 => ?_) (fun c5 => ?_)
    · have c5 := k_eq (a := (u1.1 0).toInt) (b := 0) rfl (by decide) c5
      exfalso; omega
    · have c5 := k_ne (a := (u1.1 0).toInt) (b := 0) rfl (by decide) c5
      refine lv_iload_n hx hb dX11_soon_11 rfl (lv_at hl 2 rfl) ?_
      refine lv_if_lt (tgt := 20) hx hb dX11_soon_12 (by decide) (fun c6 => ?_) (fun c6 => ?_)
      · have c6 := k_lt (a := p2.toInt) (b := 0) rfl (by decide) c6
        refine lv_bipush (v := -2) hx hb dX11_soon_20 (by decide) ?_
        exact rt_i FX ((fun k => match k with | 0 => (-2 : Int32) | _ => 0), (fun _ => fun _ => 0), (fun _ => fun _ => 0)) rfl trivial (hP.sub [0, 3, 1, 2] rfl) (hD.sub [0, 3, 1, 2] (by decide) rfl) hS (Nat.le_of_ble_eq_true rfl) (Nat.le_of_ble_eq_true rfl) dX11_soon_22
      · have c6 := k_nlt (a := p2.toInt) (b := 0) rfl (by decide) c6
        refine lv_iload_n hx hb dX11_soon_15 rfl (lv_at hl 2 rfl) ?_
        refine lv_iconst (v := 1) hx hb dX11_soon_16 (by decide) ?_
        refine lv_icmp_le (tgt := 23) hx hb dX11_soon_17 (by decide) (fun c7 => ?_) (fun c7 => ?_)
        · have c7 := k_le (a := p2.toInt) (b := 1) rfl (by decide) c7
          refine lv_iconst (v := 0) hx hb dX11_soon_23 (by decide) ?_
          refine lv_istore_n (lv' := [(3, .int 0), (0, .ref h0), (1, .int p1), (2, .int p2)]) hx hb dX11_soon_24 rfl hl (by decide) rfl (fun ls hl => ?_)
          refine lv_ldc hx hb hown (hB _ b_407) dX11_soon_25 ?_
          refine lv_istore (lv' := [(4, .int 1000000000), (3, .int 0), (0, .ref h0), (1, .int p1), (2, .int p2)]) hx hb dX11_soon_27 hl (by decide) rfl (fun ls hl => ?_)
          refine lv_aload_n hx hb dX11_soon_29 rfl (lv_at hl 2 rfl) ?_
          refine g_get (C := RX11) (T := TX11) (N := 11) (ci := 11) (v := .ref d0) FC hKn hP i_X11 0 rfl rfl 1 (by decide) b_310 rfl dX11_soon_30 ?_
          refine lv_iload_n hx hb dX11_soon_33 rfl (lv_at hl 3 rfl) ?_
          refine call_VN (As := [.int p1]) (rest := []) (wr := [(h0, .inr (11, [.ref rd0, .ref d0, .ref im0, .ref ig0, .ref rw0, .ref we0, .ref mi0, .ref re0, .ref pl0, .ref ri0, .ref le0]))]) FC hKn hZ (k_X0_hurtAtOnce l g d0 dr0 dr1 dr2 dr3 dr4 dr5 dr6 dr7 dr8 dr9 dstates dreally ddays dheal dleak dlines dhearers dwords dplans dnews dthoughts dgrades p1 (by omega) (by omega) (by omega) (by omega) (by omega) (by omega) (by omega) (by omega)) m_yX0_hurtAtOnce b_409 (ci := 0) rfl rfl rfl hP hD hS hA [3, 1, 2] [0] rfl (by decide) rfl (by decide) (by decide) rfl hl.1 rfl (Nat.le_of_ble_eq_true rfl) dX11_soon_34 ⟨(Nat.le_of_ble_eq_true rfl), (Nat.le_of_ble_eq_true rfl)⟩ ⟨(Nat.le_of_ble_eq_true rfl), (Nat.le_of_ble_eq_true rfl)⟩ (fun u8 H locs q9 hP hD hS => ?_)
          have hP : va_P g.1 vwCl [(h0, .inr (11, [.ref rd0, .ref d0, .ref im0, .ref ig0, .ref rw0, .ref we0, .ref mi0, .ref re0, .ref pl0, .ref ri0, .ref le0])), (d0, .inr (0, [.int dstates, .int dreally, .int ddays, .int dheal, .int dleak, .int dlines, .int dhearers, .int dwords, .int dplans, .int dnews, .ref dr0, .ref dr1, .ref dr2, .ref dr3, .ref dr4, .ref dr5, .ref dr6, .ref dr7, .ref dr8, .ref dr9])), (dr1, .inl (g.2 0, 32, .inl dthoughts)), (dr0, .inl (g.2 0, 8, .inl dgrades))] H := hP
          have hD : va_D A [(h0, .inr (11, [.ref rd0, .ref d0, .ref im0, .ref ig0, .ref rw0, .ref we0, .ref mi0, .ref re0, .ref pl0, .ref ri0, .ref le0])), (d0, .inr (0, [.int dstates, .int dreally, .int ddays, .int dheal, .int dleak, .int dlines, .int dhearers, .int dwords, .int dplans, .int dnews, .ref dr0, .ref dr1, .ref dr2, .ref dr3, .ref dr4, .ref dr5, .ref dr6, .ref dr7, .ref dr8, .ref dr9])), (dr1, .inl (g.2 0, 32, .inl dthoughts)), (dr0, .inl (g.2 0, 8, .inl dgrades))] := hD
          refine W.eq (g2 := F0 m 37 ls [.int (u8.1 0)]) rfl ?_
          refine lv_istore (lv' := [(5, .int (u8.1 0)), (4, .int 1000000000), (3, .int 0), (0, .ref h0), (1, .int p1), (2, .int p2)]) hx hb dX11_soon_37 hl (by decide) rfl (fun ls hl => ?_)
          refine lv_iconst (v := 0) hx hb dX11_soon_39 (by decide) ?_
          refine lv_istore (lv' := [(6, .int 0), (5, .int (u8.1 0)), (4, .int 1000000000), (3, .int 0), (0, .ref h0), (1, .int p1), (2, .int p2)]) hx hb dX11_soon_40 hl (by decide) rfl (fun ls hl => ?_)
          have lp87 : ∀ (n89 : Nat) (x84 : Int32) (x85 : Int32) (x86 : Int32) (H : Heap) (locs : List Loc) (ls : Array Slot), 0 ≤ x84.toInt ∧ x84.toInt ≤ 10 → x85.toInt ≤ 1000000000 → 0 ≤ x86.toInt → (10 - x84.toInt).toNat < n89 → va_P g.1 vwCl [(h0, .inr (11, [.ref rd0, .ref d0, .ref im0, .ref ig0, .ref rw0, .ref we0, .ref mi0, .ref re0, .ref pl0, .ref ri0, .ref le0])), (d0, .inr (0, [.int dstates, .int dreally, .int ddays, .int dheal, .int dleak, .int dlines, .int dhearers, .int dwords, .int dplans, .int dnews, .ref dr0, .ref dr1, .ref dr2, .ref dr3, .ref dr4, .ref dr5, .ref dr6, .ref dr7, .ref dr8, .ref dr9])), (dr1, .inl (g.2 0, 32, .inl dthoughts)), (dr0, .inl (g.2 0, 8, .inl dgrades))] H → va_D A [(h0, .inr (11, [.ref rd0, .ref d0, .ref im0, .ref ig0, .ref rw0, .ref we0, .ref mi0, .ref re0, .ref pl0, .ref ri0, .ref le0])), (d0, .inr (0, [.int dstates, .int dreally, .int ddays, .int dheal, .int dleak, .int dlines, .int dhearers, .int dwords, .int dplans, .int dnews, .ref dr0, .ref dr1, .ref dr2, .ref dr3, .ref dr4, .ref dr5, .ref dr6, .ref dr7, .ref dr8, .ref dr9])), (dr1, .inl (g.2 0, 32, .inl dthoughts)), (dr0, .inl (g.2 0, 8, .inl dgrades))] → va_S A s.heap H locs → lv_has ls 8 [(6, .int x84), (5, .int (u8.1 0)), (4, .int x85), (3, .int x86), (0, .ref h0), (1, .int p1), (2, .int p2)] → W p l e { frames := 4, cells := 0, slots := 0, locals := 94 } s m ([.ref h0, .int p1, .int p2].toArray) below meth c H locs 0 0 (MQ below (QX (S := (Nat → Int32) × (Nat → Nat → Int32) × (Nat → Nat → Int64)) (fun u => some (.int (u.1 0))) (fun u => True) g (fun u => [(h0, .inr (11, [.ref rd0, .ref d0, .ref im0, .ref ig0, .ref rw0, .ref we0, .ref mi0, .ref re0, .ref pl0, .ref ri0, .ref le0])), (d0, .inr (0, [.int dstates, .int dreally, .int ddays, .int dheal, .int dleak, .int dlines, .int dhearers, .int dwords, .int dplans, .int dnews, .ref dr0, .ref dr1, .ref dr2, .ref dr3, .ref dr4, .ref dr5, .ref dr6, .ref dr7, .ref dr8, .ref dr9])), (dr1, .inl (g.2 0, 32, .inl dthoughts)), (dr0, .inl (g.2 0, 8, .inl dgrades))]) A) ([.ref h0, .int p1, .int p2].toArray) s 0 0 A) (F0 m 42 ls []) := by
            intro n89
            induction n89 with
            | zero =>
              intro x84 x85 x86 H locs ls h_x84 h_x85 h_x86 hn90
              exact absurd hn90 (Nat.not_lt_zero _)
            | succ n89 ih88 =>
              intro x84 x85 x86 H locs ls h_x84 h_x85 h_x86 hn90 hP hD hS hl
              refine lv_iload hx hb dX11_soon_42 (lv_at hl 0 rfl) ?_
              refine lv_aload_n hx hb dX11_soon_44 rfl (lv_at hl 4 rfl) ?_
              refine g_get (C := RX11) (T := TX11) (N := 11) (ci := 11) (v := .ref d0) FC hKn hP i_X11 0 rfl rfl 1 (by decide) b_310 rfl dX11_soon_45 ?_
              refine g_getN (C := RX0) (T := TX0) (N := 20) (ci := 0) (v := .int ddays) FC hKn hP i_X0 1 rfl rfl 2 (by decide) b_410 rfl dX11_soon_48 ?_
              refine lv_icmp_ge (tgt := 87) hx hb dX11_soon_51 (by decide) (fun c91 => ?_) (fun c91 => ?_)
              · have c91 := k_le (a := ddays.toInt) (b := x84.toInt) rfl rfl c91
                refine lv_iload_n hx hb dX11_soon_87 rfl (lv_at hl 6 rfl) ?_
                refine lv_if_ne (tgt := 95) hx hb dX11_soon_88 (by decide) (fun c92 => ?_) (fun c92 => ?_)
                · have c92 := k_ne (a := p2.toInt) (b := 0) rfl (by decide) c92
                  refine lv_iload hx hb dX11_soon_95 (lv_at hl 2 rfl) ?_
                  exact rt_i FX ((fun k => match k with | 0 => x85 | _ => 0), (fun _ => fun _ => 0), (fun _ => fun _ => 0)) rfl trivial (hP.sub [0, 1, 2, 3] rfl) (hD.sub [0, 1, 2, 3] (by decide) rfl) hS (Nat.le_of_ble_eq_true rfl) (Nat.le_of_ble_eq_true rfl) dX11_soon_97
                · have c92 := k_eq (a := p2.toInt) (b := 0) rfl (by decide) c92
                  refine lv_iload_n hx hb dX11_soon_91 rfl (lv_at hl 3 rfl) ?_
                  refine lv_goto (tgt := 97) hx hb dX11_soon_92 (by decide) ?_
                  exact rt_i FX ((fun k => match k with | 0 => x86 | _ => 0), (fun _ => fun _ => 0), (fun _ => fun _ => 0)) rfl trivial (hP.sub [0, 1, 2, 3] rfl) (hD.sub [0, 1, 2, 3] (by decide) rfl) hS (Nat.le_of_ble_eq_true rfl) (Nat.le_of_ble_eq_true rfl) dX11_soon_97
              · have c91 := k_nle (a := ddays.toInt) (b := x84.toInt) rfl rfl c91
                refine lv_aload_n hx hb dX11_soon_54 rfl (lv_at hl 4 rfl) ?_
                refine g_get (C := RX11) (T := TX11) (N := 11) (ci := 11) (v := .ref d0) FC hKn hP i_X11 0 rfl rfl 1 (by decide) b_310 rfl dX11_soon_55 ?_
                refine lv_iload hx hb dX11_soon_58 (lv_at hl 1 rfl) ?_
                refine lv_iload hx hb dX11_soon_60 (lv_at hl 0 rfl) ?_
                refine call_VN (As := [.int (u8.1 0), .int x84]) (rest := []) (wr := [(h0, .inr (11, [.ref rd0, .ref d0, .ref im0, .ref ig0, .ref rw0, .ref we0, .ref mi0, .ref re0, .ref pl0, .ref ri0, .ref le0])), (dr1, .inl (g.2 0, 32, .inl dthoughts)), (dr0, .inl (g.2 0, 8, .inl dgrades))]) FC hKn hZ (k_X0_costOfWaiting l g d0 dr0 dr1 dr2 dr3 dr4 dr5 dr6 dr7 dr8 dr9 dstates dreally ddays dheal dleak dlines dhearers dwords dplans dnews (u8.1 0) x84 (by omega) (by omega) (by omega) (by omega) (by omega) (by omega) (by omega) (by omega)) m_yX0_costOfWaiting b_422 (ci := 0) rfl rfl rfl hP hD hS hA [1] [0, 2, 3] rfl (by decide) rfl (by decide) (by decide) rfl hl.1 rfl (Nat.le_of_ble_eq_true rfl) dX11_soon_62 ⟨(Nat.le_of_ble_eq_true rfl), (Nat.le_of_ble_eq_true rfl)⟩ ⟨(Nat.le_of_ble_eq_true rfl), (Nat.le_of_ble_eq_true rfl)⟩ (fun u93 H locs q94 hP hD hS => ?_)
                have hP : va_P g.1 vwCl [(h0, .inr (11, [.ref rd0, .ref d0, .ref im0, .ref ig0, .ref rw0, .ref we0, .ref mi0, .ref re0, .ref pl0, .ref ri0, .ref le0])), (dr1, .inl (g.2 0, 32, .inl dthoughts)), (dr0, .inl (g.2 0, 8, .inl dgrades)), (d0, .inr (0, [.int dstates, .int dreally, .int ddays, .int dheal, .int dleak, .int dlines, .int dhearers, .int dwords, .int dplans, .int dnews, .ref dr0, .ref dr1, .ref dr2, .ref dr3, .ref dr4, .ref dr5, .ref dr6, .ref dr7, .ref dr8, .ref dr9]))] H := hP
                have hD : va_D A [(h0, .inr (11, [.ref rd0, .ref d0, .ref im0, .ref ig0, .ref rw0, .ref we0, .ref mi0, .ref re0, .ref pl0, .ref ri0, .ref le0])), (dr1, .inl (g.2 0, 32, .inl dthoughts)), (dr0, .inl (g.2 0, 8, .inl dgrades)), (d0, .inr (0, [.int dstates, .int dreally, .int ddays, .int dheal, .int dleak, .int dlines, .int dhearers, .int dwords, .int dplans, .int dnews, .ref dr0, .ref dr1, .ref dr2, .ref dr3, .ref dr4, .ref dr5, .ref dr6, .ref dr7, .ref dr8, .ref dr9]))] := hD
                refine W.eq (g2 := F0 m 65 ls [.int (u93.1 0)]) rfl ?_
                refine lv_istore (lv' := [(7, .int (u93.1 0)), (6, .int x84), (5, .int (u8.1 0)), (4, .int x85), (3, .int x86), (0, .ref h0), (1, .int p1), (2, .int p2)]) hx hb dX11_soon_65 hl (by decide) rfl (fun ls hl => ?_)
                refine lv_iload hx hb dX11_soon_67 (lv_at hl 0 rfl) ?_
                refine lv_iload hx hb dX11_soon_69 (lv_at hl 3 rfl) ?_
                refine lv_icmp_ge (tgt := 81) hx hb dX11_soon_71 (by decide) (fun c95 => ?_) (fun c95 => ?_)
                · have c95 := k_le (a := x85.toInt) (b := (u93.1 0).toInt) rfl rfl c95
                  obtain ⟨z96, e_z96⟩ : ∃ y : Int32, y = x84 + 1 := ⟨_, rfl⟩
                  have t_z96 : z96.toInt = x84.toInt + 1 := by rw [e_z96]; exact addk (by decide) (by omega) (by omega)
                  refine lv_iinc (v := z96) (lv' := [(6, .int z96), (7, .int (u93.1 0)), (5, .int (u8.1 0)), (4, .int x85), (3, .int x86), (0, .ref h0), (1, .int p1), (2, .int p2)]) hx hb dX11_soon_81 hl (k := 1) rfl (by rw [e_z96]; rfl) (by decide) rfl (fun ls hl => ?_)
                  refine lv_goto (tgt := 42) hx hb dX11_soon_84 (by decide) ?_
                  exact ih88 z96 x85 x86 _ _ ls (by omega) (by omega) (by omega) (by omega) (hP.sub [0, 3, 1, 2] rfl) (hD.sub [0, 3, 1, 2] (by decide) rfl) hS (lv_sub hl [0, 2, 3, 4, 5, 6, 7] rfl)
                · have c95 := k_nle (a := x85.toInt) (b := (u93.1 0).toInt) rfl rfl c95
                  refine lv_iload hx hb dX11_soon_74 (lv_at hl 0 rfl) ?_
                  refine lv_istore (lv' := [(4, .int (u93.1 0)), (7, .int (u93.1 0)), (6, .int x84), (5, .int (u8.1 0)), (3, .int x86), (0, .ref h0), (1, .int p1), (2, .int p2)]) hx hb dX11_soon_76 hl (by decide) rfl (fun ls hl => ?_)
                  refine lv_iload hx hb dX11_soon_78 (lv_at hl 2 rfl) ?_
                  refine lv_istore_n (lv' := [(3, .int x84), (4, .int (u93.1 0)), (7, .int (u93.1 0)), (6, .int x84), (5, .int (u8.1 0)), (0, .ref h0), (1, .int p1), (2, .int p2)]) hx hb dX11_soon_80 rfl hl (by decide) rfl (fun ls hl => ?_)
                  obtain ⟨z97, e_z97⟩ : ∃ y : Int32, y = x84 + 1 := ⟨_, rfl⟩
                  have t_z97 : z97.toInt = x84.toInt + 1 := by rw [e_z97]; exact addk (by decide) (by omega) (by omega)
                  refine lv_iinc (v := z97) (lv' := [(6, .int z97), (3, .int x84), (4, .int (u93.1 0)), (7, .int (u93.1 0)), (5, .int (u8.1 0)), (0, .ref h0), (1, .int p1), (2, .int p2)]) hx hb dX11_soon_81 hl (k := 3) rfl (by rw [e_z97]; rfl) (by decide) rfl (fun ls hl => ?_)
                  refine lv_goto (tgt := 42) hx hb dX11_soon_84 (by decide) ?_
                  exact ih88 z97 (u93.1 0) x84 _ _ ls (by omega) (by omega) (by omega) (by omega) (hP.sub [0, 3, 1, 2] rfl) (hD.sub [0, 3, 1, 2] (by decide) rfl) hS (lv_sub hl [0, 4, 2, 1, 5, 6, 7] rfl)
          have kc0 : (0 : Int32).toInt = 0 := by decide
          have kc1000000000 : (1000000000 : Int32).toInt = 1000000000 := by decide
          exact lp87 _ (0 : Int32) (1000000000 : Int32) (0 : Int32) _ _ ls (by decide) (by decide) (by decide) (Nat.lt_succ_self _) hP hD hS (lv_sub hl [0, 1, 2, 3, 4, 5, 6] rfl)
        · have c7 := k_nle (a := p2.toInt) (b := 1) rfl (by decide) c7
          refine lv_bipush (v := -2) hx hb dX11_soon_20 (by decide) ?_
          exact rt_i FX ((fun k => match k with | 0 => (-2 : Int32) | _ => 0), (fun _ => fun _ => 0), (fun _ => fun _ => 0)) rfl trivial (hP.sub [0, 3, 1, 2] rfl) (hD.sub [0, 3, 1, 2] (by decide) rfl) hS (Nat.le_of_ble_eq_true rfl) (Nat.le_of_ble_eq_true rfl) dX11_soon_22
