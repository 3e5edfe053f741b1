set_option maxRecDepth 100000 in
set_option maxHeartbeats 4000000 in
theorem k_X4_study (l : Launch) (g : GG) (h0 : Nat) (mr0 : Nat) (d0 : Nat) (dr0 : Nat) (dr1 : Nat) (dr2 : Nat) (dr3 : Nat) (dr4 : Nat) (dr5 : Nat) (dr6 : Nat) (dr7 : Nat) (dr8 : Nat) (dr9 : Nat) (mmeans : Nat → Int32) (dstates : Int32) (dreally : Int32) (ddays : Int32) (dheal : Int32) (dleak : Int32) (dlines : Int32) (dhearers : Int32) (dwords : Int32) (dplans : Int32) (dnews : Int32) (dthoughts : Nat → Int32) (dgrades : Nat → Int32) (p2 : Int32) (i_dstates : 0 ≤ dstates.toInt ∧ dstates.toInt ≤ 8) (i_dreally : 0 ≤ dreally.toInt ∧ dreally.toInt ≤ 7) (i_ddays : 0 ≤ ddays.toInt ∧ ddays.toInt ≤ 10) (i_dhearers : 0 ≤ dhearers.toInt ∧ dhearers.toInt ≤ 4) (i_dwords : 0 ≤ dwords.toInt ∧ dwords.toInt ≤ 8) (i_dplans : 0 ≤ dplans.toInt ∧ dplans.toInt ≤ 4) (i_dnews : 0 ≤ dnews.toInt ∧ dnews.toInt ≤ 6) (i_p2 : 0 ≤ p2.toInt ∧ p2.toInt ≤ 3) : Ct l g yX4_study cX4_study 4 none { frames := 2, cells := 0, slots := 0, locals := 50 } [.ref h0, .ref d0, .int p2] [(h0, .inr (4, [.ref mr0])), (mr0, .inl (g.2 0, 256, .inl mmeans)), (d0, .inr (0, [.int dstates, .int dreally, .int ddays, .int dheal, .int dleak, .int dlines, .int dhearers, .int dwords, .int dplans, .int dnews, .ref dr0, .ref dr1, .ref dr2, .ref dr3, .ref dr4, .ref dr5, .ref dr6, .ref dr7, .ref dr8, .ref dr9])), (dr1, .inl (g.2 0, 32, .inl dthoughts)), (dr0, .inl (g.2 0, 8, .inl dgrades))] (S := (Nat → Int32) × (Nat → Nat → Int32) × (Nat → Nat → Int64)) (fun _ => none) (fun u => True) (fun u => [(h0, .inr (4, [.ref mr0])), (mr0, .inl (g.2 0, 256, .inl (u.2.1 0))), (d0, .inr (0, [.int dstates, .int dreally, .int ddays, .int dheal, .int dleak, .int dlines, .int dhearers, .int dwords, .int dplans, .int dnews, .ref dr0, .ref dr1, .ref dr2, .ref dr3, .ref dr4, .ref dr5, .ref dr6, .ref dr7, .ref dr8, .ref dr9])), (dr1, .inl (g.2 0, 32, .inl dthoughts)), (dr0, .inl (g.2 0, 8, .inl dgrades))]) := by
  refine Ct.of (by decide) (Nat.le_of_ble_eq_true rfl) ?_
  intro p e s m below meth c A ls FX hP hD hS hl
  obtain ⟨FC, hr, hlk, hKn, hA, hnm, hZ⟩ := id FX
  have FC : CallFix p m c cX4_study 4 s _ BIG RX4 := FC
  obtain ⟨hx, hb, hml, hown, hB⟩ := id FC
  have hl : lv_has ls 4 [(0, .ref h0), (1, .ref d0), (2, .int p2)] := hl
  refine lv_iconst (v := 1) hx hb dX4_study_0 (by decide) ?_
  refine lv_istore_n (lv' := [(3, .int 1), (0, .ref h0), (1, .ref d0), (2, .int p2)]) hx hb dX4_study_1 rfl hl (by decide) rfl (fun ls hl => ?_)
  have lp79 : ∀ (n81 : Nat) (x77 : Int32) (x78 : Nat → Int32) (H : Heap) (locs : List Loc) (ls : Array Slot), 1 ≤ x77.toInt ∧ x77.toInt ≤ 256 → (256 - x77.toInt).toNat < n81 → va_P g.1 vwCl [(h0, .inr (4, [.ref mr0])), (mr0, .inl (g.2 0, 256, .inl x78)), (d0, .inr (0, [.int dstates, .int dreally, .int ddays, .int dheal, .int dleak, .int dlines, .int dhearers, .int dwords, .int dplans, .int dnews, .ref dr0, .ref dr1, .ref dr2, .ref dr3, .ref dr4, .ref dr5, .ref dr6, .ref dr7, .ref dr8, .ref dr9])), (dr1, .inl (g.2 0, 32, .inl dthoughts)), (dr0, .inl (g.2 0, 8, .inl dgrades))] H → va_D A [(h0, .inr (4, [.ref mr0])), (mr0, .inl (g.2 0, 256, .inl x78)), (d0, .inr (0, [.int dstates, .int dreally, .int ddays, .int dheal, .int dleak, .int dlines, .int dhearers, .int dwords, .int dplans, .int dnews, .ref dr0, .ref dr1, .ref dr2, .ref dr3, .ref dr4, .ref dr5, .ref dr6, .ref dr7, .ref dr8, .ref dr9])), (dr1, .inl (g.2 0, 32, .inl dthoughts)), (dr0, .inl (g.2 0, 8, .inl dgrades))] → va_S A s.heap H locs → lv_has ls 4 [(3, .int x77), (0, .ref h0), (1, .ref d0), (2, .int p2)] → W p l e { frames := 2, cells := 0, slots := 0, locals := 50 } s m ([.ref h0, .ref d0, .int p2].toArray) below meth c H locs 0 0 (MQ below (QX (S := (Nat → Int32) × (Nat → Nat → Int32) × (Nat → Nat → Int64)) (fun _ => none) (fun u => True) g (fun u => [(h0, .inr (4, [.ref mr0])), (mr0, .inl (g.2 0, 256, .inl (u.2.1 0))), (d0, .inr (0, [.int dstates, .int dreally, .int ddays, .int dheal, .int dleak, .int dlines, .int dhearers, .int dwords, .int dplans, .int dnews, .ref dr0, .ref dr1, .ref dr2, .ref dr3, .ref dr4, .ref dr5, .ref dr6, .ref dr7, .ref dr8, .ref dr9])), (dr1, .inl (g.2 0, 32, .inl dthoughts)), (dr0, .inl (g.2 0, 8, .inl dgrades))]) A) ([.ref h0, .ref d0, .int p2].toArray) s 0 0 A) (F0 m 2 ls []) := by
    intro n81
    induction n81 with
    | zero =>
      intro x77 x78 H locs ls h_x77 hn82
      exact absurd hn82 (Nat.not_lt_zero _)
    | succ n81 ih80 =>
      intro x77 x78 H locs ls h_x77 hn82 hP hD hS hl
      refine lv_iload_n hx hb dX4_study_2 rfl (lv_at hl 0 rfl) ?_
      refine lv_aload_n hx hb dX4_study_3 rfl (lv_at hl 2 rfl) ?_
      refine call_VN (As := []) (rest := [.int x77]) (wr := [(h0, .inr (4, [.ref mr0])), (mr0, .inl (g.2 0, 256, .inl x78)), (dr1, .inl (g.2 0, 32, .inl dthoughts)), (dr0, .inl (g.2 0, 8, .inl dgrades))]) FC hKn hZ (k_X0_everything l g d0 dr0 dr1 dr2 dr3 dr4 dr5 dr6 dr7 dr8 dr9 dstates dreally ddays dheal dleak dlines dhearers dwords dplans dnews (by omega) (by omega) (by omega) (by omega) (by omega) (by omega) (by omega)) m_yX0_everything b_95 (ci := 0) rfl rfl rfl hP hD hS hA [2] [0, 1, 3, 4] rfl (by decide) rfl (by decide) (by decide) rfl hl.1 rfl (Nat.le_of_ble_eq_true rfl) dX4_study_4 ⟨(Nat.le_of_ble_eq_true rfl), (Nat.le_of_ble_eq_true rfl)⟩ ⟨(Nat.le_of_ble_eq_true rfl), (Nat.le_of_ble_eq_true rfl)⟩ (fun u83 H locs q84 hP hD hS => ?_)
      have q84_0 : 0 ≤ (u83.1 0).toInt ∧ (u83.1 0).toInt ≤ 255 := q84
      have hP : va_P g.1 vwCl [(h0, .inr (4, [.ref mr0])), (mr0, .inl (g.2 0, 256, .inl x78)), (dr1, .inl (g.2 0, 32, .inl dthoughts)), (dr0, .inl (g.2 0, 8, .inl dgrades)), (d0, .inr (0, [.int dstates, .int dreally, .int ddays, .int dheal, .int dleak, .int dlines, .int dhearers, .int dwords, .int dplans, .int dnews, .ref dr0, .ref dr1, .ref dr2, .ref dr3, .ref dr4, .ref dr5, .ref dr6, .ref dr7, .ref dr8, .ref dr9]))] H := hP
      have hD : va_D A [(h0, .inr (4, [.ref mr0])), (mr0, .inl (g.2 0, 256, .inl x78)), (dr1, .inl (g.2 0, 32, .inl dthoughts)), (dr0, .inl (g.2 0, 8, .inl dgrades)), (d0, .inr (0, [.int dstates, .int dreally, .int ddays, .int dheal, .int dleak, .int dlines, .int dhearers, .int dwords, .int dplans, .int dnews, .ref dr0, .ref dr1, .ref dr2, .ref dr3, .ref dr4, .ref dr5, .ref dr6, .ref dr7, .ref dr8, .ref dr9]))] := hD
      refine W.eq (g2 := F0 m 7 ls [.int (u83.1 0), .int x77]) rfl ?_
      refine lv_icmp_gt (tgt := 35) hx hb dX4_study_7 (by decide) (fun c85 => ?_) (fun c85 => ?_)
      · have c85 := k_lt (a := (u83.1 0).toInt) (b := x77.toInt) rfl rfl c85
        exact rt_v FX ((fun k => match k with | 0 => 0 | _ => 0), (fun k => match k with | 0 => x78 | _ => fun _ => 0), (fun _ => fun _ => 0)) rfl trivial (hP.sub [0, 1, 4, 2, 3] rfl) (hD.sub [0, 1, 4, 2, 3] (by decide) rfl) hS (Nat.le_of_ble_eq_true rfl) (Nat.le_of_ble_eq_true rfl) dX4_study_35
      · have c85 := k_nlt (a := (u83.1 0).toInt) (b := x77.toInt) rfl rfl c85
        refine lv_iload_n hx hb dX4_study_10 rfl (lv_at hl 0 rfl) ?_
        refine lv_sipush (v := 256) hx hb dX4_study_11 (by decide) ?_
        refine lv_icmp_ge (tgt := 35) hx hb dX4_study_14 (by decide) (fun c86 => ?_) (fun c86 => ?_)
        · have c86 := k_le (a := 256) (b := x77.toInt) (by decide) rfl c86
          exfalso; omega
        · have c86 := k_nle (a := 256) (b := x77.toInt) (by decide) rfl c86
          refine lv_aload_n hx hb dX4_study_17 rfl (lv_at hl 1 rfl) ?_
          refine g_get (C := RX4) (T := TX4) (N := 1) (ci := 4) (v := .ref mr0) FC hKn hP i_X4 0 rfl rfl 0 (by decide) b_96 rfl dX4_study_18 ?_
          refine lv_iload_n hx hb dX4_study_21 rfl (lv_at hl 0 rfl) ?_
          refine lv_aload_n hx hb dX4_study_22 rfl (lv_at hl 2 rfl) ?_
          refine lv_iload_n hx hb dX4_study_23 rfl (lv_at hl 3 rfl) ?_
          refine lv_iload_n hx hb dX4_study_24 rfl (lv_at hl 0 rfl) ?_
          refine call_VN (As := [.int p2, .int x77]) (rest := [.int x77, .ref mr0]) (wr := [(h0, .inr (4, [.ref mr0])), (mr0, .inl (g.2 0, 256, .inl x78))]) FC hKn hZ (k_X0_meanOf l g d0 dr0 dr1 dr2 dr3 dr4 dr5 dr6 dr7 dr8 dr9 dstates dreally ddays dheal dleak dlines dhearers dwords dplans dnews dthoughts dgrades p2 x77 (by omega) (by omega) (by omega) (by omega) (by omega) (by omega) (by omega) (by omega)) m_yX0_meanOf b_97 (ci := 0) rfl rfl rfl hP hD hS hA [4, 2, 3] [0, 1] rfl (by decide) rfl (by decide) (by decide) rfl hl.1 rfl (Nat.le_of_ble_eq_true rfl) dX4_study_25 ⟨(Nat.le_of_ble_eq_true rfl), (Nat.le_of_ble_eq_true rfl)⟩ ⟨(Nat.le_of_ble_eq_true rfl), (Nat.le_of_ble_eq_true rfl)⟩ (fun u87 H locs q88 hP hD hS => ?_)
          have hP : va_P g.1 vwCl [(h0, .inr (4, [.ref mr0])), (mr0, .inl (g.2 0, 256, .inl x78)), (d0, .inr (0, [.int dstates, .int dreally, .int ddays, .int dheal, .int dleak, .int dlines, .int dhearers, .int dwords, .int dplans, .int dnews, .ref dr0, .ref dr1, .ref dr2, .ref dr3, .ref dr4, .ref dr5, .ref dr6, .ref dr7, .ref dr8, .ref dr9])), (dr1, .inl (g.2 0, 32, .inl dthoughts)), (dr0, .inl (g.2 0, 8, .inl dgrades))] H := hP
          have hD : va_D A [(h0, .inr (4, [.ref mr0])), (mr0, .inl (g.2 0, 256, .inl x78)), (d0, .inr (0, [.int dstates, .int dreally, .int ddays, .int dheal, .int dleak, .int dlines, .int dhearers, .int dwords, .int dplans, .int dnews, .ref dr0, .ref dr1, .ref dr2, .ref dr3, .ref dr4, .ref dr5, .ref dr6, .ref dr7, .ref dr8, .ref dr9])), (dr1, .inl (g.2 0, 32, .inl dthoughts)), (dr0, .inl (g.2 0, 8, .inl dgrades))] := hD
          refine W.eq (g2 := F0 m 28 ls [.int (u87.1 0), .int x77, .ref mr0]) rfl ?_
          refine va_iast hx hb hKn.1 hP hD hS 1 0 rfl rfl (vp_in_iff.mpr ⟨by omega, by omega⟩) dX4_study_28 (fun H locs hP hD hS => ?_)
          have hP : va_P g.1 vwCl [(h0, .inr (4, [.ref mr0])), (mr0, .inl (g.2 0, 256, .inl (upd x78 (x77.toNatClampNeg) (u87.1 0)))), (d0, .inr (0, [.int dstates, .int dreally, .int ddays, .int dheal, .int dleak, .int dlines, .int dhearers, .int dwords, .int dplans, .int dnews, .ref dr0, .ref dr1, .ref dr2, .ref dr3, .ref dr4, .ref dr5, .ref dr6, .ref dr7, .ref dr8, .ref dr9])), (dr1, .inl (g.2 0, 32, .inl dthoughts)), (dr0, .inl (g.2 0, 8, .inl dgrades))] H := hP
          have hD : va_D A [(h0, .inr (4, [.ref mr0])), (mr0, .inl (g.2 0, 256, .inl (upd x78 (x77.toNatClampNeg) (u87.1 0)))), (d0, .inr (0, [.int dstates, .int dreally, .int ddays, .int dheal, .int dleak, .int dlines, .int dhearers, .int dwords, .int dplans, .int dnews, .ref dr0, .ref dr1, .ref dr2, .ref dr3, .ref dr4, .ref dr5, .ref dr6, .ref dr7, .ref dr8, .ref dr9])), (dr1, .inl (g.2 0, 32, .inl dthoughts)), (dr0, .inl (g.2 0, 8, .inl dgrades))] := hD
          generalize (upd x78 (x77.toNatClampNeg) (u87.1 0) : Nat → Int32) = f89 at hP hD
          obtain ⟨z90, e_z90⟩ : ∃ y : Int32, y = x77 + 1 := ⟨_, rfl⟩
          have t_z90 : z90.toInt = x77.toInt + 1 := by rw [e_z90]; exact addk (by decide) (by omega) (by omega)
          refine lv_iinc (v := z90) (lv' := [(3, .int z90), (0, .ref h0), (1, .ref d0), (2, .int p2)]) hx hb dX4_study_29 hl (k := 0) rfl (by rw [e_z90]; rfl) (by decide) rfl (fun ls hl => ?_)
          refine lv_goto (tgt := 2) hx hb dX4_study_32 (by decide) ?_
          exact ih80 z90 f89 _ _ ls (by omega) (by omega) hP hD hS (lv_sub hl [0, 1, 2, 3] rfl)
  have kc1 : (1 : Int32).toInt = 1 := by decide
  exact lp79 _ (1 : Int32) mmeans _ _ ls (by decide) (Nat.lt_succ_self _) hP hD hS (lv_sub hl [0, 1, 2, 3] rfl)
set_option maxRecDepth 100000 in
set_option maxHeartbeats 4000000 in
theorem k_X4_pain (l : Launch) (g : GG) (h0 : Nat) (mr0 : Nat) (mmeans : Nat → Int32) (p1 : Int32) (p2 : Int32) (i_p1 : 0 ≤ p1.toInt ∧ p1.toInt ≤ 255) (i_p2 : 0 ≤ p2.toInt ∧ p2.toInt ≤ 255) : Ct l g yX4_pain cX4_pain 3 (some .int) { frames := 1, cells := 0, slots := 0, locals := 20 } [.ref h0, .int p1, .int p2] [(h0, .inr (4, [.ref mr0])), (mr0, .inl (g.2 0, 256, .inl mmeans))] (S := (Nat → Int32) × (Nat → Nat → Int32) × (Nat → Nat → Int64)) (fun u => some (.int (u.1 0))) (fun u => True) (fun u => [(h0, .inr (4, [.ref mr0])), (mr0, .inl (g.2 0, 256, .inl mmeans))]) := by
  refine Ct.of (by decide) (Nat.le_of_ble_eq_true rfl) ?_
  intro p e s m below meth c A ls FX hP hD hS hl
  obtain ⟨FC, hr, hlk, hKn, hA, hnm, hZ⟩ := id FX
  have FC : CallFix p m c cX4_pain 3 s _ BIG RX4 := FC
  obtain ⟨hx, hb, hml, hown, hB⟩ := id FC
  have hl : lv_has ls 3 [(0, .ref h0), (1, .int p1), (2, .int p2)] := hl
  refine lv_aload_n hx hb dX4_pain_0 rfl (lv_at hl 0 rfl) ?_
  refine g_get (C := RX4) (T := TX4) (N := 1) (ci := 4) (v := .ref mr0) FC hKn hP i_X4 0 rfl rfl 0 (by decide) b_96 rfl dX4_pain_1 ?_
  refine lv_iload_n hx hb dX4_pain_4 rfl (lv_at hl 2 rfl) ?_
  refine va_iald hx hb hKn.1 hP 1 0 rfl rfl (vp_in_iff.mpr ⟨by omega, by omega⟩) dX4_pain_5 ?_
  refine lv_topi (fun z1 e_z1 => ?_)
  refine lv_aload_n hx hb dX4_pain_6 rfl (lv_at hl 0 rfl) ?_
  refine g_get (C := RX4) (T := TX4) (N := 1) (ci := 4) (v := .ref mr0) FC hKn hP i_X4 0 rfl rfl 0 (by decide) b_96 rfl dX4_pain_7 ?_
  refine lv_iload_n hx hb dX4_pain_10 rfl (lv_at hl 1 rfl) ?_
  refine va_iald hx hb hKn.1 hP 1 0 rfl rfl (vp_in_iff.mpr ⟨by omega, by omega⟩) dX4_pain_11 ?_
  refine lv_topi (fun z2 e_z2 => ?_)
  refine lv_isub hx hb dX4_pain_12 ?_
  refine lv_topi (fun z3 e_z3 => ?_)
  refine call_S (As := [.int z3]) (rest := []) (wr := [(h0, .inr (4, [.ref mr0])), (mr0, .inl (g.2 0, 256, .inl mmeans))]) FC hKn hZ (k_X4_hurtOf l g z3) m_yX4_hurtOf b_98 hP hD hS hA [] [0, 1] rfl (by decide) rfl (by decide) (by decide) rfl hl.1 rfl (Nat.le_of_ble_eq_true rfl) dX4_pain_13 ⟨(Nat.le_of_ble_eq_true rfl), (Nat.le_of_ble_eq_true rfl)⟩ ⟨(Nat.le_of_ble_eq_true rfl), (Nat.le_of_ble_eq_true rfl)⟩ (fun u4 H locs q5 hP hD hS => ?_)
  have hP : va_P g.1 vwCl [(h0, .inr (4, [.ref mr0])), (mr0, .inl (g.2 0, 256, .inl mmeans))] H := hP
  have hD : va_D A [(h0, .inr (4, [.ref mr0])), (mr0, .inl (g.2 0, 256, .inl mmeans))] := hD
  refine W.eq (g2 := F0 m 16 ls [.int (u4.1 0)]) rfl ?_
  exact rt_i FX ((fun k => match k with | 0 => u4.1 0 | _ => 0), (fun _ => fun _ => 0), (fun _ => fun _ => 0)) rfl trivial (hP.sub [0, 1] rfl) (hD.sub [0, 1] (by decide) rfl) hS (Nat.le_of_ble_eq_true rfl) (Nat.le_of_ble_eq_true rfl) dX4_pain_16
set_option maxRecDepth 100000 in
set_option maxHeartbeats 4000000 in
theorem k_fill_8 (l : Launch) (g : GG) (h0 : Nat) (ff : Nat → Int32) (p1 : Int32) : Ct l g yJ7_fill_53178 cJ7_fill_53178 4 none { frames := 0, cells := 0, slots := 0, locals := 0 } [.ref h0, .int p1] [(h0, .inl (g.2 0, 8, .inl ff))] (S := (Nat → Int32) × (Nat → Nat → Int32) × (Nat → Nat → Int64)) (fun _ => none) (fun u => True) (fun u => [(h0, .inl (g.2 0, 8, .inl (u.2.1 0)))]) := by
  refine Ct.of (by decide) (Nat.le_of_ble_eq_true rfl) ?_
  intro p e s m below meth c A ls FX hP hD hS hl
  obtain ⟨FC, hr, hlk, hKn, hA, hnm, hZ⟩ := id FX
  have FC : CallFix p m c cJ7_fill_53178 4 s _ BIG RJ7 := FC
  obtain ⟨hx, hb, hml, hown, hB⟩ := id FC
  have hl : lv_has ls 4 [(0, .ref h0), (1, .int p1)] := hl
  refine lv_iconst (v := 0) hx hb dJ7_fill_53178_0 (by decide) ?_
  refine lv_istore_n (lv' := [(2, .int 0), (0, .ref h0), (1, .int p1)]) hx hb dJ7_fill_53178_1 rfl hl (by decide) rfl (fun ls hl => ?_)
  refine lv_aload_n hx hb dJ7_fill_53178_2 rfl (lv_at hl 1 rfl) ?_
  refine va_alen hx hb hKn.1 hP 0 0 rfl rfl (v := 8) rfl dJ7_fill_53178_3 ?_
  refine lv_istore_n (lv' := [(3, .int 8), (2, .int 0), (0, .ref h0), (1, .int p1)]) hx hb dJ7_fill_53178_4 rfl hl (by decide) rfl (fun ls hl => ?_)
  have lp38 : ∀ (n40 : Nat) (x36 : Int32) (x37 : Nat → Int32) (H : Heap) (locs : List Loc) (ls : Array Slot), 0 ≤ x36.toInt ∧ x36.toInt ≤ 8 → (8 - x36.toInt).toNat < n40 → va_P g.1 vwCl [(h0, .inl (g.2 0, 8, .inl x37))] H → va_D A [(h0, .inl (g.2 0, 8, .inl x37))] → va_S A s.heap H locs → lv_has ls 4 [(3, .int 8), (2, .int x36), (0, .ref h0), (1, .int p1)] → W p l e { frames := 0, cells := 0, slots := 0, locals := 0 } s m ([.ref h0, .int p1].toArray) below meth c H locs 0 0 (MQ below (QX (S := (Nat → Int32) × (Nat → Nat → Int32) × (Nat → Nat → Int64)) (fun _ => none) (fun u => True) g (fun u => [(h0, .inl (g.2 0, 8, .inl (u.2.1 0)))]) A) ([.ref h0, .int p1].toArray) s 0 0 A) (F0 m 5 ls []) := by
    intro n40
    induction n40 with
    | zero =>
      intro x36 x37 H locs ls h_x36 hn41
      exact absurd hn41 (Nat.not_lt_zero _)
    | succ n40 ih39 =>
      intro x36 x37 H locs ls h_x36 hn41 hP hD hS hl
      refine lv_iload_n hx hb dJ7_fill_53178_5 rfl (lv_at hl 1 rfl) ?_
      refine lv_iload_n hx hb dJ7_fill_53178_6 rfl (lv_at hl 0 rfl) ?_
      refine lv_icmp_ge (tgt := 20) hx hb dJ7_fill_53178_7 (by decide) (fun c42 => ?_) (fun c42 => ?_)
      · have c42 := k_le (a := 8) (b := x36.toInt) (by decide) rfl c42
        exact rt_v FX ((fun k => match k with | 0 => 0 | _ => 0), (fun k => match k with | 0 => x37 | _ => fun _ => 0), (fun _ => fun _ => 0)) rfl trivial (hP.sub [0] rfl) (hD.sub [0] (by decide) rfl) hS (Nat.le_of_ble_eq_true rfl) (Nat.le_of_ble_eq_true rfl) dJ7_fill_53178_20
      · have c42 := k_nle (a := 8) (b := x36.toInt) (by decide) rfl c42
        refine lv_aload_n hx hb dJ7_fill_53178_10 rfl (lv_at hl 2 rfl) ?_
        refine lv_iload_n hx hb dJ7_fill_53178_11 rfl (lv_at hl 1 rfl) ?_
        refine lv_iload_n hx hb dJ7_fill_53178_12 rfl (lv_at hl 3 rfl) ?_
        refine va_iast hx hb hKn.1 hP hD hS 0 0 rfl rfl (vp_in_iff.mpr ⟨by omega, by omega⟩) dJ7_fill_53178_13 (fun H locs hP hD hS => ?_)
        have hP : va_P g.1 vwCl [(h0, .inl (g.2 0, 8, .inl (upd x37 (x36.toNatClampNeg) p1)))] H := hP
        have hD : va_D A [(h0, .inl (g.2 0, 8, .inl (upd x37 (x36.toNatClampNeg) p1)))] := hD
        generalize (upd x37 (x36.toNatClampNeg) p1 : Nat → Int32) = f43 at hP hD
        obtain ⟨z44, e_z44⟩ : ∃ y : Int32, y = x36 + 1 := ⟨_, rfl⟩
        have t_z44 : z44.toInt = x36.toInt + 1 := by rw [e_z44]; exact addk (by decide) (by omega) (by omega)
        refine lv_iinc (v := z44) (lv' := [(2, .int z44), (3, .int 8), (0, .ref h0), (1, .int p1)]) hx hb dJ7_fill_53178_14 hl (k := 1) rfl (by rw [e_z44]; rfl) (by decide) rfl (fun ls hl => ?_)
        refine lv_goto (tgt := 5) hx hb dJ7_fill_53178_17 (by decide) ?_
        exact ih39 z44 f43 _ _ ls (by omega) (by omega) hP hD hS (lv_sub hl [1, 0, 2, 3] rfl)
  have kc0 : (0 : Int32).toInt = 0 := by decide
  exact lp38 _ (0 : Int32) ff _ _ ls (by decide) (Nat.lt_succ_self _) hP hD hS (lv_sub hl [0, 1, 2, 3] rfl)
set_option maxRecDepth 100000 in
set_option maxHeartbeats 4000000 in
theorem k_fill_4 (l : Launch) (g : GG) (h0 : Nat) (ff : Nat → Int32) (p1 : Int32) : Ct l g yJ7_fill_53178 cJ7_fill_53178 4 none { frames := 0, cells := 0, slots := 0, locals := 0 } [.ref h0, .int p1] [(h0, .inl (g.2 0, 4, .inl ff))] (S := (Nat → Int32) × (Nat → Nat → Int32) × (Nat → Nat → Int64)) (fun _ => none) (fun u => True) (fun u => [(h0, .inl (g.2 0, 4, .inl (u.2.1 0)))]) := by
  refine Ct.of (by decide) (Nat.le_of_ble_eq_true rfl) ?_
  intro p e s m below meth c A ls FX hP hD hS hl
  obtain ⟨FC, hr, hlk, hKn, hA, hnm, hZ⟩ := id FX
  have FC : CallFix p m c cJ7_fill_53178 4 s _ BIG RJ7 := FC
  obtain ⟨hx, hb, hml, hown, hB⟩ := id FC
  have hl : lv_has ls 4 [(0, .ref h0), (1, .int p1)] := hl
  refine lv_iconst (v := 0) hx hb dJ7_fill_53178_0 (by decide) ?_
  refine lv_istore_n (lv' := [(2, .int 0), (0, .ref h0), (1, .int p1)]) hx hb dJ7_fill_53178_1 rfl hl (by decide) rfl (fun ls hl => ?_)
  refine lv_aload_n hx hb dJ7_fill_53178_2 rfl (lv_at hl 1 rfl) ?_
  refine va_alen hx hb hKn.1 hP 0 0 rfl rfl (v := 4) rfl dJ7_fill_53178_3 ?_
  refine lv_istore_n (lv' := [(3, .int 4), (2, .int 0), (0, .ref h0), (1, .int p1)]) hx hb dJ7_fill_53178_4 rfl hl (by decide) rfl (fun ls hl => ?_)
  have lp28 : ∀ (n30 : Nat) (x26 : Int32) (x27 : Nat → Int32) (H : Heap) (locs : List Loc) (ls : Array Slot), 0 ≤ x26.toInt ∧ x26.toInt ≤ 4 → (4 - x26.toInt).toNat < n30 → va_P g.1 vwCl [(h0, .inl (g.2 0, 4, .inl x27))] H → va_D A [(h0, .inl (g.2 0, 4, .inl x27))] → va_S A s.heap H locs → lv_has ls 4 [(3, .int 4), (2, .int x26), (0, .ref h0), (1, .int p1)] → W p l e { frames := 0, cells := 0, slots := 0, locals := 0 } s m ([.ref h0, .int p1].toArray) below meth c H locs 0 0 (MQ below (QX (S := (Nat → Int32) × (Nat → Nat → Int32) × (Nat → Nat → Int64)) (fun _ => none) (fun u => True) g (fun u => [(h0, .inl (g.2 0, 4, .inl (u.2.1 0)))]) A) ([.ref h0, .int p1].toArray) s 0 0 A) (F0 m 5 ls []) := by
    intro n30
    induction n30 with
    | zero =>
      intro x26 x27 H locs ls h_x26 hn31
      exact absurd hn31 (Nat.not_lt_zero _)
    | succ n30 ih29 =>
      intro x26 x27 H locs ls h_x26 hn31 hP hD hS hl
      refine lv_iload_n hx hb dJ7_fill_53178_5 rfl (lv_at hl 1 rfl) ?_
      refine lv_iload_n hx hb dJ7_fill_53178_6 rfl (lv_at hl 0 rfl) ?_
      refine lv_icmp_ge (tgt := 20) hx hb dJ7_fill_53178_7 (by decide) (fun c32 => ?_) (fun c32 => ?_)
      · have c32 := k_le (a := 4) (b := x26.toInt) (by decide) rfl c32
        exact rt_v FX ((fun k => match k with | 0 => 0 | _ => 0), (fun k => match k with | 0 => x27 | _ => fun _ => 0), (fun _ => fun _ => 0)) rfl trivial (hP.sub [0] rfl) (hD.sub [0] (by decide) rfl) hS (Nat.le_of_ble_eq_true rfl) (Nat.le_of_ble_eq_true rfl) dJ7_fill_53178_20
      · have c32 := k_nle (a := 4) (b := x26.toInt) (by decide) rfl c32
        refine lv_aload_n hx hb dJ7_fill_53178_10 rfl (lv_at hl 2 rfl) ?_
        refine lv_iload_n hx hb dJ7_fill_53178_11 rfl (lv_at hl 1 rfl) ?_
        refine lv_iload_n hx hb dJ7_fill_53178_12 rfl (lv_at hl 3 rfl) ?_
        refine va_iast hx hb hKn.1 hP hD hS 0 0 rfl rfl (vp_in_iff.mpr ⟨by omega, by omega⟩) dJ7_fill_53178_13 (fun H locs hP hD hS => ?_)
        have hP : va_P g.1 vwCl [(h0, .inl (g.2 0, 4, .inl (upd x27 (x26.toNatClampNeg) p1)))] H := hP
        have hD : va_D A [(h0, .inl (g.2 0, 4, .inl (upd x27 (x26.toNatClampNeg) p1)))] := hD
        generalize (upd x27 (x26.toNatClampNeg) p1 : Nat → Int32) = f33 at hP hD
        obtain ⟨z34, e_z34⟩ : ∃ y : Int32, y = x26 + 1 := ⟨_, rfl⟩
        have t_z34 : z34.toInt = x26.toInt + 1 := by rw [e_z34]; exact addk (by decide) (by omega) (by omega)
        refine lv_iinc (v := z34) (lv' := [(2, .int z34), (3, .int 4), (0, .ref h0), (1, .int p1)]) hx hb dJ7_fill_53178_14 hl (k := 1) rfl (by rw [e_z34]; rfl) (by decide) rfl (fun ls hl => ?_)
        refine lv_goto (tgt := 5) hx hb dJ7_fill_53178_17 (by decide) ?_
        exact ih29 z34 f33 _ _ ls (by omega) (by omega) hP hD hS (lv_sub hl [1, 0, 2, 3] rfl)
  have kc0 : (0 : Int32).toInt = 0 := by decide
  exact lp28 _ (0 : Int32) ff _ _ ls (by decide) (Nat.lt_succ_self _) hP hD hS (lv_sub hl [0, 1, 2, 3] rfl)
set_option maxRecDepth 100000 in
set_option maxHeartbeats 4000000 in
theorem k_fill_256 (l : Launch) (g : GG) (h0 : Nat) (ff : Nat → Int32) (p1 : Int32) : Ct l g yJ7_fill_53178 cJ7_fill_53178 4 none { frames := 0, cells := 0, slots := 0, locals := 0 } [.ref h0, .int p1] [(h0, .inl (g.2 0, 256, .inl ff))] (S := (Nat → Int32) × (Nat → Nat → Int32) × (Nat → Nat → Int64)) (fun _ => none) (fun u => True) (fun u => [(h0, .inl (g.2 0, 256, .inl (u.2.1 0)))]) := by
  refine Ct.of (by decide) (Nat.le_of_ble_eq_true rfl) ?_
  intro p e s m below meth c A ls FX hP hD hS hl
  obtain ⟨FC, hr, hlk, hKn, hA, hnm, hZ⟩ := id FX
  have FC : CallFix p m c cJ7_fill_53178 4 s _ BIG RJ7 := FC
  obtain ⟨hx, hb, hml, hown, hB⟩ := id FC
  have hl : lv_has ls 4 [(0, .ref h0), (1, .int p1)] := hl
  refine lv_iconst (v := 0) hx hb dJ7_fill_53178_0 (by decide) ?_
  refine lv_istore_n (lv' := [(2, .int 0), (0, .ref h0), (1, .int p1)]) hx hb dJ7_fill_53178_1 rfl hl (by decide) rfl (fun ls hl => ?_)
  refine lv_aload_n hx hb dJ7_fill_53178_2 rfl (lv_at hl 1 rfl) ?_
  refine va_alen hx hb hKn.1 hP 0 0 rfl rfl (v := 256) rfl dJ7_fill_53178_3 ?_
  refine lv_istore_n (lv' := [(3, .int 256), (2, .int 0), (0, .ref h0), (1, .int p1)]) hx hb dJ7_fill_53178_4 rfl hl (by decide) rfl (fun ls hl => ?_)
  have lp38 : ∀ (n40 : Nat) (x36 : Int32) (x37 : Nat → Int32) (H : Heap) (locs : List Loc) (ls : Array Slot), 0 ≤ x36.toInt ∧ x36.toInt ≤ 256 → (256 - x36.toInt).toNat < n40 → va_P g.1 vwCl [(h0, .inl (g.2 0, 256, .inl x37))] H → va_D A [(h0, .inl (g.2 0, 256, .inl x37))] → va_S A s.heap H locs → lv_has ls 4 [(3, .int 256), (2, .int x36), (0, .ref h0), (1, .int p1)] → W p l e { frames := 0, cells := 0, slots := 0, locals := 0 } s m ([.ref h0, .int p1].toArray) below meth c H locs 0 0 (MQ below (QX (S := (Nat → Int32) × (Nat → Nat → Int32) × (Nat → Nat → Int64)) (fun _ => none) (fun u => True) g (fun u => [(h0, .inl (g.2 0, 256, .inl (u.2.1 0)))]) A) ([.ref h0, .int p1].toArray) s 0 0 A) (F0 m 5 ls []) := by
    intro n40
    induction n40 with
    | zero =>
      intro x36 x37 H locs ls h_x36 hn41
      exact absurd hn41 (Nat.not_lt_zero _)
    | succ n40 ih39 =>
      intro x36 x37 H locs ls h_x36 hn41 hP hD hS hl
      refine lv_iload_n hx hb dJ7_fill_53178_5 rfl (lv_at hl 1 rfl) ?_
      refine lv_iload_n hx hb dJ7_fill_53178_6 rfl (lv_at hl 0 rfl) ?_
      refine lv_icmp_ge (tgt := 20) hx hb dJ7_fill_53178_7 (by decide) (fun c42 => ?_) (fun c42 => ?_)
      · have c42 := k_le (a := 256) (b := x36.toInt) (by decide) rfl c42
        exact rt_v FX ((fun k => match k with | 0 => 0 | _ => 0), (fun k => match k with | 0 => x37 | _ => fun _ => 0), (fun _ => fun _ => 0)) rfl trivial (hP.sub [0] rfl) (hD.sub [0] (by decide) rfl) hS (Nat.le_of_ble_eq_true rfl) (Nat.le_of_ble_eq_true rfl) dJ7_fill_53178_20
      · have c42 := k_nle (a := 256) (b := x36.toInt) (by decide) rfl c42
        refine lv_aload_n hx hb dJ7_fill_53178_10 rfl (lv_at hl 2 rfl) ?_
        refine lv_iload_n hx hb dJ7_fill_53178_11 rfl (lv_at hl 1 rfl) ?_
        refine lv_iload_n hx hb dJ7_fill_53178_12 rfl (lv_at hl 3 rfl) ?_
        refine va_iast hx hb hKn.1 hP hD hS 0 0 rfl rfl (vp_in_iff.mpr ⟨by omega, by omega⟩) dJ7_fill_53178_13 (fun H locs hP hD hS => ?_)
        have hP : va_P g.1 vwCl [(h0, .inl (g.2 0, 256, .inl (upd x37 (x36.toNatClampNeg) p1)))] H := hP
        have hD : va_D A [(h0, .inl (g.2 0, 256, .inl (upd x37 (x36.toNatClampNeg) p1)))] := hD
        generalize (upd x37 (x36.toNatClampNeg) p1 : Nat → Int32) = f43 at hP hD
        obtain ⟨z44, e_z44⟩ : ∃ y : Int32, y = x36 + 1 := ⟨_, rfl⟩
        have t_z44 : z44.toInt = x36.toInt + 1 := by rw [e_z44]; exact addk (by decide) (by omega) (by omega)
        refine lv_iinc (v := z44) (lv' := [(2, .int z44), (3, .int 256), (0, .ref h0), (1, .int p1)]) hx hb dJ7_fill_53178_14 hl (k := 1) rfl (by rw [e_z44]; rfl) (by decide) rfl (fun ls hl => ?_)
        refine lv_goto (tgt := 5) hx hb dJ7_fill_53178_17 (by decide) ?_
        exact ih39 z44 f43 _ _ ls (by omega) (by omega) hP hD hS (lv_sub hl [1, 0, 2, 3] rfl)
  have kc0 : (0 : Int32).toInt = 0 := by decide
  exact lp38 _ (0 : Int32) ff _ _ ls (by decide) (Nat.lt_succ_self _) hP hD hS (lv_sub hl [0, 1, 2, 3] rfl)
set_option maxRecDepth 100000 in
set_option maxHeartbeats 4000000 in
theorem k_fill_6b (l : Launch) (g : GG) (h0 : Nat) (ff : Nat → Int32) (p1 : Int32) (i_ff : ab ff 6 0 3) (i_p1 : 0 ≤ p1.toInt ∧ p1.toInt ≤ 3) : Ct l g yJ7_fill_53178 cJ7_fill_53178 4 none { frames := 0, cells := 0, slots := 0, locals := 0 } [.ref h0, .int p1] [(h0, .inl (g.2 0, 6, .inl ff))] (S := (Nat → Int32) × (Nat → Nat → Int32) × (Nat → Nat → Int64)) (fun _ => none) (fun u => (ab (u.2.1 0) 6 0 3)) (fun u => [(h0, .inl (g.2 0, 6, .inl (u.2.1 0)))]) := by
  refine Ct.of (by decide) (Nat.le_of_ble_eq_true rfl) ?_
  intro p e s m below meth c A ls FX hP hD hS hl
  obtain ⟨FC, hr, hlk, hKn, hA, hnm, hZ⟩ := id FX
  have FC : CallFix p m c cJ7_fill_53178 4 s _ BIG RJ7 := FC
  obtain ⟨hx, hb, hml, hown, hB⟩ := id FC
  have hl : lv_has ls 4 [(0, .ref h0), (1, .int p1)] := hl
  refine lv_iconst (v := 0) hx hb dJ7_fill_53178_0 (by decide) ?_
  refine lv_istore_n (lv' := [(2, .int 0), (0, .ref h0), (1, .int p1)]) hx hb dJ7_fill_53178_1 rfl hl (by decide) rfl (fun ls hl => ?_)
  refine lv_aload_n hx hb dJ7_fill_53178_2 rfl (lv_at hl 1 rfl) ?_
  refine va_alen hx hb hKn.1 hP 0 0 rfl rfl (v := 6) rfl dJ7_fill_53178_3 ?_
  refine lv_istore_n (lv' := [(3, .int 6), (2, .int 0), (0, .ref h0), (1, .int p1)]) hx hb dJ7_fill_53178_4 rfl hl (by decide) rfl (fun ls hl => ?_)
  have lp38 : ∀ (n40 : Nat) (x36 : Int32) (x37 : Nat → Int32) (H : Heap) (locs : List Loc) (ls : Array Slot), 0 ≤ x36.toInt ∧ x36.toInt ≤ 6 → ab x37 6 0 3 → (6 - x36.toInt).toNat < n40 → va_P g.1 vwCl [(h0, .inl (g.2 0, 6, .inl x37))] H → va_D A [(h0, .inl (g.2 0, 6, .inl x37))] → va_S A s.heap H locs → lv_has ls 4 [(3, .int 6), (2, .int x36), (0, .ref h0), (1, .int p1)] → W p l e { frames := 0, cells := 0, slots := 0, locals := 0 } s m ([.ref h0, .int p1].toArray) below meth c H locs 0 0 (MQ below (QX (S := (Nat → Int32) × (Nat → Nat → Int32) × (Nat → Nat → Int64)) (fun _ => none) (fun u => (ab (u.2.1 0) 6 0 3)) g (fun u => [(h0, .inl (g.2 0, 6, .inl (u.2.1 0)))]) A) ([.ref h0, .int p1].toArray) s 0 0 A) (F0 m 5 ls []) := by
    intro n40
    induction n40 with
    | zero =>
      intro x36 x37 H locs ls h_x36 h_x37 hn41
      exact absurd hn41 (Nat.not_lt_zero _)
    | succ n40 ih39 =>
      intro x36 x37 H locs ls h_x36 h_x37 hn41 hP hD hS hl
      refine lv_iload_n hx hb dJ7_fill_53178_5 rfl (lv_at hl 1 rfl) ?_
      refine lv_iload_n hx hb dJ7_fill_53178_6 rfl (lv_at hl 0 rfl) ?_
      refine lv_icmp_ge (tgt := 20) hx hb dJ7_fill_53178_7 (by decide) (fun c42 => ?_) (fun c42 => ?_)
      · have c42 := k_le (a := 6) (b := x36.toInt) (by decide) rfl c42
        exact rt_v FX ((fun k => match k with | 0 => 0 | _ => 0), (fun k => match k with | 0 => x37 | _ => fun _ => 0), (fun _ => fun _ => 0)) rfl h_x37 (hP.sub [0] rfl) (hD.sub [0] (by decide) rfl) hS (Nat.le_of_ble_eq_true rfl) (Nat.le_of_ble_eq_true rfl) dJ7_fill_53178_20
      · have c42 := k_nle (a := 6) (b := x36.toInt) (by decide) rfl c42
        refine lv_aload_n hx hb dJ7_fill_53178_10 rfl (lv_at hl 2 rfl) ?_
        refine lv_iload_n hx hb dJ7_fill_53178_11 rfl (lv_at hl 1 rfl) ?_
        refine lv_iload_n hx hb dJ7_fill_53178_12 rfl (lv_at hl 3 rfl) ?_
        refine va_iast hx hb hKn.1 hP hD hS 0 0 rfl rfl (vp_in_iff.mpr ⟨by omega, by omega⟩) dJ7_fill_53178_13 (fun H locs hP hD hS => ?_)
        have hP : va_P g.1 vwCl [(h0, .inl (g.2 0, 6, .inl (upd x37 (x36.toNatClampNeg) p1)))] H := hP
        have hD : va_D A [(h0, .inl (g.2 0, 6, .inl (upd x37 (x36.toNatClampNeg) p1)))] := hD
        have a_f43 : ab (upd x37 (x36.toNatClampNeg) p1) 6 0 3 := ab_upd h_x37 (by omega) (by omega)
        generalize (upd x37 (x36.toNatClampNeg) p1 : Nat → Int32) = f43 at hP hD a_f43
        obtain ⟨z44, e_z44⟩ : ∃ y : Int32, y = x36 + 1 := ⟨_, rfl⟩
        have t_z44 : z44.toInt = x36.toInt + 1 := by rw [e_z44]; exact addk (by decide) (by omega) (by omega)
        refine lv_iinc (v := z44) (lv' := [(2, .int z44), (3, .int 6), (0, .ref h0), (1, .int p1)]) hx hb dJ7_fill_53178_14 hl (k := 1) rfl (by rw [e_z44]; rfl) (by decide) rfl (fun ls hl => ?_)
        refine lv_goto (tgt := 5) hx hb dJ7_fill_53178_17 (by decide) ?_
        exact ih39 z44 f43 _ _ ls (by omega) a_f43 (by omega) hP hD hS (lv_sub hl [1, 0, 2, 3] rfl)
  have kc0 : (0 : Int32).toInt = 0 := by decide
  exact lp38 _ (0 : Int32) ff _ _ ls (by decide) i_ff (Nat.lt_succ_self _) hP hD hS (lv_sub hl [0, 1, 2, 3] rfl)
set_option maxRecDepth 100000 in
set_option maxHeartbeats 4000000 in
theorem k_X6_add (l : Launch) (g : GG) (h0 : Nat) (rr0 : Nat) (rr1 : Nat) (rsize : Int32) (rbeliefs : Nat → Int32) (rdistances : Nat → Int32) (p1 : Int32) (p2 : Int32) (i_rsize : 0 ≤ rsize.toInt ∧ rsize.toInt ≤ 256) (i_rbeliefs : ab rbeliefs 256 0 255) (i_p1 : 0 ≤ p1.toInt ∧ p1.toInt ≤ 255) : Ct l g yX6_add cX6_add 3 none { frames := 0, cells := 0, slots := 0, locals := 0 } [.ref h0, .int p1, .int p2] [(h0, .inr (6, [.ref rr0, .ref rr1, .int rsize])), (rr0, .inl (g.2 0, 256, .inl rbeliefs)), (rr1, .inl (g.2 0, 256, .inl rdistances))] (S := (Nat → Int32) × (Nat → Nat → Int32) × (Nat → Nat → Int64)) (fun _ => none) (fun u => (0 ≤ (u.1 1).toInt ∧ (u.1 1).toInt ≤ 256) ∧ (ab (u.2.1 0) 256 0 255)) (fun u => [(h0, .inr (6, [.ref rr0, .ref rr1, .int (u.1 1)])), (rr0, .inl (g.2 0, 256, .inl (u.2.1 0))), (rr1, .inl (g.2 0, 256, .inl (u.2.1 1)))]) := by
  refine Ct.of (by decide) (Nat.le_of_ble_eq_true rfl) ?_
  intro p e s m below meth c A ls FX hP hD hS hl
  obtain ⟨FC, hr, hlk, hKn, hA, hnm, hZ⟩ := id FX
  have FC : CallFix p m c cX6_add 3 s _ BIG RX6 := FC
  obtain ⟨hx, hb, hml, hown, hB⟩ := id FC
  have hl : lv_has ls 3 [(0, .ref h0), (1, .int p1), (2, .int p2)] := hl
  refine lv_aload_n hx hb dX6_add_0 rfl (lv_at hl 0 rfl) ?_
  refine g_get (C := RX6) (T := TX6) (N := 3) (ci := 6) (v := .ref rr1) FC hKn hP i_X6 0 rfl rfl 1 (by decide) b_99 rfl dX6_add_1 ?_
  refine lv_iload_n hx hb dX6_add_4 rfl (lv_at hl 1 rfl) ?_
  refine va_iald hx hb hKn.1 hP 2 0 rfl rfl (vp_in_iff.mpr ⟨by omega, by omega⟩) dX6_add_5 ?_
  refine lv_topi (fun z1 e_z1 => ?_)
  refine lv_ldc hx hb hown (hB _ b_100) dX6_add_6 ?_
  refine lv_icmp_ne (tgt := 48) hx hb dX6_add_8 (by decide) (fun c2 => ?_) (fun c2 => ?_)
  · have c2 := k_ne (a := z1.toInt) (b := 1000000000) rfl (by decide) c2
    exact rt_v FX ((fun k => match k with | 0 => 0 | 1 => rsize | _ => 0), (fun k => match k with | 0 => rbeliefs | 1 => rdistances | _ => fun _ => 0), (fun _ => fun _ => 0)) rfl ⟨(show 0 ≤ rsize.toInt ∧ rsize.toInt ≤ 256 by omega), i_rbeliefs⟩ (hP.sub [0, 1, 2] rfl) (hD.sub [0, 1, 2] (by decide) rfl) hS (Nat.le_of_ble_eq_true rfl) (Nat.le_of_ble_eq_true rfl) dX6_add_48
  · have c2 := k_eq (a := z1.toInt) (b := 1000000000) rfl (by decide) c2
    refine lv_aload_n hx hb dX6_add_11 rfl (lv_at hl 0 rfl) ?_
    refine g_get (C := RX6) (T := TX6) (N := 3) (ci := 6) (v := .int rsize) FC hKn hP i_X6 0 rfl rfl 2 (by decide) b_101 rfl dX6_add_12 ?_
    refine lv_sipush (v := 256) hx hb dX6_add_15 (by decide) ?_
    refine lv_icmp_ge (tgt := 48) hx hb dX6_add_18 (by decide) (fun c3 => ?_) (fun c3 => ?_)
    · have c3 := k_le (a := 256) (b := rsize.toInt) (by decide) rfl c3
      exact rt_v FX ((fun k => match k with | 0 => 0 | 1 => rsize | _ => 0), (fun k => match k with | 0 => rbeliefs | 1 => rdistances | _ => fun _ => 0), (fun _ => fun _ => 0)) rfl ⟨(show 0 ≤ rsize.toInt ∧ rsize.toInt ≤ 256 by omega), i_rbeliefs⟩ (hP.sub [0, 1, 2] rfl) (hD.sub [0, 1, 2] (by decide) rfl) hS (Nat.le_of_ble_eq_true rfl) (Nat.le_of_ble_eq_true rfl) dX6_add_48
    · have c3 := k_nle (a := 256) (b := rsize.toInt) (by decide) rfl c3
      refine lv_aload_n hx hb dX6_add_21 rfl (lv_at hl 0 rfl) ?_
      refine g_get (C := RX6) (T := TX6) (N := 3) (ci := 6) (v := .ref rr1) FC hKn hP i_X6 0 rfl rfl 1 (by decide) b_99 rfl dX6_add_22 ?_
      refine lv_iload_n hx hb dX6_add_25 rfl (lv_at hl 1 rfl) ?_
      refine lv_iload_n hx hb dX6_add_26 rfl (lv_at hl 2 rfl) ?_
      refine va_iast hx hb hKn.1 hP hD hS 2 0 rfl rfl (vp_in_iff.mpr ⟨by omega, by omega⟩) dX6_add_27 (fun H locs hP hD hS => ?_)
      have hP : va_P g.1 vwCl [(h0, .inr (6, [.ref rr0, .ref rr1, .int rsize])), (rr0, .inl (g.2 0, 256, .inl rbeliefs)), (rr1, .inl (g.2 0, 256, .inl (upd rdistances (p1.toNatClampNeg) p2)))] H := hP
      have hD : va_D A [(h0, .inr (6, [.ref rr0, .ref rr1, .int rsize])), (rr0, .inl (g.2 0, 256, .inl rbeliefs)), (rr1, .inl (g.2 0, 256, .inl (upd rdistances (p1.toNatClampNeg) p2)))] := hD
      generalize (upd rdistances (p1.toNatClampNeg) p2 : Nat → Int32) = f4 at hP hD
      refine lv_aload_n hx hb dX6_add_28 rfl (lv_at hl 0 rfl) ?_
      refine g_get (C := RX6) (T := TX6) (N := 3) (ci := 6) (v := .ref rr0) FC hKn hP i_X6 0 rfl rfl 0 (by decide) b_102 rfl dX6_add_29 ?_
      refine lv_aload_n hx hb dX6_add_32 rfl (lv_at hl 0 rfl) ?_
      refine g_get (C := RX6) (T := TX6) (N := 3) (ci := 6) (v := .int rsize) FC hKn hP i_X6 0 rfl rfl 2 (by decide) b_101 rfl dX6_add_33 ?_
      refine lv_iload_n hx hb dX6_add_36 rfl (lv_at hl 1 rfl) ?_
      refine va_iast hx hb hKn.1 hP hD hS 1 0 rfl rfl (vp_in_iff.mpr ⟨by omega, by omega⟩) dX6_add_37 (fun H locs hP hD hS => ?_)
      have hP : va_P g.1 vwCl [(h0, .inr (6, [.ref rr0, .ref rr1, .int rsize])), (rr0, .inl (g.2 0, 256, .inl (upd rbeliefs (rsize.toNatClampNeg) p1))), (rr1, .inl (g.2 0, 256, .inl f4))] H := hP
      have hD : va_D A [(h0, .inr (6, [.ref rr0, .ref rr1, .int rsize])), (rr0, .inl (g.2 0, 256, .inl (upd rbeliefs (rsize.toNatClampNeg) p1))), (rr1, .inl (g.2 0, 256, .inl f4))] := hD
      have a_f5 : ab (upd rbeliefs (rsize.toNatClampNeg) p1) 256 0 255 := ab_upd i_rbeliefs (by omega) (by omega)
      generalize (upd rbeliefs (rsize.toNatClampNeg) p1 : Nat → Int32) = f5 at hP hD a_f5
      refine lv_aload_n hx hb dX6_add_38 rfl (lv_at hl 0 rfl) ?_
      refine lv_dup hx hb dX6_add_39 rfl ?_
      refine g_get (C := RX6) (T := TX6) (N := 3) (ci := 6) (v := .int rsize) FC hKn hP i_X6 0 rfl rfl 2 (by decide) b_101 rfl dX6_add_40 ?_
      refine lv_iconst (v := 1) hx hb dX6_add_43 (by decide) ?_
      refine lv_iadd hx hb dX6_add_44 ?_
      have kc1 : (1 : Int32).toInt = 1 := by decide
      refine lv_topi (fun z6 e_z6 => ?_)
      have t_z6 : z6.toInt = rsize.toInt + ((1 : Int32)).toInt := by rw [e_z6]; exact fb_addI (by omega) (by omega)
      refine g_put (C := RX6) (T := TX6) (N := 3) (ci := 6) (v := .int z6) FC hKn hP hD hS i_X6 tyX6 tyX6_ok nmX6 0 rfl rfl 2 (by decide) b_101 rfl rfl rfl (Nat.le_of_ble_eq_true rfl) dX6_add_45 (fun H locs hP hD hS => ?_)
      have hP : va_P g.1 vwCl [(h0, .inr (6, [.ref rr0, .ref rr1, .int z6])), (rr0, .inl (g.2 0, 256, .inl f5)), (rr1, .inl (g.2 0, 256, .inl f4))] H := hP
      have hD : va_D A [(h0, .inr (6, [.ref rr0, .ref rr1, .int z6])), (rr0, .inl (g.2 0, 256, .inl f5)), (rr1, .inl (g.2 0, 256, .inl f4))] := hD
      exact rt_v FX ((fun k => match k with | 0 => 0 | 1 => z6 | _ => 0), (fun k => match k with | 0 => f5 | 1 => f4 | _ => fun _ => 0), (fun _ => fun _ => 0)) rfl ⟨(show 0 ≤ z6.toInt ∧ z6.toInt ≤ 256 by omega), a_f5⟩ (hP.sub [0, 1, 2] rfl) (hD.sub [0, 1, 2] (by decide) rfl) hS (Nat.le_of_ble_eq_true rfl) (Nat.le_of_ble_eq_true rfl) dX6_add_48
set_option maxRecDepth 100000 in
set_option maxHeartbeats 4000000 in
theorem k_X6_grow (l : Launch) (g : GG) (h0 : Nat) (rr0 : Nat) (rr1 : Nat) (d0 : Nat) (dr0 : Nat) (dr1 : Nat) (dr2 : Nat) (dr3 : Nat) (dr4 : Nat) (dr5 : Nat) (dr6 : Nat) (dr7 : Nat) (dr8 : Nat) (dr9 : Nat) (rsize : Int32) (rbeliefs : Nat → Int32) (rdistances : Nat → Int32) (dstates : Int32) (dreally : Int32) (ddays : Int32) (dheal : Int32) (dleak : Int32) (dlines : Int32) (dhearers : Int32) (dwords : Int32) (dplans : Int32) (dnews : Int32) (dmeanings : Nat → Int32) (p2 : Int32) (i_rsize : 0 ≤ rsize.toInt ∧ rsize.toInt ≤ 256) (i_rbeliefs : ab rbeliefs 256 0 255) (i_dstates : 0 ≤ dstates.toInt ∧ dstates.toInt ≤ 8) (i_dreally : 0 ≤ dreally.toInt ∧ dreally.toInt ≤ 7) (i_ddays : 0 ≤ ddays.toInt ∧ ddays.toInt ≤ 10) (i_dhearers : 0 ≤ dhearers.toInt ∧ dhearers.toInt ≤ 4) (i_dwords : 0 ≤ dwords.toInt ∧ dwords.toInt ≤ 8) (i_dplans : 0 ≤ dplans.toInt ∧ dplans.toInt ≤ 4) (i_dnews : 0 ≤ dnews.toInt ∧ dnews.toInt ≤ 6) (i_dmeanings : ab dmeanings 8 0 255) (i_p2 : 0 ≤ p2.toInt ∧ p2.toInt ≤ 255) : Ct l g yX6_grow cX6_grow 6 none { frames := 2, cells := 0, slots := 0, locals := 44 } [.ref h0, .ref d0, .int p2] [(h0, .inr (6, [.ref rr0, .ref rr1, .int rsize])), (rr0, .inl (g.2 0, 256, .inl rbeliefs)), (rr1, .inl (g.2 0, 256, .inl rdistances)), (d0, .inr (0, [.int dstates, .int dreally, .int ddays, .int dheal, .int dleak, .int dlines, .int dhearers, .int dwords, .int dplans, .int dnews, .ref dr0, .ref dr1, .ref dr2, .ref dr3, .ref dr4, .ref dr5, .ref dr6, .ref dr7, .ref dr8, .ref dr9])), (dr5, .inl (g.2 0, 8, .inl dmeanings))] (S := (Nat → Int32) × (Nat → Nat → Int32) × (Nat → Nat → Int64)) (fun _ => none) (fun u => (0 ≤ (u.1 1).toInt ∧ (u.1 1).toInt ≤ 256) ∧ (ab (u.2.1 0) 256 0 255)) (fun u => [(h0, .inr (6, [.ref rr0, .ref rr1, .int (u.1 1)])), (rr0, .inl (g.2 0, 256, .inl (u.2.1 0))), (rr1, .inl (g.2 0, 256, .inl (u.2.1 1))), (d0, .inr (0, [.int dstates, .int dreally, .int ddays, .int dheal, .int dleak, .int dlines, .int dhearers, .int dwords, .int dplans, .int dnews, .ref dr0, .ref dr1, .ref dr2, .ref dr3, .ref dr4, .ref dr5, .ref dr6, .ref dr7, .ref dr8, .ref dr9])), (dr5, .inl (g.2 0, 8, .inl dmeanings))]) := by
  refine Ct.of (by decide) (Nat.le_of_ble_eq_true rfl) ?_
  intro p e s m below meth c A ls FX hP hD hS hl
  obtain ⟨FC, hr, hlk, hKn, hA, hnm, hZ⟩ := id FX
  have FC : CallFix p m c cX6_grow 6 s _ BIG RX6 := FC
  obtain ⟨hx, hb, hml, hown, hB⟩ := id FC
  have hl : lv_has ls 6 [(0, .ref h0), (1, .ref d0), (2, .int p2)] := hl
  refine lv_aload_n hx hb dX6_grow_0 rfl (lv_at hl 0 rfl) ?_
  refine g_get (C := RX6) (T := TX6) (N := 3) (ci := 6) (v := .ref rr1) FC hKn hP i_X6 0 rfl rfl 1 (by decide) b_99 rfl dX6_grow_1 ?_
  refine lv_ldc hx hb hown (hB _ b_100) dX6_grow_4 ?_
  have kc1000000000 : (1000000000 : Int32).toInt = 1000000000 := by decide
  refine call_S (As := [.ref rr1, .int 1000000000]) (rest := []) (wr := [(h0, .inr (6, [.ref rr0, .ref rr1, .int rsize])), (rr0, .inl (g.2 0, 256, .inl rbeliefs)), (d0, .inr (0, [.int dstates, .int dreally, .int ddays, .int dheal, .int dleak, .int dlines, .int dhearers, .int dwords, .int dplans, .int dnews, .ref dr0, .ref dr1, .ref dr2, .ref dr3, .ref dr4, .ref dr5, .ref dr6, .ref dr7, .ref dr8, .ref dr9])), (dr5, .inl (g.2 0, 8, .inl dmeanings))]) FC hKn hZ (k_fill_256 l g rr1 rdistances ((1000000000 : Int32))) m_yJ7_fill_53178 b_103 hP hD hS hA [2] [0, 1, 3, 4] rfl (by decide) rfl (by decide) (by decide) rfl hl.1 rfl (Nat.le_of_ble_eq_true rfl) dX6_grow_6 ⟨(Nat.le_of_ble_eq_true rfl), (Nat.le_of_ble_eq_true rfl)⟩ ⟨(Nat.le_of_ble_eq_true rfl), (Nat.le_of_ble_eq_true rfl)⟩ (fun u1 H locs q2 hP hD hS => ?_)
  have hP : va_P g.1 vwCl [(h0, .inr (6, [.ref rr0, .ref rr1, .int rsize])), (rr0, .inl (g.2 0, 256, .inl rbeliefs)), (d0, .inr (0, [.int dstates, .int dreally, .int ddays, .int dheal, .int dleak, .int dlines, .int dhearers, .int dwords, .int dplans, .int dnews, .ref dr0, .ref dr1, .ref dr2, .ref dr3, .ref dr4, .ref dr5, .ref dr6, .ref dr7, .ref dr8, .ref dr9])), (dr5, .inl (g.2 0, 8, .inl dmeanings)), (rr1, .inl (g.2 0, 256, .inl (u1.2.1 0)))] H := hP
  have hD : va_D A [(h0, .inr (6, [.ref rr0, .ref rr1, .int rsize])), (rr0, .inl (g.2 0, 256, .inl rbeliefs)), (d0, .inr (0, [.int dstates, .int dreally, .int ddays, .int dheal, .int dleak, .int dlines, .int dhearers, .int dwords, .int dplans, .int dnews, .ref dr0, .ref dr1, .ref dr2, .ref dr3, .ref dr4, .ref dr5, .ref dr6, .ref dr7, .ref dr8, .ref dr9])), (dr5, .inl (g.2 0, 8, .inl dmeanings)), (rr1, .inl (g.2 0, 256, .inl (u1.2.1 0)))] := hD
  refine W.eq (g2 := F0 m 9 ls []) rfl ?_
  refine lv_aload_n hx hb dX6_grow_9 rfl (lv_at hl 0 rfl) ?_
  refine lv_iconst (v := 0) hx hb dX6_grow_10 (by decide) ?_
  refine g_put (C := RX6) (T := TX6) (N := 3) (ci := 6) (v := .int 0) FC hKn hP hD hS i_X6 tyX6 tyX6_ok nmX6 0 rfl rfl 2 (by decide) b_101 rfl rfl rfl (Nat.le_of_ble_eq_true rfl) dX6_grow_11 (fun H locs hP hD hS => ?_)
  have hP : va_P g.1 vwCl [(h0, .inr (6, [.ref rr0, .ref rr1, .int 0])), (rr0, .inl (g.2 0, 256, .inl rbeliefs)), (d0, .inr (0, [.int dstates, .int dreally, .int ddays, .int dheal, .int dleak, .int dlines, .int dhearers, .int dwords, .int dplans, .int dnews, .ref dr0, .ref dr1, .ref dr2, .ref dr3, .ref dr4, .ref dr5, .ref dr6, .ref dr7, .ref dr8, .ref dr9])), (dr5, .inl (g.2 0, 8, .inl dmeanings)), (rr1, .inl (g.2 0, 256, .inl (u1.2.1 0)))] H := hP
  have hD : va_D A [(h0, .inr (6, [.ref rr0, .ref rr1, .int 0])), (rr0, .inl (g.2 0, 256, .inl rbeliefs)), (d0, .inr (0, [.int dstates, .int dreally, .int ddays, .int dheal, .int dleak, .int dlines, .int dhearers, .int dwords, .int dplans, .int dnews, .ref dr0, .ref dr1, .ref dr2, .ref dr3, .ref dr4, .ref dr5, .ref dr6, .ref dr7, .ref dr8, .ref dr9])), (dr5, .inl (g.2 0, 8, .inl dmeanings)), (rr1, .inl (g.2 0, 256, .inl (u1.2.1 0)))] := hD
  refine lv_aload_n hx hb dX6_grow_14 rfl (lv_at hl 0 rfl) ?_
  refine lv_iload_n hx hb dX6_grow_15 rfl (lv_at hl 2 rfl) ?_
  refine lv_iconst (v := 0) hx hb dX6_grow_16 (by decide) ?_
  have kc0 : (0 : Int32).toInt = 0 := by decide
  refine call_V (As := [.int p2, .int 0]) (rest := []) (wr := [(d0, .inr (0, [.int dstates, .int dreally, .int ddays, .int dheal, .int dleak, .int dlines, .int dhearers, .int dwords, .int dplans, .int dnews, .ref dr0, .ref dr1, .ref dr2, .ref dr3, .ref dr4, .ref dr5, .ref dr6, .ref dr7, .ref dr8, .ref dr9])), (dr5, .inl (g.2 0, 8, .inl dmeanings))]) FC hKn hZ (k_X6_add l g h0 rr0 rr1 ((0 : Int32)) rbeliefs (u1.2.1 0) p2 ((0 : Int32)) (by omega) i_rbeliefs (by omega)) m_yX6_add b_104 (ci := 6) rfl rfl rfl hP hD hS hA [0, 1, 4] [2, 3] rfl (by decide) rfl (by decide) (by decide) rfl hl.1 rfl (Nat.le_of_ble_eq_true rfl) dX6_grow_17 ⟨(Nat.le_of_ble_eq_true rfl), (Nat.le_of_ble_eq_true rfl)⟩ ⟨(Nat.le_of_ble_eq_true rfl), (Nat.le_of_ble_eq_true rfl)⟩ (fun u3 H locs q4 hP hD hS => ?_)
  obtain ⟨q4_0, q4_1⟩ := q4
  have hP : va_P g.1 vwCl [(d0, .inr (0, [.int dstates, .int dreally, .int ddays, .int dheal, .int dleak, .int dlines, .int dhearers, .int dwords, .int dplans, .int dnews, .ref dr0, .ref dr1, .ref dr2, .ref dr3, .ref dr4, .ref dr5, .ref dr6, .ref dr7, .ref dr8, .ref dr9])), (dr5, .inl (g.2 0, 8, .inl dmeanings)), (h0, .inr (6, [.ref rr0, .ref rr1, .int (u3.1 1)])), (rr0, .inl (g.2 0, 256, .inl (u3.2.1 0))), (rr1, .inl (g.2 0, 256, .inl (u3.2.1 1)))] H := hP
  have hD : va_D A [(d0, .inr (0, [.int dstates, .int dreally, .int ddays, .int dheal, .int dleak, .int dlines, .int dhearers, .int dwords, .int dplans, .int dnews, .ref dr0, .ref dr1, .ref dr2, .ref dr3, .ref dr4, .ref dr5, .ref dr6, .ref dr7, .ref dr8, .ref dr9])), (dr5, .inl (g.2 0, 8, .inl dmeanings)), (h0, .inr (6, [.ref rr0, .ref rr1, .int (u3.1 1)])), (rr0, .inl (g.2 0, 256, .inl (u3.2.1 0))), (rr1, .inl (g.2 0, 256, .inl (u3.2.1 1)))] := hD
  refine W.eq (g2 := F0 m 20 ls []) rfl ?_
  refine lv_iconst (v := 0) hx hb dX6_grow_20 (by decide) ?_
  refine lv_istore_n (lv' := [(3, .int 0), (0, .ref h0), (1, .ref d0), (2, .int p2)]) hx hb dX6_grow_21 rfl hl (by decide) rfl (fun ls hl => ?_)
  have lp979 : ∀ (n981 : Nat) (x975 : Int32) (x976 : Int32) (x977 : Nat → Int32) (x978 : Nat → Int32) (H : Heap) (locs : List Loc) (ls : Array Slot), 0 ≤ x975.toInt ∧ x975.toInt ≤ 256 → 0 ≤ x976.toInt ∧ x976.toInt ≤ 256 → ab x977 256 0 255 → (256 - x975.toInt).toNat < n981 → va_P g.1 vwCl [(d0, .inr (0, [.int dstates, .int dreally, .int ddays, .int dheal, .int dleak, .int dlines, .int dhearers, .int dwords, .int dplans, .int dnews, .ref dr0, .ref dr1, .ref dr2, .ref dr3, .ref dr4, .ref dr5, .ref dr6, .ref dr7, .ref dr8, .ref dr9])), (dr5, .inl (g.2 0, 8, .inl dmeanings)), (h0, .inr (6, [.ref rr0, .ref rr1, .int x976])), (rr0, .inl (g.2 0, 256, .inl x977)), (rr1, .inl (g.2 0, 256, .inl x978))] H → va_D A [(d0, .inr (0, [.int dstates, .int dreally, .int ddays, .int dheal, .int dleak, .int dlines, .int dhearers, .int dwords, .int dplans, .int dnews, .ref dr0, .ref dr1, .ref dr2, .ref dr3, .ref dr4, .ref dr5, .ref dr6, .ref dr7, .ref dr8, .ref dr9])), (dr5, .inl (g.2 0, 8, .inl dmeanings)), (h0, .inr (6, [.ref rr0, .ref rr1, .int x976])), (rr0, .inl (g.2 0, 256, .inl x977)), (rr1, .inl (g.2 0, 256, .inl x978))] → va_S A s.heap H locs → lv_has ls 6 [(3, .int x975), (0, .ref h0), (1, .ref d0), (2, .int p2)] → W p l e { frames := 2, cells := 0, slots := 0, locals := 44 } s m ([.ref h0, .ref d0, .int p2].toArray) below meth c H locs 0 0 (MQ below (QX (S := (Nat → Int32) × (Nat → Nat → Int32) × (Nat → Nat → Int64)) (fun _ => none) (fun u => (0 ≤ (u.1 1).toInt ∧ (u.1 1).toInt ≤ 256) ∧ (ab (u.2.1 0) 256 0 255)) g (fun u => [(h0, .inr (6, [.ref rr0, .ref rr1, .int (u.1 1)])), (rr0, .inl (g.2 0, 256, .inl (u.2.1 0))), (rr1, .inl (g.2 0, 256, .inl (u.2.1 1))), (d0, .inr (0, [.int dstates, .int dreally, .int ddays, .int dheal, .int dleak, .int dlines, .int dhearers, .int dwords, .int dplans, .int dnews, .ref dr0, .ref dr1, .ref dr2, .ref dr3, .ref dr4, .ref dr5, .ref dr6, .ref dr7, .ref dr8, .ref dr9])), (dr5, .inl (g.2 0, 8, .inl dmeanings))]) A) ([.ref h0, .ref d0, .int p2].toArray) s 0 0 A) (F0 m 22 ls []) := by
    intro n981
    induction n981 with
    | zero =>
      intro x975 x976 x977 x978 H locs ls h_x975 h_x976 h_x977 hn982
      exact absurd hn982 (Nat.not_lt_zero _)
    | succ n981 ih980 =>
      intro x975 x976 x977 x978 H locs ls h_x975 h_x976 h_x977 hn982 hP hD hS hl
      refine lv_iload_n hx hb dX6_grow_22 rfl (lv_at hl 0 rfl) ?_
      refine lv_aload_n hx hb dX6_grow_23 rfl (lv_at hl 1 rfl) ?_
      refine g_get (C := RX6) (T := TX6) (N := 3) (ci := 6) (v := .int x976) FC hKn hP i_X6 2 rfl rfl 2 (by decide) b_101 rfl dX6_grow_24 ?_
      refine lv_icmp_ge (tgt := 90) hx hb dX6_grow_27 (by decide) (fun c983 => ?_) (fun c983 => ?_)
      · have c983 := k_le (a := x976.toInt) (b := x975.toInt) rfl rfl c983
        exact rt_v FX ((fun k => match k with | 0 => 0 | 1 => x976 | _ => 0), (fun k => match k with | 0 => x977 | 1 => x978 | _ => fun _ => 0), (fun _ => fun _ => 0)) rfl ⟨(show 0 ≤ x976.toInt ∧ x976.toInt ≤ 256 by omega), h_x977⟩ (hP.sub [2, 3, 4, 0, 1] rfl) (hD.sub [2, 3, 4, 0, 1] (by decide) rfl) hS (Nat.le_of_ble_eq_true rfl) (Nat.le_of_ble_eq_true rfl) dX6_grow_90
      · have c983 := k_nle (a := x976.toInt) (b := x975.toInt) rfl rfl c983
        refine lv_iload_n hx hb dX6_grow_30 rfl (lv_at hl 0 rfl) ?_
        refine lv_sipush (v := 256) hx hb dX6_grow_31 (by decide) ?_
        refine lv_icmp_ge (tgt := 90) hx hb dX6_grow_34 (by decide) (fun c984 => ?_) (fun c984 => ?_)
        · have c984 := k_le (a := 256) (b := x975.toInt) (by decide) rfl c984
          exfalso; omega
        · have c984 := k_nle (a := 256) (b := x975.toInt) (by decide) rfl c984
          refine lv_aload_n hx hb dX6_grow_37 rfl (lv_at hl 1 rfl) ?_
          refine g_get (C := RX6) (T := TX6) (N := 3) (ci := 6) (v := .ref rr0) FC hKn hP i_X6 2 rfl rfl 0 (by decide) b_102 rfl dX6_grow_38 ?_
          refine lv_iload_n hx hb dX6_grow_41 rfl (lv_at hl 0 rfl) ?_
          refine va_iald hx hb hKn.1 hP 3 0 rfl rfl (vp_in_iff.mpr ⟨by omega, by omega⟩) dX6_grow_42 ?_
          refine lv_topi (fun z985 e_z985 => ?_)
          have t_z985 : 0 ≤ z985.toInt ∧ z985.toInt ≤ 255 := by rw [e_z985]; exact h_x977 _ (clt (by omega) (by omega))
          refine lv_istore (lv' := [(4, .int z985), (3, .int x975), (0, .ref h0), (1, .ref d0), (2, .int p2)]) hx hb dX6_grow_43 hl (by decide) rfl (fun ls hl => ?_)
          refine lv_iconst (v := 0) hx hb dX6_grow_45 (by decide) ?_
          refine lv_istore (lv' := [(5, .int 0), (4, .int z985), (3, .int x975), (0, .ref h0), (1, .ref d0), (2, .int p2)]) hx hb dX6_grow_46 hl (by decide) rfl (fun ls hl => ?_)
          have lp1089 : ∀ (n1091 : Nat) (x1085 : Int32) (x1086 : Int32) (x1087 : Nat → Int32) (x1088 : Nat → Int32) (H : Heap) (locs : List Loc) (ls : Array Slot), 0 ≤ x1085.toInt ∧ x1085.toInt ≤ 8 → 0 ≤ x1086.toInt ∧ x1086.toInt ≤ 256 → ab x1087 256 0 255 → (8 - x1085.toInt).toNat < n1091 → va_P g.1 vwCl [(d0, .inr (0, [.int dstates, .int dreally, .int ddays, .int dheal, .int dleak, .int dlines, .int dhearers, .int dwords, .int dplans, .int dnews, .ref dr0, .ref dr1, .ref dr2, .ref dr3, .ref dr4, .ref dr5, .ref dr6, .ref dr7, .ref dr8, .ref dr9])), (dr5, .inl (g.2 0, 8, .inl dmeanings)), (h0, .inr (6, [.ref rr0, .ref rr1, .int x1086])), (rr0, .inl (g.2 0, 256, .inl x1087)), (rr1, .inl (g.2 0, 256, .inl x1088))] H → va_D A [(d0, .inr (0, [.int dstates, .int dreally, .int ddays, .int dheal, .int dleak, .int dlines, .int dhearers, .int dwords, .int dplans, .int dnews, .ref dr0, .ref dr1, .ref dr2, .ref dr3, .ref dr4, .ref dr5, .ref dr6, .ref dr7, .ref dr8, .ref dr9])), (dr5, .inl (g.2 0, 8, .inl dmeanings)), (h0, .inr (6, [.ref rr0, .ref rr1, .int x1086])), (rr0, .inl (g.2 0, 256, .inl x1087)), (rr1, .inl (g.2 0, 256, .inl x1088))] → va_S A s.heap H locs → lv_has ls 6 [(5, .int x1085), (4, .int z985), (3, .int x975), (0, .ref h0), (1, .ref d0), (2, .int p2)] → W p l e { frames := 2, cells := 0, slots := 0, locals := 44 } s m ([.ref h0, .ref d0, .int p2].toArray) below meth c H locs 0 0 (MQ below (QX (S := (Nat → Int32) × (Nat → Nat → Int32) × (Nat → Nat → Int64)) (fun _ => none) (fun u => (0 ≤ (u.1 1).toInt ∧ (u.1 1).toInt ≤ 256) ∧ (ab (u.2.1 0) 256 0 255)) g (fun u => [(h0, .inr (6, [.ref rr0, .ref rr1, .int (u.1 1)])), (rr0, .inl (g.2 0, 256, .inl (u.2.1 0))), (rr1, .inl (g.2 0, 256, .inl (u.2.1 1))), (d0, .inr (0, [.int dstates, .int dreally, .int ddays, .int dheal, .int dleak, .int dlines, .int dhearers, .int dwords, .int dplans, .int dnews, .ref dr0, .ref dr1, .ref dr2, .ref dr3, .ref dr4, .ref dr5, .ref dr6, .ref dr7, .ref dr8, .ref dr9])), (dr5, .inl (g.2 0, 8, .inl dmeanings))]) A) ([.ref h0, .ref d0, .int p2].toArray) s 0 0 A) (F0 m 48 ls []) := by
            intro n1091
            induction n1091 with
            | zero =>
              intro x1085 x1086 x1087 x1088 H locs ls h_x1085 h_x1086 h_x1087 hn1092
              exact absurd hn1092 (Nat.not_lt_zero _)
            | succ n1091 ih1090 =>
              intro x1085 x1086 x1087 x1088 H locs ls h_x1085 h_x1086 h_x1087 hn1092 hP hD hS hl
              refine lv_iload hx hb dX6_grow_48 (lv_at hl 0 rfl) ?_
              refine lv_aload_n hx hb dX6_grow_50 rfl (lv_at hl 4 rfl) ?_
              refine g_getN (C := RX0) (T := TX0) (N := 20) (ci := 0) (v := .int dwords) FC hKn hP i_X0 0 rfl rfl 7 (by decide) b_105 rfl dX6_grow_51 ?_
              refine lv_icmp_ge (tgt := 84) hx hb dX6_grow_54 (by decide) (fun c1093 => ?_) (fun c1093 => ?_)
              · have c1093 := k_le (a := dwords.toInt) (b := x1085.toInt) rfl rfl c1093
                obtain ⟨z1094, e_z1094⟩ : ∃ y : Int32, y = x975 + 1 := ⟨_, rfl⟩
                have t_z1094 : z1094.toInt = x975.toInt + 1 := by rw [e_z1094]; exact addk (by decide) (by omega) (by omega)
                refine lv_iinc (v := z1094) (lv' := [(3, .int z1094), (5, .int x1085), (4, .int z985), (0, .ref h0), (1, .ref d0), (2, .int p2)]) hx hb dX6_grow_84 hl (k := 2) rfl (by rw [e_z1094]; rfl) (by decide) rfl (fun ls hl => ?_)
                refine lv_goto (tgt := 22) hx hb dX6_grow_87 (by decide) ?_
                exact ih980 z1094 x1086 x1087 x1088 _ _ ls (by omega) (by omega) h_x1087 (by omega) hP hD hS (lv_sub hl [0, 3, 4, 5] rfl)
              · have c1093 := k_nle (a := dwords.toInt) (b := x1085.toInt) rfl rfl c1093
                refine lv_aload_n hx hb dX6_grow_57 rfl (lv_at hl 3 rfl) ?_
                refine lv_aload_n hx hb dX6_grow_58 rfl (lv_at hl 4 rfl) ?_
                refine lv_iload hx hb dX6_grow_59 (lv_at hl 1 rfl) ?_
                refine lv_iload hx hb dX6_grow_61 (lv_at hl 0 rfl) ?_
                refine call_VN (As := [.int z985, .int x1085]) (rest := [.ref h0]) (wr := [(h0, .inr (6, [.ref rr0, .ref rr1, .int x1086])), (rr0, .inl (g.2 0, 256, .inl x1087)), (rr1, .inl (g.2 0, 256, .inl x1088))]) FC hKn hZ (k_X0_nextBelief l g d0 dr0 dr1 dr2 dr3 dr4 dr5 dr6 dr7 dr8 dr9 dstates dreally ddays dheal dleak dlines dhearers dwords dplans dnews dmeanings z985 x1085 (by omega) (by omega) (by omega) (by omega) (by omega) (by omega) (by omega) i_dmeanings (by omega)) m_yX0_nextBelief b_106 (ci := 0) rfl rfl rfl hP hD hS hA [0, 1] [2, 3, 4] rfl (by decide) rfl (by decide) (by decide) rfl hl.1 rfl (Nat.le_of_ble_eq_true rfl) dX6_grow_63 ⟨(Nat.le_of_ble_eq_true rfl), (Nat.le_of_ble_eq_true rfl)⟩ ⟨(Nat.le_of_ble_eq_true rfl), (Nat.le_of_ble_eq_true rfl)⟩ (fun u1095 H locs q1096 hP hD hS => ?_)
                have q1096_0 : 0 ≤ (u1095.1 0).toInt ∧ (u1095.1 0).toInt ≤ 255 := q1096
                have hP : va_P g.1 vwCl [(h0, .inr (6, [.ref rr0, .ref rr1, .int x1086])), (rr0, .inl (g.2 0, 256, .inl x1087)), (rr1, .inl (g.2 0, 256, .inl x1088)), (d0, .inr (0, [.int dstates, .int dreally, .int ddays, .int dheal, .int dleak, .int dlines, .int dhearers, .int dwords, .int dplans, .int dnews, .ref dr0, .ref dr1, .ref dr2, .ref dr3, .ref dr4, .ref dr5, .ref dr6, .ref dr7, .ref dr8, .ref dr9])), (dr5, .inl (g.2 0, 8, .inl dmeanings))] H := hP
                have hD : va_D A [(h0, .inr (6, [.ref rr0, .ref rr1, .int x1086])), (rr0, .inl (g.2 0, 256, .inl x1087)), (rr1, .inl (g.2 0, 256, .inl x1088)), (d0, .inr (0, [.int dstates, .int dreally, .int ddays, .int dheal, .int dleak, .int dlines, .int dhearers, .int dwords, .int dplans, .int dnews, .ref dr0, .ref dr1, .ref dr2, .ref dr3, .ref dr4, .ref dr5, .ref dr6, .ref dr7, .ref dr8, .ref dr9])), (dr5, .inl (g.2 0, 8, .inl dmeanings))] := hD
                refine W.eq (g2 := F0 m 66 ls [.int (u1095.1 0), .ref h0]) rfl ?_
                refine lv_aload_n hx hb dX6_grow_66 rfl (lv_at hl 3 rfl) ?_
                refine g_get (C := RX6) (T := TX6) (N := 3) (ci := 6) (v := .ref rr1) FC hKn hP i_X6 0 rfl rfl 1 (by decide) b_99 rfl dX6_grow_67 ?_
                refine lv_iload hx hb dX6_grow_70 (lv_at hl 1 rfl) ?_
                refine va_iald hx hb hKn.1 hP 2 0 rfl rfl (vp_in_iff.mpr ⟨by omega, by omega⟩) dX6_grow_72 ?_
                refine lv_topi (fun z1097 e_z1097 => ?_)
                refine lv_iconst (v := 1) hx hb dX6_grow_73 (by decide) ?_
                refine lv_iadd hx hb dX6_grow_74 ?_
                refine lv_topi (fun z1098 e_z1098 => ?_)
                refine call_V (As := [.int (u1095.1 0), .int z1098]) (rest := []) (wr := [(d0, .inr (0, [.int dstates, .int dreally, .int ddays, .int dheal, .int dleak, .int dlines, .int dhearers, .int dwords, .int dplans, .int dnews, .ref dr0, .ref dr1, .ref dr2, .ref dr3, .ref dr4, .ref dr5, .ref dr6, .ref dr7, .ref dr8, .ref dr9])), (dr5, .inl (g.2 0, 8, .inl dmeanings))]) FC hKn hZ (k_X6_add l g h0 rr0 rr1 x1086 x1087 x1088 (u1095.1 0) z1098 (by omega) h_x1087 (by omega)) m_yX6_add b_104 (ci := 6) rfl rfl rfl hP hD hS hA [0, 1, 2] [3, 4] rfl (by decide) rfl (by decide) (by decide) rfl hl.1 rfl (Nat.le_of_ble_eq_true rfl) dX6_grow_75 ⟨(Nat.le_of_ble_eq_true rfl), (Nat.le_of_ble_eq_true rfl)⟩ ⟨(Nat.le_of_ble_eq_true rfl), (Nat.le_of_ble_eq_true rfl)⟩ (fun u1099 H locs q1100 hP hD hS => ?_)
                obtain ⟨q1100_0, q1100_1⟩ := q1100
                have hP : va_P g.1 vwCl [(d0, .inr (0, [.int dstates, .int dreally, .int ddays, .int dheal, .int dleak, .int dlines, .int dhearers, .int dwords, .int dplans, .int dnews, .ref dr0, .ref dr1, .ref dr2, .ref dr3, .ref dr4, .ref dr5, .ref dr6, .ref dr7, .ref dr8, .ref dr9])), (dr5, .inl (g.2 0, 8, .inl dmeanings)), (h0, .inr (6, [.ref rr0, .ref rr1, .int (u1099.1 1)])), (rr0, .inl (g.2 0, 256, .inl (u1099.2.1 0))), (rr1, .inl (g.2 0, 256, .inl (u1099.2.1 1)))] H := hP
                have hD : va_D A [(d0, .inr (0, [.int dstates, .int dreally, .int ddays, .int dheal, .int dleak, .int dlines, .int dhearers, .int dwords, .int dplans, .int dnews, .ref dr0, .ref dr1, .ref dr2, .ref dr3, .ref dr4, .ref dr5, .ref dr6, .ref dr7, .ref dr8, .ref dr9])), (dr5, .inl (g.2 0, 8, .inl dmeanings)), (h0, .inr (6, [.ref rr0, .ref rr1, .int (u1099.1 1)])), (rr0, .inl (g.2 0, 256, .inl (u1099.2.1 0))), (rr1, .inl (g.2 0, 256, .inl (u1099.2.1 1)))] := hD
                refine W.eq (g2 := F0 m 78 ls []) rfl ?_
                obtain ⟨z1101, e_z1101⟩ : ∃ y : Int32, y = x1085 + 1 := ⟨_, rfl⟩
                have t_z1101 : z1101.toInt = x1085.toInt + 1 := by rw [e_z1101]; exact addk (by decide) (by omega) (by omega)
                refine lv_iinc (v := z1101) (lv' := [(5, .int z1101), (4, .int z985), (3, .int x975), (0, .ref h0), (1, .ref d0), (2, .int p2)]) hx hb dX6_grow_78 hl (k := 0) rfl (by rw [e_z1101]; rfl) (by decide) rfl (fun ls hl => ?_)
                refine lv_goto (tgt := 48) hx hb dX6_grow_81 (by decide) ?_
                exact ih1090 z1101 (u1099.1 1) (u1099.2.1 0) (u1099.2.1 1) _ _ ls (by omega) (by omega) q1100_1 (by omega) hP hD hS (lv_sub hl [0, 1, 2, 3, 4, 5] rfl)
          exact lp1089 _ (0 : Int32) x976 x977 x978 _ _ ls (by decide) (by omega) h_x977 (Nat.lt_succ_self _) hP hD hS (lv_sub hl [0, 1, 2, 3, 4, 5] rfl)
  exact lp979 _ (0 : Int32) (u3.1 1) (u3.2.1 0) (u3.2.1 1) _ _ ls (by decide) (by omega) q4_1 (Nat.lt_succ_self _) hP hD hS (lv_sub hl [0, 1, 2, 3] rfl)
set_option maxRecDepth 100000 in
set_option maxHeartbeats 4000000 in
theorem k_X5_costWithDays (l : Launch) (g : GG) (h0 : Nat) (pr0 : Nat) (pr1 : Nat) (pcost : Int32) (pgentle : Int32) (phonest : Int32) (ptable : Nat → Int32) (p1 : Int32) (p2 : Int32) (i_pgentle : 0 ≤ pgentle.toInt ∧ pgentle.toInt ≤ 1) (i_phonest : 0 ≤ phonest.toInt ∧ phonest.toInt ≤ 1) (i_p1 : 0 ≤ p1.toInt ∧ p1.toInt ≤ 10) (i_p2 : 0 ≤ p2.toInt ∧ p2.toInt ≤ 255) : Ct l g yX5_costWithDays cX5_costWithDays 3 (some .int) { frames := 0, cells := 0, slots := 0, locals := 0 } [.ref h0, .int p1, .int p2] [(h0, .inr (5, [.ref pr0, .ref pr1, .int pcost, .int pgentle, .int phonest])), (pr0, .inl (g.2 0, 2816, .inl ptable))] (S := (Nat → Int32) × (Nat → Nat → Int32) × (Nat → Nat → Int64)) (fun u => some (.int (u.1 0))) (fun u => True) (fun u => [(h0, .inr (5, [.ref pr0, .ref pr1, .int pcost, .int pgentle, .int phonest])), (pr0, .inl (g.2 0, 2816, .inl ptable))]) := by
  refine Ct.of (by decide) (Nat.le_of_ble_eq_true rfl) ?_
  intro p e s m below meth c A ls FX hP hD hS hl
  obtain ⟨FC, hr, hlk, hKn, hA, hnm, hZ⟩ := id FX
  have FC : CallFix p m c cX5_costWithDays 3 s _ BIG RX5 := FC
  obtain ⟨hx, hb, hml, hown, hB⟩ := id FC
  have hl : lv_has ls 3 [(0, .ref h0), (1, .int p1), (2, .int p2)] := hl
  refine lv_aload_n hx hb dX5_costWithDays_0 rfl (lv_at hl 0 rfl) ?_
  refine g_get (C := RX5) (T := TX5) (N := 5) (ci := 5) (v := .ref pr0) FC hKn hP i_X5 0 rfl rfl 0 (by decide) b_107 rfl dX5_costWithDays_1 ?_
  refine lv_iload_n hx hb dX5_costWithDays_4 rfl (lv_at hl 1 rfl) ?_
  refine lv_sipush (v := 256) hx hb dX5_costWithDays_5 (by decide) ?_
  refine lv_imul hx hb dX5_costWithDays_8 ?_
  have kc256 : (256 : Int32).toInt = 256 := by decide
  refine lv_topi (fun z1 e_z1 => ?_)
  have t_z1 : z1.toInt = p1.toInt * 256 := by rw [e_z1, fb_mulI (by rw [show (256 : Int32).toInt = 256 by decide]; omega) (by rw [show (256 : Int32).toInt = 256 by decide]; omega), show (256 : Int32).toInt = 256 by decide]
  refine lv_iload_n hx hb dX5_costWithDays_9 rfl (lv_at hl 2 rfl) ?_
  refine lv_iadd hx hb dX5_costWithDays_10 ?_
  refine lv_topi (fun z2 e_z2 => ?_)
  have t_z2 : z2.toInt = z1.toInt + p2.toInt := by rw [e_z2]; exact fb_addI (by omega) (by omega)
  refine va_iald hx hb hKn.1 hP 1 0 rfl rfl (vp_in_iff.mpr ⟨by omega, by omega⟩) dX5_costWithDays_11 ?_
  refine lv_topi (fun z3 e_z3 => ?_)
  exact rt_i FX ((fun k => match k with | 0 => z3 | _ => 0), (fun _ => fun _ => 0), (fun _ => fun _ => 0)) rfl trivial (hP.sub [0, 1] rfl) (hD.sub [0, 1] (by decide) rfl) hS (Nat.le_of_ble_eq_true rfl) (Nat.le_of_ble_eq_true rfl) dX5_costWithDays_12
set_option maxRecDepth 100000 in
set_option maxHeartbeats 4000000 in
theorem k_X5_costBy (l : Launch) (g : GG) (h0 : Nat) (pr0 : Nat) (pr1 : Nat) (d0 : Nat) (dr0 : Nat) (dr1 : Nat) (dr2 : Nat) (dr3 : Nat) (dr4 : Nat) (dr5 : Nat) (dr6 : Nat) (dr7 : Nat) (dr8 : Nat) (dr9 : Nat) (m0 : Nat) (mr0 : Nat) (pcost : Int32) (pgentle : Int32) (phonest : Int32) (ptable : Nat → Int32) (dstates : Int32) (dreally : Int32) (ddays : Int32) (dheal : Int32) (dleak : Int32) (dlines : Int32) (dhearers : Int32) (dwords : Int32) (dplans : Int32) (dnews : Int32) (dmeanings : Nat → Int32) (dshames : Nat → Int32) (mmeans : Nat → Int32) (p3 : Int32) (p4 : Int32) (p5 : Int32) (i_pgentle : 0 ≤ pgentle.toInt ∧ pgentle.toInt ≤ 1) (i_phonest : 0 ≤ phonest.toInt ∧ phonest.toInt ≤ 1) (i_dstates : 0 ≤ dstates.toInt ∧ dstates.toInt ≤ 8) (i_dreally : 0 ≤ dreally.toInt ∧ dreally.toInt ≤ 7) (i_ddays : 0 ≤ ddays.toInt ∧ ddays.toInt ≤ 10) (i_dhearers : 0 ≤ dhearers.toInt ∧ dhearers.toInt ≤ 4) (i_dwords : 0 ≤ dwords.toInt ∧ dwords.toInt ≤ 8) (i_dplans : 0 ≤ dplans.toInt ∧ dplans.toInt ≤ 4) (i_dnews : 0 ≤ dnews.toInt ∧ dnews.toInt ≤ 6) (i_dmeanings : ab dmeanings 8 0 255) (i_p3 : 0 ≤ p3.toInt ∧ p3.toInt ≤ 8) (i_p4 : 1 ≤ p4.toInt ∧ p4.toInt ≤ 10) (i_p5 : 0 ≤ p5.toInt ∧ p5.toInt ≤ 255) : Ct l g yX5_costBy cX5_costBy 9 (some .int) { frames := 2, cells := 0, slots := 0, locals := 44 } [.ref h0, .ref d0, .ref m0, .int p3, .int p4, .int p5] [(h0, .inr (5, [.ref pr0, .ref pr1, .int pcost, .int pgentle, .int phonest])), (pr0, .inl (g.2 0, 2816, .inl ptable)), (d0, .inr (0, [.int dstates, .int dreally, .int ddays, .int dheal, .int dleak, .int dlines, .int dhearers, .int dwords, .int dplans, .int dnews, .ref dr0, .ref dr1, .ref dr2, .ref dr3, .ref dr4, .ref dr5, .ref dr6, .ref dr7, .ref dr8, .ref dr9])), (dr5, .inl (g.2 0, 8, .inl dmeanings)), (dr4, .inl (g.2 0, 8, .inl dshames)), (m0, .inr (4, [.ref mr0])), (mr0, .inl (g.2 0, 256, .inl mmeans))] (S := (Nat → Int32) × (Nat → Nat → Int32) × (Nat → Nat → Int64)) (fun u => some (.int (u.1 0))) (fun u => True) (fun u => [(h0, .inr (5, [.ref pr0, .ref pr1, .int pcost, .int pgentle, .int phonest])), (pr0, .inl (g.2 0, 2816, .inl ptable)), (d0, .inr (0, [.int dstates, .int dreally, .int ddays, .int dheal, .int dleak, .int dlines, .int dhearers, .int dwords, .int dplans, .int dnews, .ref dr0, .ref dr1, .ref dr2, .ref dr3, .ref dr4, .ref dr5, .ref dr6, .ref dr7, .ref dr8, .ref dr9])), (dr5, .inl (g.2 0, 8, .inl dmeanings)), (dr4, .inl (g.2 0, 8, .inl dshames)), (m0, .inr (4, [.ref mr0])), (mr0, .inl (g.2 0, 256, .inl mmeans))]) := by
  refine Ct.of (by decide) (Nat.le_of_ble_eq_true rfl) ?_
  intro p e s m below meth c A ls FX hP hD hS hl
  obtain ⟨FC, hr, hlk, hKn, hA, hnm, hZ⟩ := id FX
  have FC : CallFix p m c cX5_costBy 9 s _ BIG RX5 := FC
  obtain ⟨hx, hb, hml, hown, hB⟩ := id FC
  have hl : lv_has ls 9 [(0, .ref h0), (1, .ref d0), (2, .ref m0), (3, .int p3), (4, .int p4), (5, .int p5)] := hl
  refine lv_aload_n hx hb dX5_costBy_0 rfl (lv_at hl 0 rfl) ?_
  refine g_get (C := RX5) (T := TX5) (N := 5) (ci := 5) (v := .int phonest) FC hKn hP i_X5 0 rfl rfl 4 (by decide) b_108 rfl dX5_costBy_1 ?_
  refine lv_if_eq (tgt := 24) hx hb dX5_costBy_4 (by decide) (fun c1 => ?_) (fun c1 => ?_)
  · have c1 := k_eq (a := phonest.toInt) (b := 0) rfl (by decide) c1
    refine lv_aload_n hx hb dX5_costBy_24 rfl (lv_at hl 1 rfl) ?_
    refine lv_iload hx hb dX5_costBy_25 (lv_at hl 5 rfl) ?_
    refine lv_iload_n hx hb dX5_costBy_27 rfl (lv_at hl 3 rfl) ?_
    refine call_VN (As := [.int p5, .int p3]) (rest := []) (wr := [(h0, .inr (5, [.ref pr0, .ref pr1, .int pcost, .int pgentle, .int phonest])), (pr0, .inl (g.2 0, 2816, .inl ptable)), (dr4, .inl (g.2 0, 8, .inl dshames)), (m0, .inr (4, [.ref mr0])), (mr0, .inl (g.2 0, 256, .inl mmeans))]) FC hKn hZ (k_X0_nextBelief l g d0 dr0 dr1 dr2 dr3 dr4 dr5 dr6 dr7 dr8 dr9 dstates dreally ddays dheal dleak dlines dhearers dwords dplans dnews dmeanings p5 p3 (by omega) (by omega) (by omega) (by omega) (by omega) (by omega) (by omega) i_dmeanings (by omega)) m_yX0_nextBelief b_109 (ci := 0) rfl rfl rfl hP hD hS hA [2, 3] [0, 1, 4, 5, 6] rfl (by decide) rfl (by decide) (by decide +kernel) rfl hl.1 rfl (Nat.le_of_ble_eq_true rfl) dX5_costBy_28 ⟨(Nat.le_of_ble_eq_true rfl), (Nat.le_of_ble_eq_true rfl)⟩ ⟨(Nat.le_of_ble_eq_true rfl), (Nat.le_of_ble_eq_true rfl)⟩ (fun u2 H locs q3 hP hD hS => ?_)
    have q3_0 : 0 ≤ (u2.1 0).toInt ∧ (u2.1 0).toInt ≤ 255 := q3
    have hP : va_P g.1 vwCl [(h0, .inr (5, [.ref pr0, .ref pr1, .int pcost, .int pgentle, .int phonest])), (pr0, .inl (g.2 0, 2816, .inl ptable)), (dr4, .inl (g.2 0, 8, .inl dshames)), (m0, .inr (4, [.ref mr0])), (mr0, .inl (g.2 0, 256, .inl mmeans)), (d0, .inr (0, [.int dstates, .int dreally, .int ddays, .int dheal, .int dleak, .int dlines, .int dhearers, .int dwords, .int dplans, .int dnews, .ref dr0, .ref dr1, .ref dr2, .ref dr3, .ref dr4, .ref dr5, .ref dr6, .ref dr7, .ref dr8, .ref dr9])), (dr5, .inl (g.2 0, 8, .inl dmeanings))] H := hP
    have hD : va_D A [(h0, .inr (5, [.ref pr0, .ref pr1, .int pcost, .int pgentle, .int phonest])), (pr0, .inl (g.2 0, 2816, .inl ptable)), (dr4, .inl (g.2 0, 8, .inl dshames)), (m0, .inr (4, [.ref mr0])), (mr0, .inl (g.2 0, 256, .inl mmeans)), (d0, .inr (0, [.int dstates, .int dreally, .int ddays, .int dheal, .int dleak, .int dlines, .int dhearers, .int dwords, .int dplans, .int dnews, .ref dr0, .ref dr1, .ref dr2, .ref dr3, .ref dr4, .ref dr5, .ref dr6, .ref dr7, .ref dr8, .ref dr9])), (dr5, .inl (g.2 0, 8, .inl dmeanings))] := hD
    refine W.eq (g2 := F0 m 31 ls [.int (u2.1 0)]) rfl ?_
    refine lv_istore (lv' := [(6, .int (u2.1 0)), (0, .ref h0), (1, .ref d0), (2, .ref m0), (3, .int p3), (4, .int p4), (5, .int p5)]) hx hb dX5_costBy_31 hl (by decide) rfl (fun ls hl => ?_)
    refine lv_aload_n hx hb dX5_costBy_33 rfl (lv_at hl 1 rfl) ?_
    refine lv_iload hx hb dX5_costBy_34 (lv_at hl 5 rfl) ?_
    refine lv_iconst (v := 1) hx hb dX5_costBy_36 (by decide) ?_
    refine lv_isub hx hb dX5_costBy_37 ?_
    have kc1 : (1 : Int32).toInt = 1 := by decide
    refine lv_topi (fun z4 e_z4 => ?_)
    have t_z4 : z4.toInt = p4.toInt - ((1 : Int32)).toInt := by rw [e_z4]; exact fb_subI (by omega) (by omega)
    refine lv_iload hx hb dX5_costBy_38 (lv_at hl 0 rfl) ?_
    refine call_V (As := [.int z4, .int (u2.1 0)]) (rest := []) (wr := [(dr4, .inl (g.2 0, 8, .inl dshames)), (m0, .inr (4, [.ref mr0])), (mr0, .inl (g.2 0, 256, .inl mmeans)), (d0, .inr (0, [.int dstates, .int dreally, .int ddays, .int dheal, .int dleak, .int dlines, .int dhearers, .int dwords, .int dplans, .int dnews, .ref dr0, .ref dr1, .ref dr2, .ref dr3, .ref dr4, .ref dr5, .ref dr6, .ref dr7, .ref dr8, .ref dr9])), (dr5, .inl (g.2 0, 8, .inl dmeanings))]) FC hKn hZ (k_X5_costWithDays l g h0 pr0 pr1 pcost pgentle phonest ptable z4 (u2.1 0) (by omega) (by omega) (by omega) (by omega)) m_yX5_costWithDays b_110 (ci := 5) rfl rfl rfl hP hD hS hA [0, 1] [2, 3, 4, 5, 6] rfl (by decide) rfl (by decide) (by decide +kernel) rfl hl.1 rfl (Nat.le_of_ble_eq_true rfl) dX5_costBy_40 ⟨(Nat.le_of_ble_eq_true rfl), (Nat.le_of_ble_eq_true rfl)⟩ ⟨(Nat.le_of_ble_eq_true rfl), (Nat.le_of_ble_eq_true rfl)⟩ (fun u5 H locs q6 hP hD hS => ?_)
    have hP : va_P g.1 vwCl [(dr4, .inl (g.2 0, 8, .inl dshames)), (m0, .inr (4, [.ref mr0])), (mr0, .inl (g.2 0, 256, .inl mmeans)), (d0, .inr (0, [.int dstates, .int dreally, .int ddays, .int dheal, .int dleak, .int dlines, .int dhearers, .int dwords, .int dplans, .int dnews, .ref dr0, .ref dr1, .ref dr2, .ref dr3, .ref dr4, .ref dr5, .ref dr6, .ref dr7, .ref dr8, .ref dr9])), (dr5, .inl (g.2 0, 8, .inl dmeanings)), (h0, .inr (5, [.ref pr0, .ref pr1, .int pcost, .int pgentle, .int phonest])), (pr0, .inl (g.2 0, 2816, .inl ptable))] H := hP
    have hD : va_D A [(dr4, .inl (g.2 0, 8, .inl dshames)), (m0, .inr (4, [.ref mr0])), (mr0, .inl (g.2 0, 256, .inl mmeans)), (d0, .inr (0, [.int dstates, .int dreally, .int ddays, .int dheal, .int dleak, .int dlines, .int dhearers, .int dwords, .int dplans, .int dnews, .ref dr0, .ref dr1, .ref dr2, .ref dr3, .ref dr4, .ref dr5, .ref dr6, .ref dr7, .ref dr8, .ref dr9])), (dr5, .inl (g.2 0, 8, .inl dmeanings)), (h0, .inr (5, [.ref pr0, .ref pr1, .int pcost, .int pgentle, .int phonest])), (pr0, .inl (g.2 0, 2816, .inl ptable))] := hD
    refine W.eq (g2 := F0 m 43 ls [.int (u5.1 0)]) rfl ?_
    refine lv_istore (lv' := [(7, .int (u5.1 0)), (6, .int (u2.1 0)), (0, .ref h0), (1, .ref d0), (2, .ref m0), (3, .int p3), (4, .int p4), (5, .int p5)]) hx hb dX5_costBy_43 hl (by decide) rfl (fun ls hl => ?_)
    refine lv_iload hx hb dX5_costBy_45 (lv_at hl 0 rfl) ?_
    refine lv_ldc hx hb hown (hB _ b_111) dX5_costBy_47 ?_
    refine lv_icmp_ne (tgt := 55) hx hb dX5_costBy_49 (by decide) (fun c7 => ?_) (fun c7 => ?_)
    · have c7 := k_ne (a := (u5.1 0).toInt) (b := 1000000000) rfl (by decide) c7
      refine lv_aload_n hx hb dX5_costBy_55 rfl (lv_at hl 4 rfl) ?_
      refine lv_iload hx hb dX5_costBy_56 (lv_at hl 7 rfl) ?_
      refine lv_iload hx hb dX5_costBy_58 (lv_at hl 1 rfl) ?_
      refine call_VN (As := [.int p5, .int (u2.1 0)]) (rest := []) (wr := [(dr4, .inl (g.2 0, 8, .inl dshames)), (d0, .inr (0, [.int dstates, .int dreally, .int ddays, .int dheal, .int dleak, .int dlines, .int dhearers, .int dwords, .int dplans, .int dnews, .ref dr0, .ref dr1, .ref dr2, .ref dr3, .ref dr4, .ref dr5, .ref dr6, .ref dr7, .ref dr8, .ref dr9])), (dr5, .inl (g.2 0, 8, .inl dmeanings)), (h0, .inr (5, [.ref pr0, .ref pr1, .int pcost, .int pgentle, .int phonest])), (pr0, .inl (g.2 0, 2816, .inl ptable))]) FC hKn hZ (k_X4_pain l g m0 mr0 mmeans p5 (u2.1 0) (by omega) (by omega)) m_yX4_pain b_112 (ci := 4) rfl rfl rfl hP hD hS hA [1, 2] [0, 3, 4, 5, 6] rfl (by decide) rfl (by decide) (by decide +kernel) rfl hl.1 rfl (Nat.le_of_ble_eq_true rfl) dX5_costBy_60 ⟨(Nat.le_of_ble_eq_true rfl), (Nat.le_of_ble_eq_true rfl)⟩ ⟨(Nat.le_of_ble_eq_true rfl), (Nat.le_of_ble_eq_true rfl)⟩ (fun u8 H locs q9 hP hD hS => ?_)
      have hP : va_P g.1 vwCl [(dr4, .inl (g.2 0, 8, .inl dshames)), (d0, .inr (0, [.int dstates, .int dreally, .int ddays, .int dheal, .int dleak, .int dlines, .int dhearers, .int dwords, .int dplans, .int dnews, .ref dr0, .ref dr1, .ref dr2, .ref dr3, .ref dr4, .ref dr5, .ref dr6, .ref dr7, .ref dr8, .ref dr9])), (dr5, .inl (g.2 0, 8, .inl dmeanings)), (h0, .inr (5, [.ref pr0, .ref pr1, .int pcost, .int pgentle, .int phonest])), (pr0, .inl (g.2 0, 2816, .inl ptable)), (m0, .inr (4, [.ref mr0])), (mr0, .inl (g.2 0, 256, .inl mmeans))] H := hP
      have hD : va_D A [(dr4, .inl (g.2 0, 8, .inl dshames)), (d0, .inr (0, [.int dstates, .int dreally, .int ddays, .int dheal, .int dleak, .int dlines, .int dhearers, .int dwords, .int dplans, .int dnews, .ref dr0, .ref dr1, .ref dr2, .ref dr3, .ref dr4, .ref dr5, .ref dr6, .ref dr7, .ref dr8, .ref dr9])), (dr5, .inl (g.2 0, 8, .inl dmeanings)), (h0, .inr (5, [.ref pr0, .ref pr1, .int pcost, .int pgentle, .int phonest])), (pr0, .inl (g.2 0, 2816, .inl ptable)), (m0, .inr (4, [.ref mr0])), (mr0, .inl (g.2 0, 256, .inl mmeans))] := hD
      refine W.eq (g2 := F0 m 63 ls [.int (u8.1 0)]) rfl ?_
      refine lv_istore (lv' := [(8, .int (u8.1 0)), (7, .int (u5.1 0)), (6, .int (u2.1 0)), (0, .ref h0), (1, .ref d0), (2, .ref m0), (3, .int p3), (4, .int p4), (5, .int p5)]) hx hb dX5_costBy_63 hl (by decide) rfl (fun ls hl => ?_)
      refine lv_aload_n hx hb dX5_costBy_65 rfl (lv_at hl 3 rfl) ?_
      refine g_get (C := RX5) (T := TX5) (N := 5) (ci := 5) (v := .int pgentle) FC hKn hP i_X5 3 rfl rfl 3 (by decide) b_113 rfl dX5_costBy_66 ?_
      refine lv_if_eq (tgt := 80) hx hb dX5_costBy_69 (by decide) (fun c10 => ?_) (fun c10 => ?_)
      · have c10 := k_eq (a := pgentle.toInt) (b := 0) rfl (by decide) c10
        refine lv_aload_n hx hb dX5_costBy_80 rfl (lv_at hl 4 rfl) ?_
        refine lv_iload hx hb dX5_costBy_81 (lv_at hl 0 rfl) ?_
        refine lv_iload hx hb dX5_costBy_83 (lv_at hl 7 rfl) ?_
        refine lv_iconst (v := 1) hx hb dX5_costBy_85 (by decide) ?_
        refine lv_isub hx hb dX5_costBy_86 ?_
        refine lv_topi (fun z11 e_z11 => ?_)
        have t_z11 : z11.toInt = p4.toInt - ((1 : Int32)).toInt := by rw [e_z11]; exact fb_subI (by omega) (by omega)
        refine call_VN (As := [.int (u8.1 0), .int z11]) (rest := []) (wr := [(dr4, .inl (g.2 0, 8, .inl dshames)), (dr5, .inl (g.2 0, 8, .inl dmeanings)), (h0, .inr (5, [.ref pr0, .ref pr1, .int pcost, .int pgentle, .int phonest])), (pr0, .inl (g.2 0, 2816, .inl ptable)), (m0, .inr (4, [.ref mr0])), (mr0, .inl (g.2 0, 256, .inl mmeans))]) FC hKn hZ (k_X0_leftOf l g d0 dr0 dr1 dr2 dr3 dr4 dr5 dr6 dr7 dr8 dr9 dstates dreally ddays dheal dleak dlines dhearers dwords dplans dnews (u8.1 0) z11 (by omega) (by omega) (by omega) (by omega) (by omega) (by omega) (by omega)) m_yX0_leftOf b_114 (ci := 0) rfl rfl rfl hP hD hS hA [1] [0, 2, 3, 4, 5, 6] rfl (by decide) rfl (by decide) (by decide +kernel) rfl hl.1 rfl (Nat.le_of_ble_eq_true rfl) dX5_costBy_87 ⟨(Nat.le_of_ble_eq_true rfl), (Nat.le_of_ble_eq_true rfl)⟩ ⟨(Nat.le_of_ble_eq_true rfl), (Nat.le_of_ble_eq_true rfl)⟩ (fun u12 H locs q13 hP hD hS => ?_)
        have hP : va_P g.1 vwCl [(dr4, .inl (g.2 0, 8, .inl dshames)), (dr5, .inl (g.2 0, 8, .inl dmeanings)), (h0, .inr (5, [.ref pr0, .ref pr1, .int pcost, .int pgentle, .int phonest])), (pr0, .inl (g.2 0, 2816, .inl ptable)), (m0, .inr (4, [.ref mr0])), (mr0, .inl (g.2 0, 256, .inl mmeans)), (d0, .inr (0, [.int dstates, .int dreally, .int ddays, .int dheal, .int dleak, .int dlines, .int dhearers, .int dwords, .int dplans, .int dnews, .ref dr0, .ref dr1, .ref dr2, .ref dr3, .ref dr4, .ref dr5, .ref dr6, .ref dr7, .ref dr8, .ref dr9]))] H := hP
        have hD : va_D A [(dr4, .inl (g.2 0, 8, .inl dshames)), (dr5, .inl (g.2 0, 8, .inl dmeanings)), (h0, .inr (5, [.ref pr0, .ref pr1, .int pcost, .int pgentle, .int phonest])), (pr0, .inl (g.2 0, 2816, .inl ptable)), (m0, .inr (4, [.ref mr0])), (mr0, .inl (g.2 0, 256, .inl mmeans)), (d0, .inr (0, [.int dstates, .int dreally, .int ddays, .int dheal, .int dleak, .int dlines, .int dhearers, .int dwords, .int dplans, .int dnews, .ref dr0, .ref dr1, .ref dr2, .ref dr3, .ref dr4, .ref dr5, .ref dr6, .ref dr7, .ref dr8, .ref dr9]))] := hD
        refine W.eq (g2 := F0 m 90 ls [.int (u12.1 0)]) rfl ?_
        refine lv_aload_n hx hb dX5_costBy_90 rfl (lv_at hl 4 rfl) ?_
        refine lv_iload_n hx hb dX5_costBy_91 rfl (lv_at hl 6 rfl) ?_
        refine call_VN (As := [.int p3]) (rest := [.int (u12.1 0)]) (wr := [(h0, .inr (5, [.ref pr0, .ref pr1, .int pcost, .int pgentle, .int phonest])), (pr0, .inl (g.2 0, 2816, .inl ptable)), (m0, .inr (4, [.ref mr0])), (mr0, .inl (g.2 0, 256, .inl mmeans))]) FC hKn hZ (k_X0_shameOf l g d0 dr0 dr1 dr2 dr3 dr4 dr5 dr6 dr7 dr8 dr9 dstates dreally ddays dheal dleak dlines dhearers dwords dplans dnews dmeanings dshames p3 (by omega) (by omega) (by omega) (by omega) (by omega) (by omega) (by omega) i_dmeanings) m_yX0_shameOf b_115 (ci := 0) rfl rfl rfl hP hD hS hA [6, 1, 0] [2, 3, 4, 5] rfl (by decide) rfl (by decide) (by decide +kernel) rfl hl.1 rfl (Nat.le_of_ble_eq_true rfl) dX5_costBy_92 ⟨(Nat.le_of_ble_eq_true rfl), (Nat.le_of_ble_eq_true rfl)⟩ ⟨(Nat.le_of_ble_eq_true rfl), (Nat.le_of_ble_eq_true rfl)⟩ (fun u14 H locs q15 hP hD hS => ?_)
        have hP : va_P g.1 vwCl [(h0, .inr (5, [.ref pr0, .ref pr1, .int pcost, .int pgentle, .int phonest])), (pr0, .inl (g.2 0, 2816, .inl ptable)), (m0, .inr (4, [.ref mr0])), (mr0, .inl (g.2 0, 256, .inl mmeans)), (d0, .inr (0, [.int dstates, .int dreally, .int ddays, .int dheal, .int dleak, .int dlines, .int dhearers, .int dwords, .int dplans, .int dnews, .ref dr0, .ref dr1, .ref dr2, .ref dr3, .ref dr4, .ref dr5, .ref dr6, .ref dr7, .ref dr8, .ref dr9])), (dr5, .inl (g.2 0, 8, .inl dmeanings)), (dr4, .inl (g.2 0, 8, .inl dshames))] H := hP
        have hD : va_D A [(h0, .inr (5, [.ref pr0, .ref pr1, .int pcost, .int pgentle, .int phonest])), (pr0, .inl (g.2 0, 2816, .inl ptable)), (m0, .inr (4, [.ref mr0])), (mr0, .inl (g.2 0, 256, .inl mmeans)), (d0, .inr (0, [.int dstates, .int dreally, .int ddays, .int dheal, .int dleak, .int dlines, .int dhearers, .int dwords, .int dplans, .int dnews, .ref dr0, .ref dr1, .ref dr2, .ref dr3, .ref dr4, .ref dr5, .ref dr6, .ref dr7, .ref dr8, .ref dr9])), (dr5, .inl (g.2 0, 8, .inl dmeanings)), (dr4, .inl (g.2 0, 8, .inl dshames))] := hD
        refine W.eq (g2 := F0 m 95 ls [.int (u14.1 0), .int (u12.1 0)]) rfl ?_
        refine lv_iadd hx hb dX5_costBy_95 ?_
        refine lv_topi (fun z16 e_z16 => ?_)
        refine lv_iload hx hb dX5_costBy_96 (lv_at hl 1 rfl) ?_
        refine lv_iadd hx hb dX5_costBy_98 ?_
        refine lv_topi (fun z17 e_z17 => ?_)
        exact rt_i FX ((fun k => match k with | 0 => z17 | _ => 0), (fun _ => fun _ => 0), (fun _ => fun _ => 0)) rfl trivial (hP.sub [0, 1, 4, 5, 6, 2, 3] rfl) (hD.sub [0, 1, 4, 5, 6, 2, 3] (by decide +kernel) rfl) hS (Nat.le_of_ble_eq_true rfl) (Nat.le_of_ble_eq_true rfl) dX5_costBy_99
      · have c10 := k_ne (a := pgentle.toInt) (b := 0) rfl (by decide) c10
        refine lv_iload hx hb dX5_costBy_72 (lv_at hl 0 rfl) ?_
        refine lv_iload hx hb dX5_costBy_74 (lv_at hl 1 rfl) ?_
        refine va_mmax hx hb (by rw [hml]; exact hl.1.symm) hown (hB _ b_116) (hB _ b_57) (hB _ b_58) (hB _ b_59) (Nat.le_of_ble_eq_true rfl) (Nat.le_of_ble_eq_true rfl) (Nat.le_of_ble_eq_true rfl) (Nat.le_of_ble_eq_true rfl) dX5_costBy_76 ?_
        refine lv_topi (fun z18 e_z18 => ?_)
        have t_z18 : ((u8.1 0).toInt ≤ z18.toInt ∧ (u5.1 0).toInt ≤ z18.toInt ∧ (z18.toInt = (u8.1 0).toInt ∨ z18.toInt = (u5.1 0).toInt)) := by rw [e_z18]; exact mmax_b _ _
        exact rt_i FX ((fun k => match k with | 0 => z18 | _ => 0), (fun _ => fun _ => 0), (fun _ => fun _ => 0)) rfl trivial (hP.sub [3, 4, 1, 2, 0, 5, 6] rfl) (hD.sub [3, 4, 1, 2, 0, 5, 6] (by decide +kernel) rfl) hS (Nat.le_of_ble_eq_true rfl) (Nat.le_of_ble_eq_true rfl) dX5_costBy_79
    · have c7 := k_eq (a := (u5.1 0).toInt) (b := 1000000000) rfl (by decide) c7
      refine lv_ldc hx hb hown (hB _ b_111) dX5_costBy_52 ?_
      exact rt_i FX ((fun k => match k with | 0 => (1000000000 : Int32) | _ => 0), (fun _ => fun _ => 0), (fun _ => fun _ => 0)) rfl trivial (hP.sub [5, 6, 3, 4, 0, 1, 2] rfl) (hD.sub [5, 6, 3, 4, 0, 1, 2] (by decide +kernel) rfl) hS (Nat.le_of_ble_eq_true rfl) (Nat.le_of_ble_eq_true rfl) dX5_costBy_54
  · have c1 := k_ne (a := phonest.toInt) (b := 0) rfl (by decide) c1
    refine lv_iload_n hx hb dX5_costBy_7 rfl (lv_at hl 3 rfl) ?_
    refine lv_bipush (v := 8) hx hb dX5_costBy_8 (by decide) ?_
    refine lv_icmp_eq (tgt := 24) hx hb dX5_costBy_10 (by decide) (fun c19 => ?_) (fun c19 => ?_)
    · have c19 := k_eq (a := p3.toInt) (b := 8) rfl (by decide) c19
      refine lv_aload_n hx hb dX5_costBy_24 rfl (lv_at hl 1 rfl) ?_
      refine lv_iload hx hb dX5_costBy_25 (lv_at hl 5 rfl) ?_
      refine lv_iload_n hx hb dX5_costBy_27 rfl (lv_at hl 3 rfl) ?_
      refine call_VN (As := [.int p5, .int p3]) (rest := []) (wr := [(h0, .inr (5, [.ref pr0, .ref pr1, .int pcost, .int pgentle, .int phonest])), (pr0, .inl (g.2 0, 2816, .inl ptable)), (dr4, .inl (g.2 0, 8, .inl dshames)), (m0, .inr (4, [.ref mr0])), (mr0, .inl (g.2 0, 256, .inl mmeans))]) FC hKn hZ (k_X0_nextBelief l g d0 dr0 dr1 dr2 dr3 dr4 dr5 dr6 dr7 dr8 dr9 dstates dreally ddays dheal dleak dlines dhearers dwords dplans dnews dmeanings p5 p3 (by omega) (by omega) (by omega) (by omega) (by omega) (by omega) (by omega) i_dmeanings (by omega)) m_yX0_nextBelief b_109 (ci := 0) rfl rfl rfl hP hD hS hA [2, 3] [0, 1, 4, 5, 6] rfl (by decide) rfl (by decide) (by decide +kernel) rfl hl.1 rfl (Nat.le_of_ble_eq_true rfl) dX5_costBy_28 ⟨(Nat.le_of_ble_eq_true rfl), (Nat.le_of_ble_eq_true rfl)⟩ ⟨(Nat.le_of_ble_eq_true rfl), (Nat.le_of_ble_eq_true rfl)⟩ (fun u20 H locs q21 hP hD hS => ?_)
      have q21_0 : 0 ≤ (u20.1 0).toInt ∧ (u20.1 0).toInt ≤ 255 := q21
      have hP : va_P g.1 vwCl [(h0, .inr (5, [.ref pr0, .ref pr1, .int pcost, .int pgentle, .int phonest])), (pr0, .inl (g.2 0, 2816, .inl ptable)), (dr4, .inl (g.2 0, 8, .inl dshames)), (m0, .inr (4, [.ref mr0])), (mr0, .inl (g.2 0, 256, .inl mmeans)), (d0, .inr (0, [.int dstates, .int dreally, .int ddays, .int dheal, .int dleak, .int dlines, .int dhearers, .int dwords, .int dplans, .int dnews, .ref dr0, .ref dr1, .ref dr2, .ref dr3, .ref dr4, .ref dr5, .ref dr6, .ref dr7, .ref dr8, .ref dr9])), (dr5, .inl (g.2 0, 8, .inl dmeanings))] H := hP
      have hD : va_D A [(h0, .inr (5, [.ref pr0, .ref pr1, .int pcost, .int pgentle, .int phonest])), (pr0, .inl (g.2 0, 2816, .inl ptable)), (dr4, .inl (g.2 0, 8, .inl dshames)), (m0, .inr (4, [.ref mr0])), (mr0, .inl (g.2 0, 256, .inl mmeans)), (d0, .inr (0, [.int dstates, .int dreally, .int ddays, .int dheal, .int dleak, .int dlines, .int dhearers, .int dwords, .int dplans, .int dnews, .ref dr0, .ref dr1, .ref dr2, .ref dr3, .ref dr4, .ref dr5, .ref dr6, .ref dr7, .ref dr8, .ref dr9])), (dr5, .inl (g.2 0, 8, .inl dmeanings))] := hD
      refine W.eq (g2 := F0 m 31 ls [.int (u20.1 0)]) rfl ?_
      refine lv_istore (lv' := [(6, .int (u20.1 0)), (0, .ref h0), (1, .ref d0), (2, .ref m0), (3, .int p3), (4, .int p4), (5, .int p5)]) hx hb dX5_costBy_31 hl (by decide) rfl (fun ls hl => ?_)
      refine lv_aload_n hx hb dX5_costBy_33 rfl (lv_at hl 1 rfl) ?_
      refine lv_iload hx hb dX5_costBy_34 (lv_at hl 5 rfl) ?_
      refine lv_iconst (v := 1) hx hb dX5_costBy_36 (by decide) ?_
      refine lv_isub hx hb dX5_costBy_37 ?_
      have kc1 : (1 : Int32).toInt = 1 := by decide
      refine lv_topi (fun z22 e_z22 => ?_)
      have t_z22 : z22.toInt = p4.toInt - ((1 : Int32)).toInt := by rw [e_z22]; exact fb_subI (by omega) (by omega)
      refine lv_iload hx hb dX5_costBy_38 (lv_at hl 0 rfl) ?_
      refine call_V (As := [.int z22, .int (u20.1 0)]) (rest := []) (wr := [(dr4, .inl (g.2 0, 8, .inl dshames)), (m0, .inr (4, [.ref mr0])), (mr0, .inl (g.2 0, 256, .inl mmeans)), (d0, .inr (0, [.int dstates, .int dreally, .int ddays, .int dheal, .int dleak, .int dlines, .int dhearers, .int dwords, .int dplans, .int dnews, .ref dr0, .ref dr1, .ref dr2, .ref dr3, .ref dr4, .ref dr5, .ref dr6, .ref dr7, .ref dr8, .ref dr9])), (dr5, .inl (g.2 0, 8, .inl dmeanings))]) FC hKn hZ (k_X5_costWithDays l g h0 pr0 pr1 pcost pgentle phonest ptable z22 (u20.1 0) (by omega) (by omega) (by omega) (by omega)) m_yX5_costWithDays b_110 (ci := 5) rfl rfl rfl hP hD hS hA [0, 1] [2, 3, 4, 5, 6] rfl (by decide) rfl (by decide) (by decide +kernel) rfl hl.1 rfl (Nat.le_of_ble_eq_true rfl) dX5_costBy_40 ⟨(Nat.le_of_ble_eq_true rfl), (Nat.le_of_ble_eq_true rfl)⟩ ⟨(Nat.le_of_ble_eq_true rfl), (Nat.le_of_ble_eq_true rfl)⟩ (fun u23 H locs q24 hP hD hS => ?_)
      have hP : va_P g.1 vwCl [(dr4, .inl (g.2 0, 8, .inl dshames)), (m0, .inr (4, [.ref mr0])), (mr0, .inl (g.2 0, 256, .inl mmeans)), (d0, .inr (0, [.int dstates, .int dreally, .int ddays, .int dheal, .int dleak, .int dlines, .int dhearers, .int dwords, .int dplans, .int dnews, .ref dr0, .ref dr1, .ref dr2, .ref dr3, .ref dr4, .ref dr5, .ref dr6, .ref dr7, .ref dr8, .ref dr9])), (dr5, .inl (g.2 0, 8, .inl dmeanings)), (h0, .inr (5, [.ref pr0, .ref pr1, .int pcost, .int pgentle, .int phonest])), (pr0, .inl (g.2 0, 2816, .inl ptable))] H := hP
      have hD : va_D A [(dr4, .inl (g.2 0, 8, .inl dshames)), (m0, .inr (4, [.ref mr0])), (mr0, .inl (g.2 0, 256, .inl mmeans)), (d0, .inr (0, [.int dstates, .int dreally, .int ddays, .int dheal, .int dleak, .int dlines, .int dhearers, .int dwords, .int dplans, .int dnews, .ref dr0, .ref dr1, .ref dr2, .ref dr3, .ref dr4, .ref dr5, .ref dr6, .ref dr7, .ref dr8, .ref dr9])), (dr5, .inl (g.2 0, 8, .inl dmeanings)), (h0, .inr (5, [.ref pr0, .ref pr1, .int pcost, .int pgentle, .int phonest])), (pr0, .inl (g.2 0, 2816, .inl ptable))] := hD
      refine W.eq (g2 := F0 m 43 ls [.int (u23.1 0)]) rfl ?_
      refine lv_istore (lv' := [(7, .int (u23.1 0)), (6, .int (u20.1 0)), (0, .ref h0), (1, .ref d0), (2, .ref m0), (3, .int p3), (4, .int p4), (5, .int p5)]) hx hb dX5_costBy_43 hl (by decide) rfl (fun ls hl => ?_)
      refine lv_iload hx hb dX5_costBy_45 (lv_at hl 0 rfl) ?_
      refine lv_ldc hx hb hown (hB _ b_111) dX5_costBy_47 ?_
      refine lv_icmp_ne (tgt := 55) hx hb dX5_costBy_49 (by decide) (fun c25 => ?_) (fun c25 => ?_)
      · have c25 := k_ne (a := (u23.1 0).toInt) (b := 1000000000) rfl (by decide) c25
        refine lv_aload_n hx hb dX5_costBy_55 rfl (lv_at hl 4 rfl) ?_
        refine lv_iload hx hb dX5_costBy_56 (lv_at hl 7 rfl) ?_
        refine lv_iload hx hb dX5_costBy_58 (lv_at hl 1 rfl) ?_
        refine call_VN (As := [.int p5, .int (u20.1 0)]) (rest := []) (wr := [(dr4, .inl (g.2 0, 8, .inl dshames)), (d0, .inr (0, [.int dstates, .int dreally, .int ddays, .int dheal, .int dleak, .int dlines, .int dhearers, .int dwords, .int dplans, .int dnews, .ref dr0, .ref dr1, .ref dr2, .ref dr3, .ref dr4, .ref dr5, .ref dr6, .ref dr7, .ref dr8, .ref dr9])), (dr5, .inl (g.2 0, 8, .inl dmeanings)), (h0, .inr (5, [.ref pr0, .ref pr1, .int pcost, .int pgentle, .int phonest])), (pr0, .inl (g.2 0, 2816, .inl ptable))]) FC hKn hZ (k_X4_pain l g m0 mr0 mmeans p5 (u20.1 0) (by omega) (by omega)) m_yX4_pain b_112 (ci := 4) rfl rfl rfl hP hD hS hA [1, 2] [0, 3, 4, 5, 6] rfl (by decide) rfl (by decide) (by decide +kernel) rfl hl.1 rfl (Nat.le_of_ble_eq_true rfl) dX5_costBy_60 ⟨(Nat.le_of_ble_eq_true rfl), (Nat.le_of_ble_eq_true rfl)⟩ ⟨(Nat.le_of_ble_eq_true rfl), (Nat.le_of_ble_eq_true rfl)⟩ (fun u26 H locs q27 hP hD hS => ?_)
        have hP : va_P g.1 vwCl [(dr4, .inl (g.2 0, 8, .inl dshames)), (d0, .inr (0, [.int dstates, .int dreally, .int ddays, .int dheal, .int dleak, .int dlines, .int dhearers, .int dwords, .int dplans, .int dnews, .ref dr0, .ref dr1, .ref dr2, .ref dr3, .ref dr4, .ref dr5, .ref dr6, .ref dr7, .ref dr8, .ref dr9])), (dr5, .inl (g.2 0, 8, .inl dmeanings)), (h0, .inr (5, [.ref pr0, .ref pr1, .int pcost, .int pgentle, .int phonest])), (pr0, .inl (g.2 0, 2816, .inl ptable)), (m0, .inr (4, [.ref mr0])), (mr0, .inl (g.2 0, 256, .inl mmeans))] H := hP
        have hD : va_D A [(dr4, .inl (g.2 0, 8, .inl dshames)), (d0, .inr (0, [.int dstates, .int dreally, .int ddays, .int dheal, .int dleak, .int dlines, .int dhearers, .int dwords, .int dplans, .int dnews, .ref dr0, .ref dr1, .ref dr2, .ref dr3, .ref dr4, .ref dr5, .ref dr6, .ref dr7, .ref dr8, .ref dr9])), (dr5, .inl (g.2 0, 8, .inl dmeanings)), (h0, .inr (5, [.ref pr0, .ref pr1, .int pcost, .int pgentle, .int phonest])), (pr0, .inl (g.2 0, 2816, .inl ptable)), (m0, .inr (4, [.ref mr0])), (mr0, .inl (g.2 0, 256, .inl mmeans))] := hD
        refine W.eq (g2 := F0 m 63 ls [.int (u26.1 0)]) rfl ?_
        refine lv_istore (lv' := [(8, .int (u26.1 0)), (7, .int (u23.1 0)), (6, .int (u20.1 0)), (0, .ref h0), (1, .ref d0), (2, .ref m0), (3, .int p3), (4, .int p4), (5, .int p5)]) hx hb dX5_costBy_63 hl (by decide) rfl (fun ls hl => ?_)
        refine lv_aload_n hx hb dX5_costBy_65 rfl (lv_at hl 3 rfl) ?_
        refine g_get (C := RX5) (T := TX5) (N := 5) (ci := 5) (v := .int pgentle) FC hKn hP i_X5 3 rfl rfl 3 (by decide) b_113 rfl dX5_costBy_66 ?_
        refine lv_if_eq (tgt := 80) hx hb dX5_costBy_69 (by decide) (fun c28 => ?_) (fun c28 => ?_)
        · have c28 := k_eq (a := pgentle.toInt) (b := 0) rfl (by decide) c28
          refine lv_aload_n hx hb dX5_costBy_80 rfl (lv_at hl 4 rfl) ?_
          refine lv_iload hx hb dX5_costBy_81 (lv_at hl 0 rfl) ?_
          refine lv_iload hx hb dX5_costBy_83 (lv_at hl 7 rfl) ?_
          refine lv_iconst (v := 1) hx hb dX5_costBy_85 (by decide) ?_
          refine lv_isub hx hb dX5_costBy_86 ?_
          refine lv_topi (fun z29 e_z29 => ?_)
          have t_z29 : z29.toInt = p4.toInt - ((1 : Int32)).toInt := by rw [e_z29]; exact fb_subI (by omega) (by omega)
          refine call_VN (As := [.int (u26.1 0), .int z29]) (rest := []) (wr := [(dr4, .inl (g.2 0, 8, .inl dshames)), (dr5, .inl (g.2 0, 8, .inl dmeanings)), (h0, .inr (5, [.ref pr0, .ref pr1, .int pcost, .int pgentle, .int phonest])), (pr0, .inl (g.2 0, 2816, .inl ptable)), (m0, .inr (4, [.ref mr0])), (mr0, .inl (g.2 0, 256, .inl mmeans))]) FC hKn hZ (k_X0_leftOf l g d0 dr0 dr1 dr2 dr3 dr4 dr5 dr6 dr7 dr8 dr9 dstates dreally ddays dheal dleak dlines dhearers dwords dplans dnews (u26.1 0) z29 (by omega) (by omega) (by omega) (by omega) (by omega) (by omega) (by omega)) m_yX0_leftOf b_114 (ci := 0) rfl rfl rfl hP hD hS hA [1] [0, 2, 3, 4, 5, 6] rfl (by decide) rfl (by decide) (by decide +kernel) rfl hl.1 rfl (Nat.le_of_ble_eq_true rfl) dX5_costBy_87 ⟨(Nat.le_of_ble_eq_true rfl), (Nat.le_of_ble_eq_true rfl)⟩ ⟨(Nat.le_of_ble_eq_true rfl), (Nat.le_of_ble_eq_true rfl)⟩ (fun u30 H locs q31 hP hD hS => ?_)
          have hP : va_P g.1 vwCl [(dr4, .inl (g.2 0, 8, .inl dshames)), (dr5, .inl (g.2 0, 8, .inl dmeanings)), (h0, .inr (5, [.ref pr0, .ref pr1, .int pcost, .int pgentle, .int phonest])), (pr0, .inl (g.2 0, 2816, .inl ptable)), (m0, .inr (4, [.ref mr0])), (mr0, .inl (g.2 0, 256, .inl mmeans)), (d0, .inr (0, [.int dstates, .int dreally, .int ddays, .int dheal, .int dleak, .int dlines, .int dhearers, .int dwords, .int dplans, .int dnews, .ref dr0, .ref dr1, .ref dr2, .ref dr3, .ref dr4, .ref dr5, .ref dr6, .ref dr7, .ref dr8, .ref dr9]))] H := hP
          have hD : va_D A [(dr4, .inl (g.2 0, 8, .inl dshames)), (dr5, .inl (g.2 0, 8, .inl dmeanings)), (h0, .inr (5, [.ref pr0, .ref pr1, .int pcost, .int pgentle, .int phonest])), (pr0, .inl (g.2 0, 2816, .inl ptable)), (m0, .inr (4, [.ref mr0])), (mr0, .inl (g.2 0, 256, .inl mmeans)), (d0, .inr (0, [.int dstates, .int dreally, .int ddays, .int dheal, .int dleak, .int dlines, .int dhearers, .int dwords, .int dplans, .int dnews, .ref dr0, .ref dr1, .ref dr2, .ref dr3, .ref dr4, .ref dr5, .ref dr6, .ref dr7, .ref dr8, .ref dr9]))] := hD
          refine W.eq (g2 := F0 m 90 ls [.int (u30.1 0)]) rfl ?_
          refine lv_aload_n hx hb dX5_costBy_90 rfl (lv_at hl 4 rfl) ?_
          refine lv_iload_n hx hb dX5_costBy_91 rfl (lv_at hl 6 rfl) ?_
          refine call_VN (As := [.int p3]) (rest := [.int (u30.1 0)]) (wr := [(h0, .inr (5, [.ref pr0, .ref pr1, .int pcost, .int pgentle, .int phonest])), (pr0, .inl (g.2 0, 2816, .inl ptable)), (m0, .inr (4, [.ref mr0])), (mr0, .inl (g.2 0, 256, .inl mmeans))]) FC hKn hZ (k_X0_shameOf l g d0 dr0 dr1 dr2 dr3 dr4 dr5 dr6 dr7 dr8 dr9 dstates dreally ddays dheal dleak dlines dhearers dwords dplans dnews dmeanings dshames p3 (by omega) (by omega) (by omega) (by omega) (by omega) (by omega) (by omega) i_dmeanings) m_yX0_shameOf b_115 (ci := 0) rfl rfl rfl hP hD hS hA [6, 1, 0] [2, 3, 4, 5] rfl (by decide) rfl (by decide) (by decide +kernel) rfl hl.1 rfl (Nat.le_of_ble_eq_true rfl) dX5_costBy_92 ⟨(Nat.le_of_ble_eq_true rfl), (Nat.le_of_ble_eq_true rfl)⟩ ⟨(Nat.le_of_ble_eq_true rfl), (Nat.le_of_ble_eq_true rfl)⟩ (fun u32 H locs q33 hP hD hS => ?_)
          have hP : va_P g.1 vwCl [(h0, .inr (5, [.ref pr0, .ref pr1, .int pcost, .int pgentle, .int phonest])), (pr0, .inl (g.2 0, 2816, .inl ptable)), (m0, .inr (4, [.ref mr0])), (mr0, .inl (g.2 0, 256, .inl mmeans)), (d0, .inr (0, [.int dstates, .int dreally, .int ddays, .int dheal, .int dleak, .int dlines, .int dhearers, .int dwords, .int dplans, .int dnews, .ref dr0, .ref dr1, .ref dr2, .ref dr3, .ref dr4, .ref dr5, .ref dr6, .ref dr7, .ref dr8, .ref dr9])), (dr5, .inl (g.2 0, 8, .inl dmeanings)), (dr4, .inl (g.2 0, 8, .inl dshames))] H := hP
          have hD : va_D A [(h0, .inr (5, [.ref pr0, .ref pr1, .int pcost, .int pgentle, .int phonest])), (pr0, .inl (g.2 0, 2816, .inl ptable)), (m0, .inr (4, [.ref mr0])), (mr0, .inl (g.2 0, 256, .inl mmeans)), (d0, .inr (0, [.int dstates, .int dreally, .int ddays, .int dheal, .int dleak, .int dlines, .int dhearers, .int dwords, .int dplans, .int dnews, .ref dr0, .ref dr1, .ref dr2, .ref dr3, .ref dr4, .ref dr5, .ref dr6, .ref dr7, .ref dr8, .ref dr9])), (dr5, .inl (g.2 0, 8, .inl dmeanings)), (dr4, .inl (g.2 0, 8, .inl dshames))] := hD
          refine W.eq (g2 := F0 m 95 ls [.int (u32.1 0), .int (u30.1 0)]) rfl ?_
          refine lv_iadd hx hb dX5_costBy_95 ?_
          refine lv_topi (fun z34 e_z34 => ?_)
          refine lv_iload hx hb dX5_costBy_96 (lv_at hl 1 rfl) ?_
          refine lv_iadd hx hb dX5_costBy_98 ?_
          refine lv_topi (fun z35 e_z35 => ?_)
          exact rt_i FX ((fun k => match k with | 0 => z35 | _ => 0), (fun _ => fun _ => 0), (fun _ => fun _ => 0)) rfl trivial (hP.sub [0, 1, 4, 5, 6, 2, 3] rfl) (hD.sub [0, 1, 4, 5, 6, 2, 3] (by decide +kernel) rfl) hS (Nat.le_of_ble_eq_true rfl) (Nat.le_of_ble_eq_true rfl) dX5_costBy_99
        · have c28 := k_ne (a := pgentle.toInt) (b := 0) rfl (by decide) c28
          refine lv_iload hx hb dX5_costBy_72 (lv_at hl 0 rfl) ?_
          refine lv_iload hx hb dX5_costBy_74 (lv_at hl 1 rfl) ?_
          refine va_mmax hx hb (by rw [hml]; exact hl.1.symm) hown (hB _ b_116) (hB _ b_57) (hB _ b_58) (hB _ b_59) (Nat.le_of_ble_eq_true rfl) (Nat.le_of_ble_eq_true rfl) (Nat.le_of_ble_eq_true rfl) (Nat.le_of_ble_eq_true rfl) dX5_costBy_76 ?_
          refine lv_topi (fun z36 e_z36 => ?_)
          have t_z36 : ((u26.1 0).toInt ≤ z36.toInt ∧ (u23.1 0).toInt ≤ z36.toInt ∧ (z36.toInt = (u26.1 0).toInt ∨ z36.toInt = (u23.1 0).toInt)) := by rw [e_z36]; exact mmax_b _ _
          exact rt_i FX ((fun k => match k with | 0 => z36 | _ => 0), (fun _ => fun _ => 0), (fun _ => fun _ => 0)) rfl trivial (hP.sub [3, 4, 1, 2, 0, 5, 6] rfl) (hD.sub [3, 4, 1, 2, 0, 5, 6] (by decide +kernel) rfl) hS (Nat.le_of_ble_eq_true rfl) (Nat.le_of_ble_eq_true rfl) dX5_costBy_79
      · have c25 := k_eq (a := (u23.1 0).toInt) (b := 1000000000) rfl (by decide) c25
        refine lv_ldc hx hb hown (hB _ b_111) dX5_costBy_52 ?_
        exact rt_i FX ((fun k => match k with | 0 => (1000000000 : Int32) | _ => 0), (fun _ => fun _ => 0), (fun _ => fun _ => 0)) rfl trivial (hP.sub [5, 6, 3, 4, 0, 1, 2] rfl) (hD.sub [5, 6, 3, 4, 0, 1, 2] (by decide +kernel) rfl) hS (Nat.le_of_ble_eq_true rfl) (Nat.le_of_ble_eq_true rfl) dX5_costBy_54
    · have c19 := k_ne (a := p3.toInt) (b := 8) rfl (by decide) c19
      refine lv_aload_n hx hb dX5_costBy_13 rfl (lv_at hl 1 rfl) ?_
      refine lv_iload_n hx hb dX5_costBy_14 rfl (lv_at hl 3 rfl) ?_
      refine call_VN (As := [.int p3]) (rest := []) (wr := [(h0, .inr (5, [.ref pr0, .ref pr1, .int pcost, .int pgentle, .int phonest])), (pr0, .inl (g.2 0, 2816, .inl ptable)), (dr4, .inl (g.2 0, 8, .inl dshames)), (m0, .inr (4, [.ref mr0])), (mr0, .inl (g.2 0, 256, .inl mmeans))]) FC hKn hZ (k_X0_isTrue l g d0 dr0 dr1 dr2 dr3 dr4 dr5 dr6 dr7 dr8 dr9 dstates dreally ddays dheal dleak dlines dhearers dwords dplans dnews dmeanings p3 (by omega) (by omega) (by omega) (by omega) (by omega) (by omega) (by omega) i_dmeanings (by omega)) m_yX0_isTrue b_117 (ci := 0) rfl rfl rfl hP hD hS hA [2, 3] [0, 1, 4, 5, 6] rfl (by decide) rfl (by decide) (by decide +kernel) rfl hl.1 rfl (Nat.le_of_ble_eq_true rfl) dX5_costBy_15 ⟨(Nat.le_of_ble_eq_true rfl), (Nat.le_of_ble_eq_true rfl)⟩ ⟨(Nat.le_of_ble_eq_true rfl), (Nat.le_of_ble_eq_true rfl)⟩ (fun u37 H locs q38 hP hD hS => ?_)
      have q38_0 : 0 ≤ (u37.1 0).toInt ∧ (u37.1 0).toInt ≤ 1 := q38
      have hP : va_P g.1 vwCl [(h0, .inr (5, [.ref pr0, .ref pr1, .int pcost, .int pgentle, .int phonest])), (pr0, .inl (g.2 0, 2816, .inl ptable)), (dr4, .inl (g.2 0, 8, .inl dshames)), (m0, .inr (4, [.ref mr0])), (mr0, .inl (g.2 0, 256, .inl mmeans)), (d0, .inr (0, [.int dstates, .int dreally, .int ddays, .int dheal, .int dleak, .int dlines, .int dhearers, .int dwords, .int dplans, .int dnews, .ref dr0, .ref dr1, .ref dr2, .ref dr3, .ref dr4, .ref dr5, .ref dr6, .ref dr7, .ref dr8, .ref dr9])), (dr5, .inl (g.2 0, 8, .inl dmeanings))] H := hP
      have hD : va_D A [(h0, .inr (5, [.ref pr0, .ref pr1, .int pcost, .int pgentle, .int phonest])), (pr0, .inl (g.2 0, 2816, .inl ptable)), (dr4, .inl (g.2 0, 8, .inl dshames)), (m0, .inr (4, [.ref mr0])), (mr0, .inl (g.2 0, 256, .inl mmeans)), (d0, .inr (0, [.int dstates, .int dreally, .int ddays, .int dheal, .int dleak, .int dlines, .int dhearers, .int dwords, .int dplans, .int dnews, .ref dr0, .ref dr1, .ref dr2, .ref dr3, .ref dr4, .ref dr5, .ref dr6, .ref dr7, .ref dr8, .ref dr9])), (dr5, .inl (g.2 0, 8, .inl dmeanings))] := hD
      refine W.eq (g2 := F0 m 18 ls [.int (u37.1 0)]) rfl ?_
      refine lv_if_ne (tgt := 24) hx hb dX5_costBy_18 (by decide) (fun c39 => ?_) (fun c39 => ?_)
      · have c39 := k_ne (a := (u37.1 0).toInt) (b := 0) rfl (by decide) c39
        refine lv_aload_n hx hb dX5_costBy_24 rfl (lv_at hl 1 rfl) ?_
        refine lv_iload hx hb dX5_costBy_25 (lv_at hl 5 rfl) ?_
        refine lv_iload_n hx hb dX5_costBy_27 rfl (lv_at hl 3 rfl) ?_
        refine call_VN (As := [.int p5, .int p3]) (rest := []) (wr := [(h0, .inr (5, [.ref pr0, .ref pr1, .int pcost, .int pgentle, .int phonest])), (pr0, .inl (g.2 0, 2816, .inl ptable)), (dr4, .inl (g.2 0, 8, .inl dshames)), (m0, .inr (4, [.ref mr0])), (mr0, .inl (g.2 0, 256, .inl mmeans))]) FC hKn hZ (k_X0_nextBelief l g d0 dr0 dr1 dr2 dr3 dr4 dr5 dr6 dr7 dr8 dr9 dstates dreally ddays dheal dleak dlines dhearers dwords dplans dnews dmeanings p5 p3 (by omega) (by omega) (by omega) (by omega) (by omega) (by omega) (by omega) i_dmeanings (by omega)) m_yX0_nextBelief b_109 (ci := 0) rfl rfl rfl hP hD hS hA [5, 6] [0, 1, 2, 3, 4] rfl (by decide) rfl (by decide) (by decide +kernel) rfl hl.1 rfl (Nat.le_of_ble_eq_true rfl) dX5_costBy_28 ⟨(Nat.le_of_ble_eq_true rfl), (Nat.le_of_ble_eq_true rfl)⟩ ⟨(Nat.le_of_ble_eq_true rfl), (Nat.le_of_ble_eq_true rfl)⟩ (fun u40 H locs q41 hP hD hS => ?_)
        have q41_0 : 0 ≤ (u40.1 0).toInt ∧ (u40.1 0).toInt ≤ 255 := q41
        have hP : va_P g.1 vwCl [(h0, .inr (5, [.ref pr0, .ref pr1, .int pcost, .int pgentle, .int phonest])), (pr0, .inl (g.2 0, 2816, .inl ptable)), (dr4, .inl (g.2 0, 8, .inl dshames)), (m0, .inr (4, [.ref mr0])), (mr0, .inl (g.2 0, 256, .inl mmeans)), (d0, .inr (0, [.int dstates, .int dreally, .int ddays, .int dheal, .int dleak, .int dlines, .int dhearers, .int dwords, .int dplans, .int dnews, .ref dr0, .ref dr1, .ref dr2, .ref dr3, .ref dr4, .ref dr5, .ref dr6, .ref dr7, .ref dr8, .ref dr9])), (dr5, .inl (g.2 0, 8, .inl dmeanings))] H := hP
        have hD : va_D A [(h0, .inr (5, [.ref pr0, .ref pr1, .int pcost, .int pgentle, .int phonest])), (pr0, .inl (g.2 0, 2816, .inl ptable)), (dr4, .inl (g.2 0, 8, .inl dshames)), (m0, .inr (4, [.ref mr0])), (mr0, .inl (g.2 0, 256, .inl mmeans)), (d0, .inr (0, [.int dstates, .int dreally, .int ddays, .int dheal, .int dleak, .int dlines, .int dhearers, .int dwords, .int dplans, .int dnews, .ref dr0, .ref dr1, .ref dr2, .ref dr3, .ref dr4, .ref dr5, .ref dr6, .ref dr7, .ref dr8, .ref dr9])), (dr5, .inl (g.2 0, 8, .inl dmeanings))] := hD
        refine W.eq (g2 := F0 m 31 ls [.int (u40.1 0)]) rfl ?_
        refine lv_istore (lv' := [(6, .int (u40.1 0)), (0, .ref h0), (1, .ref d0), (2, .ref m0), (3, .int p3), (4, .int p4), (5, .int p5)]) hx hb dX5_costBy_31 hl (by decide) rfl (fun ls hl => ?_)
        refine lv_aload_n hx hb dX5_costBy_33 rfl (lv_at hl 1 rfl) ?_
        refine lv_iload hx hb dX5_costBy_34 (lv_at hl 5 rfl) ?_
        refine lv_iconst (v := 1) hx hb dX5_costBy_36 (by decide) ?_
        refine lv_isub hx hb dX5_costBy_37 ?_
        have kc1 : (1 : Int32).toInt = 1 := by decide
        refine lv_topi (fun z42 e_z42 => ?_)
        have t_z42 : z42.toInt = p4.toInt - ((1 : Int32)).toInt := by rw [e_z42]; exact fb_subI (by omega) (by omega)
        refine lv_iload hx hb dX5_costBy_38 (lv_at hl 0 rfl) ?_
        refine call_V (As := [.int z42, .int (u40.1 0)]) (rest := []) (wr := [(dr4, .inl (g.2 0, 8, .inl dshames)), (m0, .inr (4, [.ref mr0])), (mr0, .inl (g.2 0, 256, .inl mmeans)), (d0, .inr (0, [.int dstates, .int dreally, .int ddays, .int dheal, .int dleak, .int dlines, .int dhearers, .int dwords, .int dplans, .int dnews, .ref dr0, .ref dr1, .ref dr2, .ref dr3, .ref dr4, .ref dr5, .ref dr6, .ref dr7, .ref dr8, .ref dr9])), (dr5, .inl (g.2 0, 8, .inl dmeanings))]) FC hKn hZ (k_X5_costWithDays l g h0 pr0 pr1 pcost pgentle phonest ptable z42 (u40.1 0) (by omega) (by omega) (by omega) (by omega)) m_yX5_costWithDays b_110 (ci := 5) rfl rfl rfl hP hD hS hA [0, 1] [2, 3, 4, 5, 6] rfl (by decide) rfl (by decide) (by decide +kernel) rfl hl.1 rfl (Nat.le_of_ble_eq_true rfl) dX5_costBy_40 ⟨(Nat.le_of_ble_eq_true rfl), (Nat.le_of_ble_eq_true rfl)⟩ ⟨(Nat.le_of_ble_eq_true rfl), (Nat.le_of_ble_eq_true rfl)⟩ (fun u43 H locs q44 hP hD hS => ?_)
        have hP : va_P g.1 vwCl [(dr4, .inl (g.2 0, 8, .inl dshames)), (m0, .inr (4, [.ref mr0])), (mr0, .inl (g.2 0, 256, .inl mmeans)), (d0, .inr (0, [.int dstates, .int dreally, .int ddays, .int dheal, .int dleak, .int dlines, .int dhearers, .int dwords, .int dplans, .int dnews, .ref dr0, .ref dr1, .ref dr2, .ref dr3, .ref dr4, .ref dr5, .ref dr6, .ref dr7, .ref dr8, .ref dr9])), (dr5, .inl (g.2 0, 8, .inl dmeanings)), (h0, .inr (5, [.ref pr0, .ref pr1, .int pcost, .int pgentle, .int phonest])), (pr0, .inl (g.2 0, 2816, .inl ptable))] H := hP
        have hD : va_D A [(dr4, .inl (g.2 0, 8, .inl dshames)), (m0, .inr (4, [.ref mr0])), (mr0, .inl (g.2 0, 256, .inl mmeans)), (d0, .inr (0, [.int dstates, .int dreally, .int ddays, .int dheal, .int dleak, .int dlines, .int dhearers, .int dwords, .int dplans, .int dnews, .ref dr0, .ref dr1, .ref dr2, .ref dr3, .ref dr4, .ref dr5, .ref dr6, .ref dr7, .ref dr8, .ref dr9])), (dr5, .inl (g.2 0, 8, .inl dmeanings)), (h0, .inr (5, [.ref pr0, .ref pr1, .int pcost, .int pgentle, .int phonest])), (pr0, .inl (g.2 0, 2816, .inl ptable))] := hD
        refine W.eq (g2 := F0 m 43 ls [.int (u43.1 0)]) rfl ?_
        refine lv_istore (lv' := [(7, .int (u43.1 0)), (6, .int (u40.1 0)), (0, .ref h0), (1, .ref d0), (2, .ref m0), (3, .int p3), (4, .int p4), (5, .int p5)]) hx hb dX5_costBy_43 hl (by decide) rfl (fun ls hl => ?_)
        refine lv_iload hx hb dX5_costBy_45 (lv_at hl 0 rfl) ?_
        refine lv_ldc hx hb hown (hB _ b_111) dX5_costBy_47 ?_
        refine lv_icmp_ne (tgt := 55) hx hb dX5_costBy_49 (by decide) (fun c45 => ?_) (fun c45 => ?_)
        · have c45 := k_ne (a := (u43.1 0).toInt) (b := 1000000000) rfl (by decide) c45
          refine lv_aload_n hx hb dX5_costBy_55 rfl (lv_at hl 4 rfl) ?_
          refine lv_iload hx hb dX5_costBy_56 (lv_at hl 7 rfl) ?_
          refine lv_iload hx hb dX5_costBy_58 (lv_at hl 1 rfl) ?_
          refine call_VN (As := [.int p5, .int (u40.1 0)]) (rest := []) (wr := [(dr4, .inl (g.2 0, 8, .inl dshames)), (d0, .inr (0, [.int dstates, .int dreally, .int ddays, .int dheal, .int dleak, .int dlines, .int dhearers, .int dwords, .int dplans, .int dnews, .ref dr0, .ref dr1, .ref dr2, .ref dr3, .ref dr4, .ref dr5, .ref dr6, .ref dr7, .ref dr8, .ref dr9])), (dr5, .inl (g.2 0, 8, .inl dmeanings)), (h0, .inr (5, [.ref pr0, .ref pr1, .int pcost, .int pgentle, .int phonest])), (pr0, .inl (g.2 0, 2816, .inl ptable))]) FC hKn hZ (k_X4_pain l g m0 mr0 mmeans p5 (u40.1 0) (by omega) (by omega)) m_yX4_pain b_112 (ci := 4) rfl rfl rfl hP hD hS hA [1, 2] [0, 3, 4, 5, 6] rfl (by decide) rfl (by decide) (by decide +kernel) rfl hl.1 rfl (Nat.le_of_ble_eq_true rfl) dX5_costBy_60 ⟨(Nat.le_of_ble_eq_true rfl), (Nat.le_of_ble_eq_true rfl)⟩ ⟨(Nat.le_of_ble_eq_true rfl), (Nat.le_of_ble_eq_true rfl)⟩ (fun u46 H locs q47 hP hD hS => ?_)
          have hP : va_P g.1 vwCl [(dr4, .inl (g.2 0, 8, .inl dshames)), (d0, .inr (0, [.int dstates, .int dreally, .int ddays, .int dheal, .int dleak, .int dlines, .int dhearers, .int dwords, .int dplans, .int dnews, .ref dr0, .ref dr1, .ref dr2, .ref dr3, .ref dr4, .ref dr5, .ref dr6, .ref dr7, .ref dr8, .ref dr9])), (dr5, .inl (g.2 0, 8, .inl dmeanings)), (h0, .inr (5, [.ref pr0, .ref pr1, .int pcost, .int pgentle, .int phonest])), (pr0, .inl (g.2 0, 2816, .inl ptable)), (m0, .inr (4, [.ref mr0])), (mr0, .inl (g.2 0, 256, .inl mmeans))] H := hP
          have hD : va_D A [(dr4, .inl (g.2 0, 8, .inl dshames)), (d0, .inr (0, [.int dstates, .int dreally, .int ddays, .int dheal, .int dleak, .int dlines, .int dhearers, .int dwords, .int dplans, .int dnews, .ref dr0, .ref dr1, .ref dr2, .ref dr3, .ref dr4, .ref dr5, .ref dr6, .ref dr7, .ref dr8, .ref dr9])), (dr5, .inl (g.2 0, 8, .inl dmeanings)), (h0, .inr (5, [.ref pr0, .ref pr1, .int pcost, .int pgentle, .int phonest])), (pr0, .inl (g.2 0, 2816, .inl ptable)), (m0, .inr (4, [.ref mr0])), (mr0, .inl (g.2 0, 256, .inl mmeans))] := hD
          refine W.eq (g2 := F0 m 63 ls [.int (u46.1 0)]) rfl ?_
          refine lv_istore (lv' := [(8, .int (u46.1 0)), (7, .int (u43.1 0)), (6, .int (u40.1 0)), (0, .ref h0), (1, .ref d0), (2, .ref m0), (3, .int p3), (4, .int p4), (5, .int p5)]) hx hb dX5_costBy_63 hl (by decide) rfl (fun ls hl => ?_)
          refine lv_aload_n hx hb dX5_costBy_65 rfl (lv_at hl 3 rfl) ?_
          refine g_get (C := RX5) (T := TX5) (N := 5) (ci := 5) (v := .int pgentle) FC hKn hP i_X5 3 rfl rfl 3 (by decide) b_113 rfl dX5_costBy_66 ?_
          refine lv_if_eq (tgt := 80) hx hb dX5_costBy_69 (by decide) (fun c48 => ?_) (fun c48 => ?_)
          · have c48 := k_eq (a := pgentle.toInt) (b := 0) rfl (by decide) c48
            refine lv_aload_n hx hb dX5_costBy_80 rfl (lv_at hl 4 rfl) ?_
            refine lv_iload hx hb dX5_costBy_81 (lv_at hl 0 rfl) ?_
            refine lv_iload hx hb dX5_costBy_83 (lv_at hl 7 rfl) ?_
            refine lv_iconst (v := 1) hx hb dX5_costBy_85 (by decide) ?_
            refine lv_isub hx hb dX5_costBy_86 ?_
            refine lv_topi (fun z49 e_z49 => ?_)
            have t_z49 : z49.toInt = p4.toInt - ((1 : Int32)).toInt := by rw [e_z49]; exact fb_subI (by omega) (by omega)
            refine call_VN (As := [.int (u46.1 0), .int z49]) (rest := []) (wr := [(dr4, .inl (g.2 0, 8, .inl dshames)), (dr5, .inl (g.2 0, 8, .inl dmeanings)), (h0, .inr (5, [.ref pr0, .ref pr1, .int pcost, .int pgentle, .int phonest])), (pr0, .inl (g.2 0, 2816, .inl ptable)), (m0, .inr (4, [.ref mr0])), (mr0, .inl (g.2 0, 256, .inl mmeans))]) FC hKn hZ (k_X0_leftOf l g d0 dr0 dr1 dr2 dr3 dr4 dr5 dr6 dr7 dr8 dr9 dstates dreally ddays dheal dleak dlines dhearers dwords dplans dnews (u46.1 0) z49 (by omega) (by omega) (by omega) (by omega) (by omega) (by omega) (by omega)) m_yX0_leftOf b_114 (ci := 0) rfl rfl rfl hP hD hS hA [1] [0, 2, 3, 4, 5, 6] rfl (by decide) rfl (by decide) (by decide +kernel) rfl hl.1 rfl (Nat.le_of_ble_eq_true rfl) dX5_costBy_87 ⟨(Nat.le_of_ble_eq_true rfl), (Nat.le_of_ble_eq_true rfl)⟩ ⟨(Nat.le_of_ble_eq_true rfl), (Nat.le_of_ble_eq_true rfl)⟩ (fun u50 H locs q51 hP hD hS => ?_)
            have hP : va_P g.1 vwCl [(dr4, .inl (g.2 0, 8, .inl dshames)), (dr5, .inl (g.2 0, 8, .inl dmeanings)), (h0, .inr (5, [.ref pr0, .ref pr1, .int pcost, .int pgentle, .int phonest])), (pr0, .inl (g.2 0, 2816, .inl ptable)), (m0, .inr (4, [.ref mr0])), (mr0, .inl (g.2 0, 256, .inl mmeans)), (d0, .inr (0, [.int dstates, .int dreally, .int ddays, .int dheal, .int dleak, .int dlines, .int dhearers, .int dwords, .int dplans, .int dnews, .ref dr0, .ref dr1, .ref dr2, .ref dr3, .ref dr4, .ref dr5, .ref dr6, .ref dr7, .ref dr8, .ref dr9]))] H := hP
            have hD : va_D A [(dr4, .inl (g.2 0, 8, .inl dshames)), (dr5, .inl (g.2 0, 8, .inl dmeanings)), (h0, .inr (5, [.ref pr0, .ref pr1, .int pcost, .int pgentle, .int phonest])), (pr0, .inl (g.2 0, 2816, .inl ptable)), (m0, .inr (4, [.ref mr0])), (mr0, .inl (g.2 0, 256, .inl mmeans)), (d0, .inr (0, [.int dstates, .int dreally, .int ddays, .int dheal, .int dleak, .int dlines, .int dhearers, .int dwords, .int dplans, .int dnews, .ref dr0, .ref dr1, .ref dr2, .ref dr3, .ref dr4, .ref dr5, .ref dr6, .ref dr7, .ref dr8, .ref dr9]))] := hD
            refine W.eq (g2 := F0 m 90 ls [.int (u50.1 0)]) rfl ?_
            refine lv_aload_n hx hb dX5_costBy_90 rfl (lv_at hl 4 rfl) ?_
            refine lv_iload_n hx hb dX5_costBy_91 rfl (lv_at hl 6 rfl) ?_
            refine call_VN (As := [.int p3]) (rest := [.int (u50.1 0)]) (wr := [(h0, .inr (5, [.ref pr0, .ref pr1, .int pcost, .int pgentle, .int phonest])), (pr0, .inl (g.2 0, 2816, .inl ptable)), (m0, .inr (4, [.ref mr0])), (mr0, .inl (g.2 0, 256, .inl mmeans))]) FC hKn hZ (k_X0_shameOf l g d0 dr0 dr1 dr2 dr3 dr4 dr5 dr6 dr7 dr8 dr9 dstates dreally ddays dheal dleak dlines dhearers dwords dplans dnews dmeanings dshames p3 (by omega) (by omega) (by omega) (by omega) (by omega) (by omega) (by omega) i_dmeanings) m_yX0_shameOf b_115 (ci := 0) rfl rfl rfl hP hD hS hA [6, 1, 0] [2, 3, 4, 5] rfl (by decide) rfl (by decide) (by decide +kernel) rfl hl.1 rfl (Nat.le_of_ble_eq_true rfl) dX5_costBy_92 ⟨(Nat.le_of_ble_eq_true rfl), (Nat.le_of_ble_eq_true rfl)⟩ ⟨(Nat.le_of_ble_eq_true rfl), (Nat.le_of_ble_eq_true rfl)⟩ (fun u52 H locs q53 hP hD hS => ?_)
            have hP : va_P g.1 vwCl [(h0, .inr (5, [.ref pr0, .ref pr1, .int pcost, .int pgentle, .int phonest])), (pr0, .inl (g.2 0, 2816, .inl ptable)), (m0, .inr (4, [.ref mr0])), (mr0, .inl (g.2 0, 256, .inl mmeans)), (d0, .inr (0, [.int dstates, .int dreally, .int ddays, .int dheal, .int dleak, .int dlines, .int dhearers, .int dwords, .int dplans, .int dnews, .ref dr0, .ref dr1, .ref dr2, .ref dr3, .ref dr4, .ref dr5, .ref dr6, .ref dr7, .ref dr8, .ref dr9])), (dr5, .inl (g.2 0, 8, .inl dmeanings)), (dr4, .inl (g.2 0, 8, .inl dshames))] H := hP
            have hD : va_D A [(h0, .inr (5, [.ref pr0, .ref pr1, .int pcost, .int pgentle, .int phonest])), (pr0, .inl (g.2 0, 2816, .inl ptable)), (m0, .inr (4, [.ref mr0])), (mr0, .inl (g.2 0, 256, .inl mmeans)), (d0, .inr (0, [.int dstates, .int dreally, .int ddays, .int dheal, .int dleak, .int dlines, .int dhearers, .int dwords, .int dplans, .int dnews, .ref dr0, .ref dr1, .ref dr2, .ref dr3, .ref dr4, .ref dr5, .ref dr6, .ref dr7, .ref dr8, .ref dr9])), (dr5, .inl (g.2 0, 8, .inl dmeanings)), (dr4, .inl (g.2 0, 8, .inl dshames))] := hD
            refine W.eq (g2 := F0 m 95 ls [.int (u52.1 0), .int (u50.1 0)]) rfl ?_
            refine lv_iadd hx hb dX5_costBy_95 ?_
            refine lv_topi (fun z54 e_z54 => ?_)
            refine lv_iload hx hb dX5_costBy_96 (lv_at hl 1 rfl) ?_
            refine lv_iadd hx hb dX5_costBy_98 ?_
            refine lv_topi (fun z55 e_z55 => ?_)
            exact rt_i FX ((fun k => match k with | 0 => z55 | _ => 0), (fun _ => fun _ => 0), (fun _ => fun _ => 0)) rfl trivial (hP.sub [0, 1, 4, 5, 6, 2, 3] rfl) (hD.sub [0, 1, 4, 5, 6, 2, 3] (by decide +kernel) rfl) hS (Nat.le_of_ble_eq_true rfl) (Nat.le_of_ble_eq_true rfl) dX5_costBy_99
          · have c48 := k_ne (a := pgentle.toInt) (b := 0) rfl (by decide) c48
            refine lv_iload hx hb dX5_costBy_72 (lv_at hl 0 rfl) ?_
            refine lv_iload hx hb dX5_costBy_74 (lv_at hl 1 rfl) ?_
            refine va_mmax hx hb (by rw [hml]; exact hl.1.symm) hown (hB _ b_116) (hB _ b_57) (hB _ b_58) (hB _ b_59) (Nat.le_of_ble_eq_true rfl) (Nat.le_of_ble_eq_true rfl) (Nat.le_of_ble_eq_true rfl) (Nat.le_of_ble_eq_true rfl) dX5_costBy_76 ?_
            refine lv_topi (fun z56 e_z56 => ?_)
            have t_z56 : ((u46.1 0).toInt ≤ z56.toInt ∧ (u43.1 0).toInt ≤ z56.toInt ∧ (z56.toInt = (u46.1 0).toInt ∨ z56.toInt = (u43.1 0).toInt)) := by rw [e_z56]; exact mmax_b _ _
            exact rt_i FX ((fun k => match k with | 0 => z56 | _ => 0), (fun _ => fun _ => 0), (fun _ => fun _ => 0)) rfl trivial (hP.sub [3, 4, 1, 2, 0, 5, 6] rfl) (hD.sub [3, 4, 1, 2, 0, 5, 6] (by decide +kernel) rfl) hS (Nat.le_of_ble_eq_true rfl) (Nat.le_of_ble_eq_true rfl) dX5_costBy_79
        · have c45 := k_eq (a := (u43.1 0).toInt) (b := 1000000000) rfl (by decide) c45
          refine lv_ldc hx hb hown (hB _ b_111) dX5_costBy_52 ?_
          exact rt_i FX ((fun k => match k with | 0 => (1000000000 : Int32) | _ => 0), (fun _ => fun _ => 0), (fun _ => fun _ => 0)) rfl trivial (hP.sub [5, 6, 3, 4, 0, 1, 2] rfl) (hD.sub [5, 6, 3, 4, 0, 1, 2] (by decide +kernel) rfl) hS (Nat.le_of_ble_eq_true rfl) (Nat.le_of_ble_eq_true rfl) dX5_costBy_54
      · have c39 := k_eq (a := (u37.1 0).toInt) (b := 0) rfl (by decide) c39
        refine lv_ldc hx hb hown (hB _ b_111) dX5_costBy_21 ?_
        exact rt_i FX ((fun k => match k with | 0 => (1000000000 : Int32) | _ => 0), (fun _ => fun _ => 0), (fun _ => fun _ => 0)) rfl trivial (hP.sub [0, 1, 5, 6, 2, 3, 4] rfl) (hD.sub [0, 1, 5, 6, 2, 3, 4] (by decide +kernel) rfl) hS (Nat.le_of_ble_eq_true rfl) (Nat.le_of_ble_eq_true rfl) dX5_costBy_23
set_option maxRecDepth 100000 in
set_option maxHeartbeats 4000000 in
theorem k_X5_leastFrom (l : Launch) (g : GG) (h0 : Nat) (pr0 : Nat) (pr1 : Nat) (d0 : Nat) (dr0 : Nat) (dr1 : Nat) (dr2 : Nat) (dr3 : Nat) (dr4 : Nat) (dr5 : Nat) (dr6 : Nat) (dr7 : Nat) (dr8 : Nat) (dr9 : Nat) (m0 : Nat) (mr0 : Nat) (pcost : Int32) (pgentle : Int32) (phonest : Int32) (ptable : Nat → Int32) (dstates : Int32) (dreally : Int32) (ddays : Int32) (dheal : Int32) (dleak : Int32) (dlines : Int32) (dhearers : Int32) (dwords : Int32) (dplans : Int32) (dnews : Int32) (dmeanings : Nat → Int32) (dshames : Nat → Int32) (mmeans : Nat → Int32) (p3 : Int32) (p4 : Int32) (i_pgentle : 0 ≤ pgentle.toInt ∧ pgentle.toInt ≤ 1) (i_phonest : 0 ≤ phonest.toInt ∧ phonest.toInt ≤ 1) (i_dstates : 0 ≤ dstates.toInt ∧ dstates.toInt ≤ 8) (i_dreally : 0 ≤ dreally.toInt ∧ dreally.toInt ≤ 7) (i_ddays : 0 ≤ ddays.toInt ∧ ddays.toInt ≤ 10) (i_dhearers : 0 ≤ dhearers.toInt ∧ dhearers.toInt ≤ 4) (i_dwords : 0 ≤ dwords.toInt ∧ dwords.toInt ≤ 8) (i_dplans : 0 ≤ dplans.toInt ∧ dplans.toInt ≤ 4) (i_dnews : 0 ≤ dnews.toInt ∧ dnews.toInt ≤ 6) (i_dmeanings : ab dmeanings 8 0 255) (i_p3 : 1 ≤ p3.toInt ∧ p3.toInt ≤ 10) (i_p4 : 0 ≤ p4.toInt ∧ p4.toInt ≤ 255) : Ct l g yX5_leastFrom cX5_leastFrom 7 (some .int) { frames := 3, cells := 0, slots := 0, locals := 72 } [.ref h0, .ref d0, .ref m0, .int p3, .int p4] [(h0, .inr (5, [.ref pr0, .ref pr1, .int pcost, .int pgentle, .int phonest])), (pr0, .inl (g.2 0, 2816, .inl ptable)), (d0, .inr (0, [.int dstates, .int dreally, .int ddays, .int dheal, .int dleak, .int dlines, .int dhearers, .int dwords, .int dplans, .int dnews, .ref dr0, .ref dr1, .ref dr2, .ref dr3, .ref dr4, .ref dr5, .ref dr6, .ref dr7, .ref dr8, .ref dr9])), (dr5, .inl (g.2 0, 8, .inl dmeanings)), (dr4, .inl (g.2 0, 8, .inl dshames)), (m0, .inr (4, [.ref mr0])), (mr0, .inl (g.2 0, 256, .inl mmeans))] (S := (Nat → Int32) × (Nat → Nat → Int32) × (Nat → Nat → Int64)) (fun u => some (.int (u.1 0))) (fun u => True) (fun u => [(h0, .inr (5, [.ref pr0, .ref pr1, .int pcost, .int pgentle, .int phonest])), (pr0, .inl (g.2 0, 2816, .inl ptable)), (d0, .inr (0, [.int dstates, .int dreally, .int ddays, .int dheal, .int dleak, .int dlines, .int dhearers, .int dwords, .int dplans, .int dnews, .ref dr0, .ref dr1, .ref dr2, .ref dr3, .ref dr4, .ref dr5, .ref dr6, .ref dr7, .ref dr8, .ref dr9])), (dr5, .inl (g.2 0, 8, .inl dmeanings)), (dr4, .inl (g.2 0, 8, .inl dshames)), (m0, .inr (4, [.ref mr0])), (mr0, .inl (g.2 0, 256, .inl mmeans))]) := by
  refine Ct.of (by decide) (Nat.le_of_ble_eq_true rfl) ?_
  intro p e s m below meth c A ls FX hP hD hS hl
  obtain ⟨FC, hr, hlk, hKn, hA, hnm, hZ⟩ := id FX
  have FC : CallFix p m c cX5_leastFrom 7 s _ BIG RX5 := FC
  obtain ⟨hx, hb, hml, hown, hB⟩ := id FC
  have hl : lv_has ls 7 [(0, .ref h0), (1, .ref d0), (2, .ref m0), (3, .int p3), (4, .int p4)] := hl
  refine lv_aload_n hx hb dX5_leastFrom_0 rfl (lv_at hl 0 rfl) ?_
  refine lv_aload_n hx hb dX5_leastFrom_1 rfl (lv_at hl 1 rfl) ?_
  refine lv_aload_n hx hb dX5_leastFrom_2 rfl (lv_at hl 2 rfl) ?_
  refine lv_bipush (v := 8) hx hb dX5_leastFrom_3 (by decide) ?_
  refine lv_iload_n hx hb dX5_leastFrom_5 rfl (lv_at hl 3 rfl) ?_
  refine lv_iload hx hb dX5_leastFrom_6 (lv_at hl 4 rfl) ?_
  have kc8 : (8 : Int32).toInt = 8 := by decide
  refine call_V (As := [.ref d0, .ref m0, .int 8, .int p3, .int p4]) (rest := []) (wr := []) FC hKn hZ (k_X5_costBy l g h0 pr0 pr1 d0 dr0 dr1 dr2 dr3 dr4 dr5 dr6 dr7 dr8 dr9 m0 mr0 pcost pgentle phonest ptable dstates dreally ddays dheal dleak dlines dhearers dwords dplans dnews dmeanings dshames mmeans ((8 : Int32)) p3 p4 (by omega) (by omega) (by omega) (by omega) (by omega) (by omega) (by omega) (by omega) (by omega) i_dmeanings (by omega) (by omega) (by omega)) m_yX5_costBy b_118 (ci := 5) rfl rfl rfl hP hD hS hA [0, 1, 2, 3, 4, 5, 6] [] rfl (by decide +kernel) rfl (by decide) (by decide +kernel) rfl hl.1 rfl (Nat.le_of_ble_eq_true rfl) dX5_leastFrom_8 ⟨(Nat.le_of_ble_eq_true rfl), (Nat.le_of_ble_eq_true rfl)⟩ ⟨(Nat.le_of_ble_eq_true rfl), (Nat.le_of_ble_eq_true rfl)⟩ (fun u1 H locs q2 hP hD hS => ?_)
  have hP : va_P g.1 vwCl [(h0, .inr (5, [.ref pr0, .ref pr1, .int pcost, .int pgentle, .int phonest])), (pr0, .inl (g.2 0, 2816, .inl ptable)), (d0, .inr (0, [.int dstates, .int dreally, .int ddays, .int dheal, .int dleak, .int dlines, .int dhearers, .int dwords, .int dplans, .int dnews, .ref dr0, .ref dr1, .ref dr2, .ref dr3, .ref dr4, .ref dr5, .ref dr6, .ref dr7, .ref dr8, .ref dr9])), (dr5, .inl (g.2 0, 8, .inl dmeanings)), (dr4, .inl (g.2 0, 8, .inl dshames)), (m0, .inr (4, [.ref mr0])), (mr0, .inl (g.2 0, 256, .inl mmeans))] H := hP
  have hD : va_D A [(h0, .inr (5, [.ref pr0, .ref pr1, .int pcost, .int pgentle, .int phonest])), (pr0, .inl (g.2 0, 2816, .inl ptable)), (d0, .inr (0, [.int dstates, .int dreally, .int ddays, .int dheal, .int dleak, .int dlines, .int dhearers, .int dwords, .int dplans, .int dnews, .ref dr0, .ref dr1, .ref dr2, .ref dr3, .ref dr4, .ref dr5, .ref dr6, .ref dr7, .ref dr8, .ref dr9])), (dr5, .inl (g.2 0, 8, .inl dmeanings)), (dr4, .inl (g.2 0, 8, .inl dshames)), (m0, .inr (4, [.ref mr0])), (mr0, .inl (g.2 0, 256, .inl mmeans))] := hD
  refine W.eq (g2 := F0 m 11 ls [.int (u1.1 0)]) rfl ?_
  refine lv_istore (lv' := [(5, .int (u1.1 0)), (0, .ref h0), (1, .ref d0), (2, .ref m0), (3, .int p3), (4, .int p4)]) hx hb dX5_leastFrom_11 hl (by decide) rfl (fun ls hl => ?_)
  refine lv_iconst (v := 0) hx hb dX5_leastFrom_13 (by decide) ?_
  refine lv_istore (lv' := [(6, .int 0), (5, .int (u1.1 0)), (0, .ref h0), (1, .ref d0), (2, .ref m0), (3, .int p3), (4, .int p4)]) hx hb dX5_leastFrom_14 hl (by decide) rfl (fun ls hl => ?_)
  have lp58 : ∀ (n60 : Nat) (x56 : Int32) (x57 : Int32) (H : Heap) (locs : List Loc) (ls : Array Slot), 0 ≤ x56.toInt ∧ x56.toInt ≤ 8 → (8 - x56.toInt).toNat < n60 → va_P g.1 vwCl [(h0, .inr (5, [.ref pr0, .ref pr1, .int pcost, .int pgentle, .int phonest])), (pr0, .inl (g.2 0, 2816, .inl ptable)), (d0, .inr (0, [.int dstates, .int dreally, .int ddays, .int dheal, .int dleak, .int dlines, .int dhearers, .int dwords, .int dplans, .int dnews, .ref dr0, .ref dr1, .ref dr2, .ref dr3, .ref dr4, .ref dr5, .ref dr6, .ref dr7, .ref dr8, .ref dr9])), (dr5, .inl (g.2 0, 8, .inl dmeanings)), (dr4, .inl (g.2 0, 8, .inl dshames)), (m0, .inr (4, [.ref mr0])), (mr0, .inl (g.2 0, 256, .inl mmeans))] H → va_D A [(h0, .inr (5, [.ref pr0, .ref pr1, .int pcost, .int pgentle, .int phonest])), (pr0, .inl (g.2 0, 2816, .inl ptable)), (d0, .inr (0, [.int dstates, .int dreally, .int ddays, .int dheal, .int dleak, .int dlines, .int dhearers, .int dwords, .int dplans, .int dnews, .ref dr0, .ref dr1, .ref dr2, .ref dr3, .ref dr4, .ref dr5, .ref dr6, .ref dr7, .ref dr8, .ref dr9])), (dr5, .inl (g.2 0, 8, .inl dmeanings)), (dr4, .inl (g.2 0, 8, .inl dshames)), (m0, .inr (4, [.ref mr0])), (mr0, .inl (g.2 0, 256, .inl mmeans))] → va_S A s.heap H locs → lv_has ls 7 [(6, .int x56), (5, .int x57), (0, .ref h0), (1, .ref d0), (2, .ref m0), (3, .int p3), (4, .int p4)] → W p l e { frames := 3, cells := 0, slots := 0, locals := 72 } s m ([.ref h0, .ref d0, .ref m0, .int p3, .int p4].toArray) below meth c H locs 0 0 (MQ below (QX (S := (Nat → Int32) × (Nat → Nat → Int32) × (Nat → Nat → Int64)) (fun u => some (.int (u.1 0))) (fun u => True) g (fun u => [(h0, .inr (5, [.ref pr0, .ref pr1, .int pcost, .int pgentle, .int phonest])), (pr0, .inl (g.2 0, 2816, .inl ptable)), (d0, .inr (0, [.int dstates, .int dreally, .int ddays, .int dheal, .int dleak, .int dlines, .int dhearers, .int dwords, .int dplans, .int dnews, .ref dr0, .ref dr1, .ref dr2, .ref dr3, .ref dr4, .ref dr5, .ref dr6, .ref dr7, .ref dr8, .ref dr9])), (dr5, .inl (g.2 0, 8, .inl dmeanings)), (dr4, .inl (g.2 0, 8, .inl dshames)), (m0, .inr (4, [.ref mr0])), (mr0, .inl (g.2 0, 256, .inl mmeans))]) A) ([.ref h0, .ref d0, .ref m0, .int p3, .int p4].toArray) s 0 0 A) (F0 m 16 ls []) := by
    intro n60
    induction n60 with
    | zero =>
      intro x56 x57 H locs ls h_x56 hn61
      exact absurd hn61 (Nat.not_lt_zero _)
    | succ n60 ih59 =>
      intro x56 x57 H locs ls h_x56 hn61 hP hD hS hl
      refine lv_iload hx hb dX5_leastFrom_16 (lv_at hl 0 rfl) ?_
      refine lv_aload_n hx hb dX5_leastFrom_18 rfl (lv_at hl 3 rfl) ?_
      refine g_getN (C := RX0) (T := TX0) (N := 20) (ci := 0) (v := .int dwords) FC hKn hP i_X0 2 rfl rfl 7 (by decide) b_119 rfl dX5_leastFrom_19 ?_
      refine lv_icmp_ge (tgt := 49) hx hb dX5_leastFrom_22 (by decide) (fun c62 => ?_) (fun c62 => ?_)
      · have c62 := k_le (a := dwords.toInt) (b := x56.toInt) rfl rfl c62
        refine lv_iload hx hb dX5_leastFrom_49 (lv_at hl 1 rfl) ?_
        exact rt_i FX ((fun k => match k with | 0 => x57 | _ => 0), (fun _ => fun _ => 0), (fun _ => fun _ => 0)) rfl trivial (hP.sub [0, 1, 2, 3, 4, 5, 6] rfl) (hD.sub [0, 1, 2, 3, 4, 5, 6] (by decide +kernel) rfl) hS (Nat.le_of_ble_eq_true rfl) (Nat.le_of_ble_eq_true rfl) dX5_leastFrom_51
      · have c62 := k_nle (a := dwords.toInt) (b := x56.toInt) rfl rfl c62
        refine lv_iload hx hb dX5_leastFrom_25 (lv_at hl 1 rfl) ?_
        refine lv_aload_n hx hb dX5_leastFrom_27 rfl (lv_at hl 2 rfl) ?_
        refine lv_aload_n hx hb dX5_leastFrom_28 rfl (lv_at hl 3 rfl) ?_
        refine lv_aload_n hx hb dX5_leastFrom_29 rfl (lv_at hl 4 rfl) ?_
        refine lv_iload hx hb dX5_leastFrom_30 (lv_at hl 0 rfl) ?_
        refine lv_iload_n hx hb dX5_leastFrom_32 rfl (lv_at hl 5 rfl) ?_
        refine lv_iload hx hb dX5_leastFrom_33 (lv_at hl 6 rfl) ?_
        refine call_V (As := [.ref d0, .ref m0, .int x56, .int p3, .int p4]) (rest := [.int x57]) (wr := []) FC hKn hZ (k_X5_costBy l g h0 pr0 pr1 d0 dr0 dr1 dr2 dr3 dr4 dr5 dr6 dr7 dr8 dr9 m0 mr0 pcost pgentle phonest ptable dstates dreally ddays dheal dleak dlines dhearers dwords dplans dnews dmeanings dshames mmeans x56 p3 p4 (by omega) (by omega) (by omega) (by omega) (by omega) (by omega) (by omega) (by omega) (by omega) i_dmeanings (by omega) (by omega) (by omega)) m_yX5_costBy b_118 (ci := 5) rfl rfl rfl hP hD hS hA [0, 1, 2, 3, 4, 5, 6] [] rfl (by decide +kernel) rfl (by decide) (by decide +kernel) rfl hl.1 rfl (Nat.le_of_ble_eq_true rfl) dX5_leastFrom_35 ⟨(Nat.le_of_ble_eq_true rfl), (Nat.le_of_ble_eq_true rfl)⟩ ⟨(Nat.le_of_ble_eq_true rfl), (Nat.le_of_ble_eq_true rfl)⟩ (fun u63 H locs q64 hP hD hS => ?_)
        have hP : va_P g.1 vwCl [(h0, .inr (5, [.ref pr0, .ref pr1, .int pcost, .int pgentle, .int phonest])), (pr0, .inl (g.2 0, 2816, .inl ptable)), (d0, .inr (0, [.int dstates, .int dreally, .int ddays, .int dheal, .int dleak, .int dlines, .int dhearers, .int dwords, .int dplans, .int dnews, .ref dr0, .ref dr1, .ref dr2, .ref dr3, .ref dr4, .ref dr5, .ref dr6, .ref dr7, .ref dr8, .ref dr9])), (dr5, .inl (g.2 0, 8, .inl dmeanings)), (dr4, .inl (g.2 0, 8, .inl dshames)), (m0, .inr (4, [.ref mr0])), (mr0, .inl (g.2 0, 256, .inl mmeans))] H := hP
        have hD : va_D A [(h0, .inr (5, [.ref pr0, .ref pr1, .int pcost, .int pgentle, .int phonest])), (pr0, .inl (g.2 0, 2816, .inl ptable)), (d0, .inr (0, [.int dstates, .int dreally, .int ddays, .int dheal, .int dleak, .int dlines, .int dhearers, .int dwords, .int dplans, .int dnews, .ref dr0, .ref dr1, .ref dr2, .ref dr3, .ref dr4, .ref dr5, .ref dr6, .ref dr7, .ref dr8, .ref dr9])), (dr5, .inl (g.2 0, 8, .inl dmeanings)), (dr4, .inl (g.2 0, 8, .inl dshames)), (m0, .inr (4, [.ref mr0])), (mr0, .inl (g.2 0, 256, .inl mmeans))] := hD
        refine W.eq (g2 := F0 m 38 ls [.int (u63.1 0), .int x57]) rfl ?_
        refine va_mmin hx hb (by rw [hml]; exact hl.1.symm) hown (hB _ b_120) (hB _ b_121) (hB _ b_58) (hB _ b_122) (Nat.le_of_ble_eq_true rfl) (Nat.le_of_ble_eq_true rfl) (Nat.le_of_ble_eq_true rfl) (Nat.le_of_ble_eq_true rfl) dX5_leastFrom_38 ?_
        refine lv_topi (fun z65 e_z65 => ?_)
        have t_z65 : (z65.toInt ≤ x57.toInt ∧ z65.toInt ≤ (u63.1 0).toInt ∧ (z65.toInt = x57.toInt ∨ z65.toInt = (u63.1 0).toInt)) := by rw [e_z65]; exact mmin_b _ _
        refine lv_istore (lv' := [(5, .int z65), (6, .int x56), (0, .ref h0), (1, .ref d0), (2, .ref m0), (3, .int p3), (4, .int p4)]) hx hb dX5_leastFrom_41 hl (by decide) rfl (fun ls hl => ?_)
        obtain ⟨z66, e_z66⟩ : ∃ y : Int32, y = x56 + 1 := ⟨_, rfl⟩
        have t_z66 : z66.toInt = x56.toInt + 1 := by rw [e_z66]; exact addk (by decide) (by omega) (by omega)
        refine lv_iinc (v := z66) (lv' := [(6, .int z66), (5, .int z65), (0, .ref h0), (1, .ref d0), (2, .ref m0), (3, .int p3), (4, .int p4)]) hx hb dX5_leastFrom_43 hl (k := 1) rfl (by rw [e_z66]; rfl) (by decide) rfl (fun ls hl => ?_)
        refine lv_goto (tgt := 16) hx hb dX5_leastFrom_46 (by decide) ?_
        exact ih59 z66 z65 _ _ ls (by omega) (by omega) hP hD hS (lv_sub hl [0, 1, 2, 3, 4, 5, 6] rfl)
  have kc0 : (0 : Int32).toInt = 0 := by decide
  exact lp58 _ (0 : Int32) (u1.1 0) _ _ ls (by decide) (Nat.lt_succ_self _) hP hD hS (lv_sub hl [0, 1, 2, 3, 4, 5, 6] rfl)
set_option maxRecDepth 100000 in
set_option maxHeartbeats 4000000 in
theorem k_X5_findFirstRow (l : Launch) (g : GG) (h0 : Nat) (pr0 : Nat) (pr1 : Nat) (d0 : Nat) (dr0 : Nat) (dr1 : Nat) (dr2 : Nat) (dr3 : Nat) (dr4 : Nat) (dr5 : Nat) (dr6 : Nat) (dr7 : Nat) (dr8 : Nat) (dr9 : Nat) (m0 : Nat) (mr0 : Nat) (pcost : Int32) (pgentle : Int32) (phonest : Int32) (ptable : Nat → Int32) (pfirstRow : Nat → Int32) (dstates : Int32) (dreally : Int32) (ddays : Int32) (dheal : Int32) (dleak : Int32) (dlines : Int32) (dhearers : Int32) (dwords : Int32) (dplans : Int32) (dnews : Int32) (dmeanings : Nat → Int32) (dshames : Nat → Int32) (mmeans : Nat → Int32) (i_pgentle : 0 ≤ pgentle.toInt ∧ pgentle.toInt ≤ 1) (i_phonest : 0 ≤ phonest.toInt ∧ phonest.toInt ≤ 1) (i_pfirstRow : ab pfirstRow 10 0 8) (i_dstates : 0 ≤ dstates.toInt ∧ dstates.toInt ≤ 8) (i_dreally : 0 ≤ dreally.toInt ∧ dreally.toInt ≤ 7) (i_ddays : 0 ≤ ddays.toInt ∧ ddays.toInt ≤ 10) (i_dhearers : 0 ≤ dhearers.toInt ∧ dhearers.toInt ≤ 4) (i_dwords : 0 ≤ dwords.toInt ∧ dwords.toInt ≤ 8) (i_dplans : 0 ≤ dplans.toInt ∧ dplans.toInt ≤ 4) (i_dnews : 0 ≤ dnews.toInt ∧ dnews.toInt ≤ 6) (i_dmeanings : ab dmeanings 8 0 255) : Ct l g yX5_findFirstRow cX5_findFirstRow 9 none { frames := 3, cells := 0, slots := 0, locals := 72 } [.ref h0, .ref d0, .ref m0] [(h0, .inr (5, [.ref pr0, .ref pr1, .int pcost, .int pgentle, .int phonest])), (pr0, .inl (g.2 0, 2816, .inl ptable)), (pr1, .inl (g.2 0, 10, .inl pfirstRow)), (d0, .inr (0, [.int dstates, .int dreally, .int ddays, .int dheal, .int dleak, .int dlines, .int dhearers, .int dwords, .int dplans, .int dnews, .ref dr0, .ref dr1, .ref dr2, .ref dr3, .ref dr4, .ref dr5, .ref dr6, .ref dr7, .ref dr8, .ref dr9])), (dr5, .inl (g.2 0, 8, .inl dmeanings)), (dr4, .inl (g.2 0, 8, .inl dshames)), (m0, .inr (4, [.ref mr0])), (mr0, .inl (g.2 0, 256, .inl mmeans))] (S := (Nat → Int32) × (Nat → Nat → Int32) × (Nat → Nat → Int64)) (fun _ => none) (fun u => (ab (u.2.1 0) 10 0 8)) (fun u => [(h0, .inr (5, [.ref pr0, .ref pr1, .int pcost, .int pgentle, .int phonest])), (pr0, .inl (g.2 0, 2816, .inl ptable)), (pr1, .inl (g.2 0, 10, .inl (u.2.1 0))), (d0, .inr (0, [.int dstates, .int dreally, .int ddays, .int dheal, .int dleak, .int dlines, .int dhearers, .int dwords, .int dplans, .int dnews, .ref dr0, .ref dr1, .ref dr2, .ref dr3, .ref dr4, .ref dr5, .ref dr6, .ref dr7, .ref dr8, .ref dr9])), (dr5, .inl (g.2 0, 8, .inl dmeanings)), (dr4, .inl (g.2 0, 8, .inl dshames)), (m0, .inr (4, [.ref mr0])), (mr0, .inl (g.2 0, 256, .inl mmeans))]) := by
  refine Ct.of (by decide) (Nat.le_of_ble_eq_true rfl) ?_
  intro p e s m below meth c A ls FX hP hD hS hl
  obtain ⟨FC, hr, hlk, hKn, hA, hnm, hZ⟩ := id FX
  have FC : CallFix p m c cX5_findFirstRow 9 s _ BIG RX5 := FC
  obtain ⟨hx, hb, hml, hown, hB⟩ := id FC
  have hl : lv_has ls 9 [(0, .ref h0), (1, .ref d0), (2, .ref m0)] := hl
  refine lv_aload_n hx hb dX5_findFirstRow_0 rfl (lv_at hl 1 rfl) ?_
  refine call_VN (As := []) (rest := []) (wr := [(h0, .inr (5, [.ref pr0, .ref pr1, .int pcost, .int pgentle, .int phonest])), (pr0, .inl (g.2 0, 2816, .inl ptable)), (pr1, .inl (g.2 0, 10, .inl pfirstRow)), (dr5, .inl (g.2 0, 8, .inl dmeanings)), (dr4, .inl (g.2 0, 8, .inl dshames)), (m0, .inr (4, [.ref mr0])), (mr0, .inl (g.2 0, 256, .inl mmeans))]) FC hKn hZ (k_X0_everything l g d0 dr0 dr1 dr2 dr3 dr4 dr5 dr6 dr7 dr8 dr9 dstates dreally ddays dheal dleak dlines dhearers dwords dplans dnews (by omega) (by omega) (by omega) (by omega) (by omega) (by omega) (by omega)) m_yX0_everything b_123 (ci := 0) rfl rfl rfl hP hD hS hA [3] [0, 1, 2, 4, 5, 6, 7] rfl (by decide) rfl (by decide +kernel) (by decide +kernel) rfl hl.1 rfl (Nat.le_of_ble_eq_true rfl) dX5_findFirstRow_1 ⟨(Nat.le_of_ble_eq_true rfl), (Nat.le_of_ble_eq_true rfl)⟩ ⟨(Nat.le_of_ble_eq_true rfl), (Nat.le_of_ble_eq_true rfl)⟩ (fun u1 H locs q2 hP hD hS => ?_)
  have q2_0 : 0 ≤ (u1.1 0).toInt ∧ (u1.1 0).toInt ≤ 255 := q2
  have hP : va_P g.1 vwCl [(h0, .inr (5, [.ref pr0, .ref pr1, .int pcost, .int pgentle, .int phonest])), (pr0, .inl (g.2 0, 2816, .inl ptable)), (pr1, .inl (g.2 0, 10, .inl pfirstRow)), (dr5, .inl (g.2 0, 8, .inl dmeanings)), (dr4, .inl (g.2 0, 8, .inl dshames)), (m0, .inr (4, [.ref mr0])), (mr0, .inl (g.2 0, 256, .inl mmeans)), (d0, .inr (0, [.int dstates, .int dreally, .int ddays, .int dheal, .int dleak, .int dlines, .int dhearers, .int dwords, .int dplans, .int dnews, .ref dr0, .ref dr1, .ref dr2, .ref dr3, .ref dr4, .ref dr5, .ref dr6, .ref dr7, .ref dr8, .ref dr9]))] H := hP
  have hD : va_D A [(h0, .inr (5, [.ref pr0, .ref pr1, .int pcost, .int pgentle, .int phonest])), (pr0, .inl (g.2 0, 2816, .inl ptable)), (pr1, .inl (g.2 0, 10, .inl pfirstRow)), (dr5, .inl (g.2 0, 8, .inl dmeanings)), (dr4, .inl (g.2 0, 8, .inl dshames)), (m0, .inr (4, [.ref mr0])), (mr0, .inl (g.2 0, 256, .inl mmeans)), (d0, .inr (0, [.int dstates, .int dreally, .int ddays, .int dheal, .int dleak, .int dlines, .int dhearers, .int dwords, .int dplans, .int dnews, .ref dr0, .ref dr1, .ref dr2, .ref dr3, .ref dr4, .ref dr5, .ref dr6, .ref dr7, .ref dr8, .ref dr9]))] := hD
  refine W.eq (g2 := F0 m 4 ls [.int (u1.1 0)]) rfl ?_
  refine lv_istore_n (lv' := [(3, .int (u1.1 0)), (0, .ref h0), (1, .ref d0), (2, .ref m0)]) hx hb dX5_findFirstRow_4 rfl hl (by decide) rfl (fun ls hl => ?_)
  refine lv_aload_n hx hb dX5_findFirstRow_5 rfl (lv_at hl 1 rfl) ?_
  refine g_get (C := RX5) (T := TX5) (N := 5) (ci := 5) (v := .int pcost) FC hKn hP i_X5 0 rfl rfl 2 (by decide) b_124 rfl dX5_findFirstRow_6 ?_
  refine lv_istore (lv' := [(4, .int pcost), (3, .int (u1.1 0)), (0, .ref h0), (1, .ref d0), (2, .ref m0)]) hx hb dX5_findFirstRow_9 hl (by decide) rfl (fun ls hl => ?_)
  refine lv_iconst (v := 0) hx hb dX5_findFirstRow_11 (by decide) ?_
  refine lv_istore (lv' := [(5, .int 0), (4, .int pcost), (3, .int (u1.1 0)), (0, .ref h0), (1, .ref d0), (2, .ref m0)]) hx hb dX5_findFirstRow_12 hl (by decide) rfl (fun ls hl => ?_)
  have lp477 : ∀ (n479 : Nat) (x473 : Int32) (x474 : Int32) (x475 : Int32) (x476 : Nat → Int32) (H : Heap) (locs : List Loc) (ls : Array Slot), 0 ≤ x473.toInt ∧ x473.toInt ≤ 10 → 0 ≤ x475.toInt ∧ x475.toInt ≤ 255 → ab x476 10 0 8 → (10 - x473.toInt).toNat < n479 → va_P g.1 vwCl [(h0, .inr (5, [.ref pr0, .ref pr1, .int pcost, .int pgentle, .int phonest])), (pr0, .inl (g.2 0, 2816, .inl ptable)), (pr1, .inl (g.2 0, 10, .inl x476)), (dr5, .inl (g.2 0, 8, .inl dmeanings)), (dr4, .inl (g.2 0, 8, .inl dshames)), (m0, .inr (4, [.ref mr0])), (mr0, .inl (g.2 0, 256, .inl mmeans)), (d0, .inr (0, [.int dstates, .int dreally, .int ddays, .int dheal, .int dleak, .int dlines, .int dhearers, .int dwords, .int dplans, .int dnews, .ref dr0, .ref dr1, .ref dr2, .ref dr3, .ref dr4, .ref dr5, .ref dr6, .ref dr7, .ref dr8, .ref dr9]))] H → va_D A [(h0, .inr (5, [.ref pr0, .ref pr1, .int pcost, .int pgentle, .int phonest])), (pr0, .inl (g.2 0, 2816, .inl ptable)), (pr1, .inl (g.2 0, 10, .inl x476)), (dr5, .inl (g.2 0, 8, .inl dmeanings)), (dr4, .inl (g.2 0, 8, .inl dshames)), (m0, .inr (4, [.ref mr0])), (mr0, .inl (g.2 0, 256, .inl mmeans)), (d0, .inr (0, [.int dstates, .int dreally, .int ddays, .int dheal, .int dleak, .int dlines, .int dhearers, .int dwords, .int dplans, .int dnews, .ref dr0, .ref dr1, .ref dr2, .ref dr3, .ref dr4, .ref dr5, .ref dr6, .ref dr7, .ref dr8, .ref dr9]))] → va_S A s.heap H locs → lv_has ls 9 [(5, .int x473), (4, .int x474), (3, .int x475), (0, .ref h0), (1, .ref d0), (2, .ref m0)] → W p l e { frames := 3, cells := 0, slots := 0, locals := 72 } s m ([.ref h0, .ref d0, .ref m0].toArray) below meth c H locs 0 0 (MQ below (QX (S := (Nat → Int32) × (Nat → Nat → Int32) × (Nat → Nat → Int64)) (fun _ => none) (fun u => (ab (u.2.1 0) 10 0 8)) g (fun u => [(h0, .inr (5, [.ref pr0, .ref pr1, .int pcost, .int pgentle, .int phonest])), (pr0, .inl (g.2 0, 2816, .inl ptable)), (pr1, .inl (g.2 0, 10, .inl (u.2.1 0))), (d0, .inr (0, [.int dstates, .int dreally, .int ddays, .int dheal, .int dleak, .int dlines, .int dhearers, .int dwords, .int dplans, .int dnews, .ref dr0, .ref dr1, .ref dr2, .ref dr3, .ref dr4, .ref dr5, .ref dr6, .ref dr7, .ref dr8, .ref dr9])), (dr5, .inl (g.2 0, 8, .inl dmeanings)), (dr4, .inl (g.2 0, 8, .inl dshames)), (m0, .inr (4, [.ref mr0])), (mr0, .inl (g.2 0, 256, .inl mmeans))]) A) ([.ref h0, .ref d0, .ref m0].toArray) s 0 0 A) (F0 m 14 ls []) := by
    intro n479
    induction n479 with
    | zero =>
      intro x473 x474 x475 x476 H locs ls h_x473 h_x475 h_x476 hn480
      exact absurd hn480 (Nat.not_lt_zero _)
    | succ n479 ih478 =>
      intro x473 x474 x475 x476 H locs ls h_x473 h_x475 h_x476 hn480 hP hD hS hl
      refine lv_iload hx hb dX5_findFirstRow_14 (lv_at hl 0 rfl) ?_
      refine lv_aload_n hx hb dX5_findFirstRow_16 rfl (lv_at hl 4 rfl) ?_
      refine g_getN (C := RX0) (T := TX0) (N := 20) (ci := 0) (v := .int ddays) FC hKn hP i_X0 7 rfl rfl 2 (by decide) b_125 rfl dX5_findFirstRow_17 ?_
      refine lv_icmp_ge (tgt := 116) hx hb dX5_findFirstRow_20 (by decide) (fun c481 => ?_) (fun c481 => ?_)
      · have c481 := k_le (a := ddays.toInt) (b := x473.toInt) rfl rfl c481
        exact rt_v FX ((fun k => match k with | 0 => 0 | _ => 0), (fun k => match k with | 0 => x476 | _ => fun _ => 0), (fun _ => fun _ => 0)) rfl h_x476 (hP.sub [0, 1, 2, 7, 3, 4, 5, 6] rfl) (hD.sub [0, 1, 2, 7, 3, 4, 5, 6] (by decide +kernel) rfl) hS (Nat.le_of_ble_eq_true rfl) (Nat.le_of_ble_eq_true rfl) dX5_findFirstRow_116
      · have c481 := k_nle (a := ddays.toInt) (b := x473.toInt) rfl rfl c481
        refine lv_aload_n hx hb dX5_findFirstRow_23 rfl (lv_at hl 4 rfl) ?_
        refine g_getN (C := RX0) (T := TX0) (N := 20) (ci := 0) (v := .int ddays) FC hKn hP i_X0 7 rfl rfl 2 (by decide) b_125 rfl dX5_findFirstRow_24 ?_
        refine lv_iload hx hb dX5_findFirstRow_27 (lv_at hl 0 rfl) ?_
        refine lv_isub hx hb dX5_findFirstRow_29 ?_
        refine lv_topi (fun z482 e_z482 => ?_)
        have t_z482 : z482.toInt = ddays.toInt - x473.toInt := by rw [e_z482]; exact fb_subI (by omega) (by omega)
        refine lv_istore (lv' := [(6, .int z482), (5, .int x473), (4, .int x474), (3, .int x475), (0, .ref h0), (1, .ref d0), (2, .ref m0)]) hx hb dX5_findFirstRow_30 hl (by decide) rfl (fun ls hl => ?_)
        refine lv_bipush (v := 8) hx hb dX5_findFirstRow_32 (by decide) ?_
        refine lv_istore (lv' := [(7, .int 8), (6, .int z482), (5, .int x473), (4, .int x474), (3, .int x475), (0, .ref h0), (1, .ref d0), (2, .ref m0)]) hx hb dX5_findFirstRow_34 hl (by decide) rfl (fun ls hl => ?_)
        refine lv_aload_n hx hb dX5_findFirstRow_36 rfl (lv_at hl 6 rfl) ?_
        refine g_getN (C := RX0) (T := TX0) (N := 20) (ci := 0) (v := .int dwords) FC hKn hP i_X0 7 rfl rfl 7 (by decide) b_119 rfl dX5_findFirstRow_37 ?_
        refine lv_iconst (v := 1) hx hb dX5_findFirstRow_40 (by decide) ?_
        refine lv_isub hx hb dX5_findFirstRow_41 ?_
        have kc1 : (1 : Int32).toInt = 1 := by decide
        refine lv_topi (fun z483 e_z483 => ?_)
        have t_z483 : z483.toInt = dwords.toInt - ((1 : Int32)).toInt := by rw [e_z483]; exact fb_subI (by omega) (by omega)
        refine lv_istore (lv' := [(8, .int z483), (7, .int 8), (6, .int z482), (5, .int x473), (4, .int x474), (3, .int x475), (0, .ref h0), (1, .ref d0), (2, .ref m0)]) hx hb dX5_findFirstRow_42 hl (by decide) rfl (fun ls hl => ?_)
        have lp518 : ∀ (n520 : Nat) (x516 : Int32) (x517 : Int32) (H : Heap) (locs : List Loc) (ls : Array Slot), -1 ≤ x516.toInt ∧ x516.toInt ≤ 7 → 0 ≤ x517.toInt ∧ x517.toInt ≤ 8 → (x516.toInt - (-1)).toNat < n520 → va_P g.1 vwCl [(h0, .inr (5, [.ref pr0, .ref pr1, .int pcost, .int pgentle, .int phonest])), (pr0, .inl (g.2 0, 2816, .inl ptable)), (pr1, .inl (g.2 0, 10, .inl x476)), (dr5, .inl (g.2 0, 8, .inl dmeanings)), (dr4, .inl (g.2 0, 8, .inl dshames)), (m0, .inr (4, [.ref mr0])), (mr0, .inl (g.2 0, 256, .inl mmeans)), (d0, .inr (0, [.int dstates, .int dreally, .int ddays, .int dheal, .int dleak, .int dlines, .int dhearers, .int dwords, .int dplans, .int dnews, .ref dr0, .ref dr1, .ref dr2, .ref dr3, .ref dr4, .ref dr5, .ref dr6, .ref dr7, .ref dr8, .ref dr9]))] H → va_D A [(h0, .inr (5, [.ref pr0, .ref pr1, .int pcost, .int pgentle, .int phonest])), (pr0, .inl (g.2 0, 2816, .inl ptable)), (pr1, .inl (g.2 0, 10, .inl x476)), (dr5, .inl (g.2 0, 8, .inl dmeanings)), (dr4, .inl (g.2 0, 8, .inl dshames)), (m0, .inr (4, [.ref mr0])), (mr0, .inl (g.2 0, 256, .inl mmeans)), (d0, .inr (0, [.int dstates, .int dreally, .int ddays, .int dheal, .int dleak, .int dlines, .int dhearers, .int dwords, .int dplans, .int dnews, .ref dr0, .ref dr1, .ref dr2, .ref dr3, .ref dr4, .ref dr5, .ref dr6, .ref dr7, .ref dr8, .ref dr9]))] → va_S A s.heap H locs → lv_has ls 9 [(8, .int x516), (7, .int x517), (6, .int z482), (5, .int x473), (4, .int x474), (3, .int x475), (0, .ref h0), (1, .ref d0), (2, .ref m0)] → W p l e { frames := 3, cells := 0, slots := 0, locals := 72 } s m ([.ref h0, .ref d0, .ref m0].toArray) below meth c H locs 0 0 (MQ below (QX (S := (Nat → Int32) × (Nat → Nat → Int32) × (Nat → Nat → Int64)) (fun _ => none) (fun u => (ab (u.2.1 0) 10 0 8)) g (fun u => [(h0, .inr (5, [.ref pr0, .ref pr1, .int pcost, .int pgentle, .int phonest])), (pr0, .inl (g.2 0, 2816, .inl ptable)), (pr1, .inl (g.2 0, 10, .inl (u.2.1 0))), (d0, .inr (0, [.int dstates, .int dreally, .int ddays, .int dheal, .int dleak, .int dlines, .int dhearers, .int dwords, .int dplans, .int dnews, .ref dr0, .ref dr1, .ref dr2, .ref dr3, .ref dr4, .ref dr5, .ref dr6, .ref dr7, .ref dr8, .ref dr9])), (dr5, .inl (g.2 0, 8, .inl dmeanings)), (dr4, .inl (g.2 0, 8, .inl dshames)), (m0, .inr (4, [.ref mr0])), (mr0, .inl (g.2 0, 256, .inl mmeans))]) A) ([.ref h0, .ref d0, .ref m0].toArray) s 0 0 A) (F0 m 44 ls []) := by
          intro n520
          induction n520 with
          | zero =>
            intro x516 x517 H locs ls h_x516 h_x517 hn521
            exact absurd hn521 (Nat.not_lt_zero _)
          | succ n520 ih519 =>
            intro x516 x517 H locs ls h_x516 h_x517 hn521 hP hD hS hl
            refine lv_iload hx hb dX5_findFirstRow_44 (lv_at hl 0 rfl) ?_
            refine lv_if_lt (tgt := 75) hx hb dX5_findFirstRow_46 (by decide) (fun c522 => ?_) (fun c522 => ?_)
            · have c522 := k_lt (a := x516.toInt) (b := 0) rfl (by decide) c522
              refine lv_aload_n hx hb dX5_findFirstRow_75 rfl (lv_at hl 6 rfl) ?_
              refine g_get (C := RX5) (T := TX5) (N := 5) (ci := 5) (v := .ref pr1) FC hKn hP i_X5 0 rfl rfl 1 (by decide) b_126 rfl dX5_findFirstRow_76 ?_
              refine lv_iload hx hb dX5_findFirstRow_79 (lv_at hl 3 rfl) ?_
              refine lv_iload hx hb dX5_findFirstRow_81 (lv_at hl 1 rfl) ?_
              refine va_iast hx hb hKn.1 hP hD hS 2 0 rfl rfl (vp_in_iff.mpr ⟨by omega, by omega⟩) dX5_findFirstRow_83 (fun H locs hP hD hS => ?_)
              have hP : va_P g.1 vwCl [(h0, .inr (5, [.ref pr0, .ref pr1, .int pcost, .int pgentle, .int phonest])), (pr0, .inl (g.2 0, 2816, .inl ptable)), (pr1, .inl (g.2 0, 10, .inl (upd x476 (x473.toNatClampNeg) x517))), (dr5, .inl (g.2 0, 8, .inl dmeanings)), (dr4, .inl (g.2 0, 8, .inl dshames)), (m0, .inr (4, [.ref mr0])), (mr0, .inl (g.2 0, 256, .inl mmeans)), (d0, .inr (0, [.int dstates, .int dreally, .int ddays, .int dheal, .int dleak, .int dlines, .int dhearers, .int dwords, .int dplans, .int dnews, .ref dr0, .ref dr1, .ref dr2, .ref dr3, .ref dr4, .ref dr5, .ref dr6, .ref dr7, .ref dr8, .ref dr9]))] H := hP
              have hD : va_D A [(h0, .inr (5, [.ref pr0, .ref pr1, .int pcost, .int pgentle, .int phonest])), (pr0, .inl (g.2 0, 2816, .inl ptable)), (pr1, .inl (g.2 0, 10, .inl (upd x476 (x473.toNatClampNeg) x517))), (dr5, .inl (g.2 0, 8, .inl dmeanings)), (dr4, .inl (g.2 0, 8, .inl dshames)), (m0, .inr (4, [.ref mr0])), (mr0, .inl (g.2 0, 256, .inl mmeans)), (d0, .inr (0, [.int dstates, .int dreally, .int ddays, .int dheal, .int dleak, .int dlines, .int dhearers, .int dwords, .int dplans, .int dnews, .ref dr0, .ref dr1, .ref dr2, .ref dr3, .ref dr4, .ref dr5, .ref dr6, .ref dr7, .ref dr8, .ref dr9]))] := hD
              have a_f523 : ab (upd x476 (x473.toNatClampNeg) x517) 10 0 8 := ab_upd h_x476 (by omega) (by omega)
              generalize (upd x476 (x473.toNatClampNeg) x517 : Nat → Int32) = f523 at hP hD a_f523
              refine lv_aload_n hx hb dX5_findFirstRow_84 rfl (lv_at hl 7 rfl) ?_
              refine lv_iload_n hx hb dX5_findFirstRow_85 rfl (lv_at hl 5 rfl) ?_
              refine lv_iload hx hb dX5_findFirstRow_86 (lv_at hl 1 rfl) ?_
              refine call_VN (As := [.int x475, .int x517]) (rest := []) (wr := [(h0, .inr (5, [.ref pr0, .ref pr1, .int pcost, .int pgentle, .int phonest])), (pr0, .inl (g.2 0, 2816, .inl ptable)), (pr1, .inl (g.2 0, 10, .inl f523)), (dr4, .inl (g.2 0, 8, .inl dshames)), (m0, .inr (4, [.ref mr0])), (mr0, .inl (g.2 0, 256, .inl mmeans))]) FC hKn hZ (k_X0_nextBelief l g d0 dr0 dr1 dr2 dr3 dr4 dr5 dr6 dr7 dr8 dr9 dstates dreally ddays dheal dleak dlines dhearers dwords dplans dnews dmeanings x475 x517 (by omega) (by omega) (by omega) (by omega) (by omega) (by omega) (by omega) i_dmeanings (by omega)) m_yX0_nextBelief b_109 (ci := 0) rfl rfl rfl hP hD hS hA [7, 3] [0, 1, 2, 4, 5, 6] rfl (by decide) rfl (by decide) (by decide +kernel) rfl hl.1 rfl (Nat.le_of_ble_eq_true rfl) dX5_findFirstRow_88 ⟨(Nat.le_of_ble_eq_true rfl), (Nat.le_of_ble_eq_true rfl)⟩ ⟨(Nat.le_of_ble_eq_true rfl), (Nat.le_of_ble_eq_true rfl)⟩ (fun u524 H locs q525 hP hD hS => ?_)
              have q525_0 : 0 ≤ (u524.1 0).toInt ∧ (u524.1 0).toInt ≤ 255 := q525
              have hP : va_P g.1 vwCl [(h0, .inr (5, [.ref pr0, .ref pr1, .int pcost, .int pgentle, .int phonest])), (pr0, .inl (g.2 0, 2816, .inl ptable)), (pr1, .inl (g.2 0, 10, .inl f523)), (dr4, .inl (g.2 0, 8, .inl dshames)), (m0, .inr (4, [.ref mr0])), (mr0, .inl (g.2 0, 256, .inl mmeans)), (d0, .inr (0, [.int dstates, .int dreally, .int ddays, .int dheal, .int dleak, .int dlines, .int dhearers, .int dwords, .int dplans, .int dnews, .ref dr0, .ref dr1, .ref dr2, .ref dr3, .ref dr4, .ref dr5, .ref dr6, .ref dr7, .ref dr8, .ref dr9])), (dr5, .inl (g.2 0, 8, .inl dmeanings))] H := hP
              have hD : va_D A [(h0, .inr (5, [.ref pr0, .ref pr1, .int pcost, .int pgentle, .int phonest])), (pr0, .inl (g.2 0, 2816, .inl ptable)), (pr1, .inl (g.2 0, 10, .inl f523)), (dr4, .inl (g.2 0, 8, .inl dshames)), (m0, .inr (4, [.ref mr0])), (mr0, .inl (g.2 0, 256, .inl mmeans)), (d0, .inr (0, [.int dstates, .int dreally, .int ddays, .int dheal, .int dleak, .int dlines, .int dhearers, .int dwords, .int dplans, .int dnews, .ref dr0, .ref dr1, .ref dr2, .ref dr3, .ref dr4, .ref dr5, .ref dr6, .ref dr7, .ref dr8, .ref dr9])), (dr5, .inl (g.2 0, 8, .inl dmeanings))] := hD
              refine W.eq (g2 := F0 m 91 ls [.int (u524.1 0)]) rfl ?_
              refine lv_istore_n (lv' := [(3, .int (u524.1 0)), (8, .int x516), (7, .int x517), (6, .int z482), (5, .int x473), (4, .int x474), (0, .ref h0), (1, .ref d0), (2, .ref m0)]) hx hb dX5_findFirstRow_91 rfl hl (by decide) rfl (fun ls hl => ?_)
              refine lv_aload_n hx hb dX5_findFirstRow_92 rfl (lv_at hl 6 rfl) ?_
              refine g_get (C := RX5) (T := TX5) (N := 5) (ci := 5) (v := .int pgentle) FC hKn hP i_X5 0 rfl rfl 3 (by decide) b_113 rfl dX5_findFirstRow_93 ?_
              refine lv_if_ne (tgt := 110) hx hb dX5_findFirstRow_96 (by decide) (fun c526 => ?_) (fun c526 => ?_)
              · have c526 := k_ne (a := pgentle.toInt) (b := 0) rfl (by decide) c526
                obtain ⟨z527, e_z527⟩ : ∃ y : Int32, y = x473 + 1 := ⟨_, rfl⟩
                have t_z527 : z527.toInt = x473.toInt + 1 := by rw [e_z527]; exact addk (by decide) (by omega) (by omega)
                refine lv_iinc (v := z527) (lv' := [(5, .int z527), (3, .int (u524.1 0)), (8, .int x516), (7, .int x517), (6, .int z482), (4, .int x474), (0, .ref h0), (1, .ref d0), (2, .ref m0)]) hx hb dX5_findFirstRow_110 hl (k := 4) rfl (by rw [e_z527]; rfl) (by decide) rfl (fun ls hl => ?_)
                refine lv_goto (tgt := 14) hx hb dX5_findFirstRow_113 (by decide) ?_
                exact ih478 z527 x474 (u524.1 0) f523 _ _ ls (by omega) (by omega) a_f523 (by omega) (hP.sub [0, 1, 2, 7, 3, 4, 5, 6] rfl) (hD.sub [0, 1, 2, 7, 3, 4, 5, 6] (by decide +kernel) rfl) hS (lv_sub hl [0, 5, 1, 6, 7, 8] rfl)
              · have c526 := k_eq (a := pgentle.toInt) (b := 0) rfl (by decide) c526
                refine lv_aload_n hx hb dX5_findFirstRow_99 rfl (lv_at hl 6 rfl) ?_
                refine lv_iload hx hb dX5_findFirstRow_100 (lv_at hl 3 rfl) ?_
                refine lv_iconst (v := 1) hx hb dX5_findFirstRow_102 (by decide) ?_
                refine lv_isub hx hb dX5_findFirstRow_103 ?_
                refine lv_topi (fun z528 e_z528 => ?_)
                have t_z528 : z528.toInt = z482.toInt - ((1 : Int32)).toInt := by rw [e_z528]; exact fb_subI (by omega) (by omega)
                refine lv_iload_n hx hb dX5_findFirstRow_104 rfl (lv_at hl 0 rfl) ?_
                refine call_V (As := [.int z528, .int (u524.1 0)]) (rest := []) (wr := [(pr1, .inl (g.2 0, 10, .inl f523)), (dr4, .inl (g.2 0, 8, .inl dshames)), (m0, .inr (4, [.ref mr0])), (mr0, .inl (g.2 0, 256, .inl mmeans)), (d0, .inr (0, [.int dstates, .int dreally, .int ddays, .int dheal, .int dleak, .int dlines, .int dhearers, .int dwords, .int dplans, .int dnews, .ref dr0, .ref dr1, .ref dr2, .ref dr3, .ref dr4, .ref dr5, .ref dr6, .ref dr7, .ref dr8, .ref dr9])), (dr5, .inl (g.2 0, 8, .inl dmeanings))]) FC hKn hZ (k_X5_costWithDays l g h0 pr0 pr1 pcost pgentle phonest ptable z528 (u524.1 0) (by omega) (by omega) (by omega) (by omega)) m_yX5_costWithDays b_110 (ci := 5) rfl rfl rfl hP hD hS hA [0, 1] [2, 3, 4, 5, 6, 7] rfl (by decide) rfl (by decide) (by decide +kernel) rfl hl.1 rfl (Nat.le_of_ble_eq_true rfl) dX5_findFirstRow_105 ⟨(Nat.le_of_ble_eq_true rfl), (Nat.le_of_ble_eq_true rfl)⟩ ⟨(Nat.le_of_ble_eq_true rfl), (Nat.le_of_ble_eq_true rfl)⟩ (fun u529 H locs q530 hP hD hS => ?_)
                have hP : va_P g.1 vwCl [(pr1, .inl (g.2 0, 10, .inl f523)), (dr4, .inl (g.2 0, 8, .inl dshames)), (m0, .inr (4, [.ref mr0])), (mr0, .inl (g.2 0, 256, .inl mmeans)), (d0, .inr (0, [.int dstates, .int dreally, .int ddays, .int dheal, .int dleak, .int dlines, .int dhearers, .int dwords, .int dplans, .int dnews, .ref dr0, .ref dr1, .ref dr2, .ref dr3, .ref dr4, .ref dr5, .ref dr6, .ref dr7, .ref dr8, .ref dr9])), (dr5, .inl (g.2 0, 8, .inl dmeanings)), (h0, .inr (5, [.ref pr0, .ref pr1, .int pcost, .int pgentle, .int phonest])), (pr0, .inl (g.2 0, 2816, .inl ptable))] H := hP
                have hD : va_D A [(pr1, .inl (g.2 0, 10, .inl f523)), (dr4, .inl (g.2 0, 8, .inl dshames)), (m0, .inr (4, [.ref mr0])), (mr0, .inl (g.2 0, 256, .inl mmeans)), (d0, .inr (0, [.int dstates, .int dreally, .int ddays, .int dheal, .int dleak, .int dlines, .int dhearers, .int dwords, .int dplans, .int dnews, .ref dr0, .ref dr1, .ref dr2, .ref dr3, .ref dr4, .ref dr5, .ref dr6, .ref dr7, .ref dr8, .ref dr9])), (dr5, .inl (g.2 0, 8, .inl dmeanings)), (h0, .inr (5, [.ref pr0, .ref pr1, .int pcost, .int pgentle, .int phonest])), (pr0, .inl (g.2 0, 2816, .inl ptable))] := hD
                refine W.eq (g2 := F0 m 108 ls [.int (u529.1 0)]) rfl ?_
                refine lv_istore (lv' := [(4, .int (u529.1 0)), (3, .int (u524.1 0)), (8, .int x516), (7, .int x517), (6, .int z482), (5, .int x473), (0, .ref h0), (1, .ref d0), (2, .ref m0)]) hx hb dX5_findFirstRow_108 hl (by decide) rfl (fun ls hl => ?_)
                obtain ⟨z531, e_z531⟩ : ∃ y : Int32, y = x473 + 1 := ⟨_, rfl⟩
                have t_z531 : z531.toInt = x473.toInt + 1 := by rw [e_z531]; exact addk (by decide) (by omega) (by omega)
                refine lv_iinc (v := z531) (lv' := [(5, .int z531), (4, .int (u529.1 0)), (3, .int (u524.1 0)), (8, .int x516), (7, .int x517), (6, .int z482), (0, .ref h0), (1, .ref d0), (2, .ref m0)]) hx hb dX5_findFirstRow_110 hl (k := 5) rfl (by rw [e_z531]; rfl) (by decide) rfl (fun ls hl => ?_)
                refine lv_goto (tgt := 14) hx hb dX5_findFirstRow_113 (by decide) ?_
                exact ih478 z531 (u529.1 0) (u524.1 0) f523 _ _ ls (by omega) (by omega) a_f523 (by omega) (hP.sub [6, 7, 0, 5, 1, 2, 3, 4] rfl) (hD.sub [6, 7, 0, 5, 1, 2, 3, 4] (by decide +kernel) rfl) hS (lv_sub hl [0, 1, 2, 6, 7, 8] rfl)
            · have c522 := k_nlt (a := x516.toInt) (b := 0) rfl (by decide) c522
              refine lv_aload_n hx hb dX5_findFirstRow_49 rfl (lv_at hl 6 rfl) ?_
              refine lv_aload_n hx hb dX5_findFirstRow_50 rfl (lv_at hl 7 rfl) ?_
              refine lv_aload_n hx hb dX5_findFirstRow_51 rfl (lv_at hl 8 rfl) ?_
              refine lv_iload hx hb dX5_findFirstRow_52 (lv_at hl 0 rfl) ?_
              refine lv_iload hx hb dX5_findFirstRow_54 (lv_at hl 2 rfl) ?_
              refine lv_iload_n hx hb dX5_findFirstRow_56 rfl (lv_at hl 5 rfl) ?_
              refine call_V (As := [.ref d0, .ref m0, .int x516, .int z482, .int x475]) (rest := []) (wr := [(pr1, .inl (g.2 0, 10, .inl x476))]) FC hKn hZ (k_X5_costBy l g h0 pr0 pr1 d0 dr0 dr1 dr2 dr3 dr4 dr5 dr6 dr7 dr8 dr9 m0 mr0 pcost pgentle phonest ptable dstates dreally ddays dheal dleak dlines dhearers dwords dplans dnews dmeanings dshames mmeans x516 z482 x475 (by omega) (by omega) (by omega) (by omega) (by omega) (by omega) (by omega) (by omega) (by omega) i_dmeanings (by omega) (by omega) (by omega)) m_yX5_costBy b_118 (ci := 5) rfl rfl rfl hP hD hS hA [0, 1, 7, 3, 4, 5, 6] [2] rfl (by decide +kernel) rfl (by decide) (by decide +kernel) rfl hl.1 rfl (Nat.le_of_ble_eq_true rfl) dX5_findFirstRow_57 ⟨(Nat.le_of_ble_eq_true rfl), (Nat.le_of_ble_eq_true rfl)⟩ ⟨(Nat.le_of_ble_eq_true rfl), (Nat.le_of_ble_eq_true rfl)⟩ (fun u532 H locs q533 hP hD hS => ?_)
              have hP : va_P g.1 vwCl [(pr1, .inl (g.2 0, 10, .inl x476)), (h0, .inr (5, [.ref pr0, .ref pr1, .int pcost, .int pgentle, .int phonest])), (pr0, .inl (g.2 0, 2816, .inl ptable)), (d0, .inr (0, [.int dstates, .int dreally, .int ddays, .int dheal, .int dleak, .int dlines, .int dhearers, .int dwords, .int dplans, .int dnews, .ref dr0, .ref dr1, .ref dr2, .ref dr3, .ref dr4, .ref dr5, .ref dr6, .ref dr7, .ref dr8, .ref dr9])), (dr5, .inl (g.2 0, 8, .inl dmeanings)), (dr4, .inl (g.2 0, 8, .inl dshames)), (m0, .inr (4, [.ref mr0])), (mr0, .inl (g.2 0, 256, .inl mmeans))] H := hP
              have hD : va_D A [(pr1, .inl (g.2 0, 10, .inl x476)), (h0, .inr (5, [.ref pr0, .ref pr1, .int pcost, .int pgentle, .int phonest])), (pr0, .inl (g.2 0, 2816, .inl ptable)), (d0, .inr (0, [.int dstates, .int dreally, .int ddays, .int dheal, .int dleak, .int dlines, .int dhearers, .int dwords, .int dplans, .int dnews, .ref dr0, .ref dr1, .ref dr2, .ref dr3, .ref dr4, .ref dr5, .ref dr6, .ref dr7, .ref dr8, .ref dr9])), (dr5, .inl (g.2 0, 8, .inl dmeanings)), (dr4, .inl (g.2 0, 8, .inl dshames)), (m0, .inr (4, [.ref mr0])), (mr0, .inl (g.2 0, 256, .inl mmeans))] := hD
              refine W.eq (g2 := F0 m 60 ls [.int (u532.1 0)]) rfl ?_
              refine lv_iload hx hb dX5_findFirstRow_60 (lv_at hl 4 rfl) ?_
              refine lv_icmp_gt (tgt := 69) hx hb dX5_findFirstRow_62 (by decide) (fun c534 => ?_) (fun c534 => ?_)
              · have c534 := k_lt (a := x474.toInt) (b := (u532.1 0).toInt) rfl rfl c534
                obtain ⟨z535, e_z535⟩ : ∃ y : Int32, y = x516 + (-1) := ⟨_, rfl⟩
                have t_z535 : z535.toInt = x516.toInt + (-1) := by rw [e_z535]; exact addk (by decide) (by omega) (by omega)
                refine lv_iinc (v := z535) (lv' := [(8, .int z535), (7, .int x517), (6, .int z482), (5, .int x473), (4, .int x474), (3, .int x475), (0, .ref h0), (1, .ref d0), (2, .ref m0)]) hx hb dX5_findFirstRow_69 hl (k := 0) rfl (by rw [e_z535]; rfl) (by decide) rfl (fun ls hl => ?_)
                refine lv_goto (tgt := 44) hx hb dX5_findFirstRow_72 (by decide) ?_
                exact ih519 z535 x517 _ _ ls (by omega) (by omega) (by omega) (hP.sub [1, 2, 0, 4, 5, 6, 7, 3] rfl) (hD.sub [1, 2, 0, 4, 5, 6, 7, 3] (by decide +kernel) rfl) hS (lv_sub hl [0, 1, 2, 3, 4, 5, 6, 7, 8] rfl)
              · have c534 := k_nlt (a := x474.toInt) (b := (u532.1 0).toInt) rfl rfl c534
                refine lv_iload hx hb dX5_findFirstRow_65 (lv_at hl 0 rfl) ?_
                refine lv_istore (lv' := [(7, .int x516), (8, .int x516), (6, .int z482), (5, .int x473), (4, .int x474), (3, .int x475), (0, .ref h0), (1, .ref d0), (2, .ref m0)]) hx hb dX5_findFirstRow_67 hl (by decide) rfl (fun ls hl => ?_)
                obtain ⟨z536, e_z536⟩ : ∃ y : Int32, y = x516 + (-1) := ⟨_, rfl⟩
                have t_z536 : z536.toInt = x516.toInt + (-1) := by rw [e_z536]; exact addk (by decide) (by omega) (by omega)
                refine lv_iinc (v := z536) (lv' := [(8, .int z536), (7, .int x516), (6, .int z482), (5, .int x473), (4, .int x474), (3, .int x475), (0, .ref h0), (1, .ref d0), (2, .ref m0)]) hx hb dX5_findFirstRow_69 hl (k := 1) rfl (by rw [e_z536]; rfl) (by decide) rfl (fun ls hl => ?_)
                refine lv_goto (tgt := 44) hx hb dX5_findFirstRow_72 (by decide) ?_
                exact ih519 z536 x516 _ _ ls (by omega) (by omega) (by omega) (hP.sub [1, 2, 0, 4, 5, 6, 7, 3] rfl) (hD.sub [1, 2, 0, 4, 5, 6, 7, 3] (by decide +kernel) rfl) hS (lv_sub hl [0, 1, 2, 3, 4, 5, 6, 7, 8] rfl)
        have kc8 : (8 : Int32).toInt = 8 := by decide
        exact lp518 _ z483 (8 : Int32) _ _ ls (by omega) (by decide) (Nat.lt_succ_self _) hP hD hS (lv_sub hl [0, 1, 2, 3, 4, 5, 6, 7, 8] rfl)
  have kc0 : (0 : Int32).toInt = 0 := by decide
  exact lp477 _ (0 : Int32) pcost (u1.1 0) pfirstRow _ _ ls (by decide) (by omega) i_pfirstRow (Nat.lt_succ_self _) hP hD hS (lv_sub hl [0, 1, 2, 3, 4, 5] rfl)
set_option maxRecDepth 100000 in
set_option maxHeartbeats 4000000 in
theorem k_X5_solve (l : Launch) (g : GG) (h0 : Nat) (pr0 : Nat) (pr1 : Nat) (d0 : Nat) (dr0 : Nat) (dr1 : Nat) (dr2 : Nat) (dr3 : Nat) (dr4 : Nat) (dr5 : Nat) (dr6 : Nat) (dr7 : Nat) (dr8 : Nat) (dr9 : Nat) (m0 : Nat) (mr0 : Nat) (k0 : Nat) (rr0 : Nat) (rr1 : Nat) (pcost : Int32) (pgentle : Int32) (phonest : Int32) (ptable : Nat → Int32) (pfirstRow : Nat → Int32) (dstates : Int32) (dreally : Int32) (ddays : Int32) (dheal : Int32) (dleak : Int32) (dlines : Int32) (dhearers : Int32) (dwords : Int32) (dplans : Int32) (dnews : Int32) (dmeanings : Nat → Int32) (dshames : Nat → Int32) (mmeans : Nat → Int32) (rsize : Int32) (rbeliefs : Nat → Int32) (p4 : Int32) (p5 : Int32) (i_pgentle : 0 ≤ pgentle.toInt ∧ pgentle.toInt ≤ 1) (i_phonest : 0 ≤ phonest.toInt ∧ phonest.toInt ≤ 1) (i_pfirstRow : ab pfirstRow 10 0 8) (i_dstates : 0 ≤ dstates.toInt ∧ dstates.toInt ≤ 8) (i_dreally : 0 ≤ dreally.toInt ∧ dreally.toInt ≤ 7) (i_ddays : 0 ≤ ddays.toInt ∧ ddays.toInt ≤ 10) (i_dhearers : 0 ≤ dhearers.toInt ∧ dhearers.toInt ≤ 4) (i_dwords : 0 ≤ dwords.toInt ∧ dwords.toInt ≤ 8) (i_dplans : 0 ≤ dplans.toInt ∧ dplans.toInt ≤ 4) (i_dnews : 0 ≤ dnews.toInt ∧ dnews.toInt ≤ 6) (i_dmeanings : ab dmeanings 8 0 255) (i_rsize : 0 ≤ rsize.toInt ∧ rsize.toInt ≤ 256) (i_rbeliefs : ab rbeliefs 256 0 255) (i_p4 : 0 ≤ p4.toInt ∧ p4.toInt ≤ 1) (i_p5 : 0 ≤ p5.toInt ∧ p5.toInt ≤ 1) : Ct l g yX5_solve cX5_solve 9 none { frames := 4, cells := 0, slots := 0, locals := 100 } [.ref h0, .ref d0, .ref m0, .ref k0, .int p4, .int p5] [(h0, .inr (5, [.ref pr0, .ref pr1, .int pcost, .int pgentle, .int phonest])), (pr0, .inl (g.2 0, 2816, .inl ptable)), (pr1, .inl (g.2 0, 10, .inl pfirstRow)), (d0, .inr (0, [.int dstates, .int dreally, .int ddays, .int dheal, .int dleak, .int dlines, .int dhearers, .int dwords, .int dplans, .int dnews, .ref dr0, .ref dr1, .ref dr2, .ref dr3, .ref dr4, .ref dr5, .ref dr6, .ref dr7, .ref dr8, .ref dr9])), (dr5, .inl (g.2 0, 8, .inl dmeanings)), (dr4, .inl (g.2 0, 8, .inl dshames)), (m0, .inr (4, [.ref mr0])), (mr0, .inl (g.2 0, 256, .inl mmeans)), (k0, .inr (6, [.ref rr0, .ref rr1, .int rsize])), (rr0, .inl (g.2 0, 256, .inl rbeliefs))] (S := (Nat → Int32) × (Nat → Nat → Int32) × (Nat → Nat → Int64)) (fun _ => none) (fun u => (0 ≤ (u.1 2).toInt ∧ (u.1 2).toInt ≤ 1) ∧ (0 ≤ (u.1 3).toInt ∧ (u.1 3).toInt ≤ 1) ∧ (ab (u.2.1 1) 10 0 8)) (fun u => [(h0, .inr (5, [.ref pr0, .ref pr1, .int (u.1 1), .int (u.1 2), .int (u.1 3)])), (pr0, .inl (g.2 0, 2816, .inl (u.2.1 0))), (pr1, .inl (g.2 0, 10, .inl (u.2.1 1))), (d0, .inr (0, [.int dstates, .int dreally, .int ddays, .int dheal, .int dleak, .int dlines, .int dhearers, .int dwords, .int dplans, .int dnews, .ref dr0, .ref dr1, .ref dr2, .ref dr3, .ref dr4, .ref dr5, .ref dr6, .ref dr7, .ref dr8, .ref dr9])), (dr5, .inl (g.2 0, 8, .inl dmeanings)), (dr4, .inl (g.2 0, 8, .inl dshames)), (m0, .inr (4, [.ref mr0])), (mr0, .inl (g.2 0, 256, .inl mmeans)), (k0, .inr (6, [.ref rr0, .ref rr1, .int rsize])), (rr0, .inl (g.2 0, 256, .inl rbeliefs))]) := by
  refine Ct.of (by decide) (Nat.le_of_ble_eq_true rfl) ?_
  intro p e s m below meth c A ls FX hP hD hS hl
  obtain ⟨FC, hr, hlk, hKn, hA, hnm, hZ⟩ := id FX
  have FC : CallFix p m c cX5_solve 9 s _ BIG RX5 := FC
  obtain ⟨hx, hb, hml, hown, hB⟩ := id FC
  have hl : lv_has ls 9 [(0, .ref h0), (1, .ref d0), (2, .ref m0), (3, .ref k0), (4, .int p4), (5, .int p5)] := hl
  refine lv_aload_n hx hb dX5_solve_0 rfl (lv_at hl 0 rfl) ?_
  refine lv_iload hx hb dX5_solve_1 (lv_at hl 4 rfl) ?_
  refine g_put (C := RX5) (T := TX5) (N := 5) (ci := 5) (v := .int p4) FC hKn hP hD hS i_X5 tyX5 tyX5_ok nmX5 0 rfl rfl 3 (by decide) b_113 rfl (nb (by omega) (by omega)).1 (nb (by omega) (by omega)).2 (Nat.le_of_ble_eq_true rfl) dX5_solve_3 (fun H locs hP hD hS => ?_)
  have hP : va_P g.1 vwCl [(h0, .inr (5, [.ref pr0, .ref pr1, .int pcost, .int p4, .int phonest])), (pr0, .inl (g.2 0, 2816, .inl ptable)), (pr1, .inl (g.2 0, 10, .inl pfirstRow)), (d0, .inr (0, [.int dstates, .int dreally, .int ddays, .int dheal, .int dleak, .int dlines, .int dhearers, .int dwords, .int dplans, .int dnews, .ref dr0, .ref dr1, .ref dr2, .ref dr3, .ref dr4, .ref dr5, .ref dr6, .ref dr7, .ref dr8, .ref dr9])), (dr5, .inl (g.2 0, 8, .inl dmeanings)), (dr4, .inl (g.2 0, 8, .inl dshames)), (m0, .inr (4, [.ref mr0])), (mr0, .inl (g.2 0, 256, .inl mmeans)), (k0, .inr (6, [.ref rr0, .ref rr1, .int rsize])), (rr0, .inl (g.2 0, 256, .inl rbeliefs))] H := hP
  have hD : va_D A [(h0, .inr (5, [.ref pr0, .ref pr1, .int pcost, .int p4, .int phonest])), (pr0, .inl (g.2 0, 2816, .inl ptable)), (pr1, .inl (g.2 0, 10, .inl pfirstRow)), (d0, .inr (0, [.int dstates, .int dreally, .int ddays, .int dheal, .int dleak, .int dlines, .int dhearers, .int dwords, .int dplans, .int dnews, .ref dr0, .ref dr1, .ref dr2, .ref dr3, .ref dr4, .ref dr5, .ref dr6, .ref dr7, .ref dr8, .ref dr9])), (dr5, .inl (g.2 0, 8, .inl dmeanings)), (dr4, .inl (g.2 0, 8, .inl dshames)), (m0, .inr (4, [.ref mr0])), (mr0, .inl (g.2 0, 256, .inl mmeans)), (k0, .inr (6, [.ref rr0, .ref rr1, .int rsize])), (rr0, .inl (g.2 0, 256, .inl rbeliefs))] := hD
  refine lv_aload_n hx hb dX5_solve_6 rfl (lv_at hl 0 rfl) ?_
  refine lv_iload hx hb dX5_solve_7 (lv_at hl 5 rfl) ?_
  refine g_put (C := RX5) (T := TX5) (N := 5) (ci := 5) (v := .int p5) FC hKn hP hD hS i_X5 tyX5 tyX5_ok nmX5 0 rfl rfl 4 (by decide) b_108 rfl (nb (by omega) (by omega)).1 (nb (by omega) (by omega)).2 (Nat.le_of_ble_eq_true rfl) dX5_solve_9 (fun H locs hP hD hS => ?_)
  have hP : va_P g.1 vwCl [(h0, .inr (5, [.ref pr0, .ref pr1, .int pcost, .int p4, .int p5])), (pr0, .inl (g.2 0, 2816, .inl ptable)), (pr1, .inl (g.2 0, 10, .inl pfirstRow)), (d0, .inr (0, [.int dstates, .int dreally, .int ddays, .int dheal, .int dleak, .int dlines, .int dhearers, .int dwords, .int dplans, .int dnews, .ref dr0, .ref dr1, .ref dr2, .ref dr3, .ref dr4, .ref dr5, .ref dr6, .ref dr7, .ref dr8, .ref dr9])), (dr5, .inl (g.2 0, 8, .inl dmeanings)), (dr4, .inl (g.2 0, 8, .inl dshames)), (m0, .inr (4, [.ref mr0])), (mr0, .inl (g.2 0, 256, .inl mmeans)), (k0, .inr (6, [.ref rr0, .ref rr1, .int rsize])), (rr0, .inl (g.2 0, 256, .inl rbeliefs))] H := hP
  have hD : va_D A [(h0, .inr (5, [.ref pr0, .ref pr1, .int pcost, .int p4, .int p5])), (pr0, .inl (g.2 0, 2816, .inl ptable)), (pr1, .inl (g.2 0, 10, .inl pfirstRow)), (d0, .inr (0, [.int dstates, .int dreally, .int ddays, .int dheal, .int dleak, .int dlines, .int dhearers, .int dwords, .int dplans, .int dnews, .ref dr0, .ref dr1, .ref dr2, .ref dr3, .ref dr4, .ref dr5, .ref dr6, .ref dr7, .ref dr8, .ref dr9])), (dr5, .inl (g.2 0, 8, .inl dmeanings)), (dr4, .inl (g.2 0, 8, .inl dshames)), (m0, .inr (4, [.ref mr0])), (mr0, .inl (g.2 0, 256, .inl mmeans)), (k0, .inr (6, [.ref rr0, .ref rr1, .int rsize])), (rr0, .inl (g.2 0, 256, .inl rbeliefs))] := hD
  refine lv_iconst (v := 0) hx hb dX5_solve_12 (by decide) ?_
  refine lv_istore (lv' := [(6, .int 0), (0, .ref h0), (1, .ref d0), (2, .ref m0), (3, .ref k0), (4, .int p4), (5, .int p5)]) hx hb dX5_solve_13 hl (by decide) rfl (fun ls hl => ?_)
  have lp5191 : ∀ (n5193 : Nat) (x5189 : Int32) (x5190 : Nat → Int32) (H : Heap) (locs : List Loc) (ls : Array Slot), 0 ≤ x5189.toInt ∧ x5189.toInt ≤ 256 → (256 - x5189.toInt).toNat < n5193 → va_P g.1 vwCl [(h0, .inr (5, [.ref pr0, .ref pr1, .int pcost, .int p4, .int p5])), (pr0, .inl (g.2 0, 2816, .inl x5190)), (pr1, .inl (g.2 0, 10, .inl pfirstRow)), (d0, .inr (0, [.int dstates, .int dreally, .int ddays, .int dheal, .int dleak, .int dlines, .int dhearers, .int dwords, .int dplans, .int dnews, .ref dr0, .ref dr1, .ref dr2, .ref dr3, .ref dr4, .ref dr5, .ref dr6, .ref dr7, .ref dr8, .ref dr9])), (dr5, .inl (g.2 0, 8, .inl dmeanings)), (dr4, .inl (g.2 0, 8, .inl dshames)), (m0, .inr (4, [.ref mr0])), (mr0, .inl (g.2 0, 256, .inl mmeans)), (k0, .inr (6, [.ref rr0, .ref rr1, .int rsize])), (rr0, .inl (g.2 0, 256, .inl rbeliefs))] H → va_D A [(h0, .inr (5, [.ref pr0, .ref pr1, .int pcost, .int p4, .int p5])), (pr0, .inl (g.2 0, 2816, .inl x5190)), (pr1, .inl (g.2 0, 10, .inl pfirstRow)), (d0, .inr (0, [.int dstates, .int dreally, .int ddays, .int dheal, .int dleak, .int dlines, .int dhearers, .int dwords, .int dplans, .int dnews, .ref dr0, .ref dr1, .ref dr2, .ref dr3, .ref dr4, .ref dr5, .ref dr6, .ref dr7, .ref dr8, .ref dr9])), (dr5, .inl (g.2 0, 8, .inl dmeanings)), (dr4, .inl (g.2 0, 8, .inl dshames)), (m0, .inr (4, [.ref mr0])), (mr0, .inl (g.2 0, 256, .inl mmeans)), (k0, .inr (6, [.ref rr0, .ref rr1, .int rsize])), (rr0, .inl (g.2 0, 256, .inl rbeliefs))] → va_S A s.heap H locs → lv_has ls 9 [(6, .int x5189), (0, .ref h0), (1, .ref d0), (2, .ref m0), (3, .ref k0), (4, .int p4), (5, .int p5)] → W p l e { frames := 4, cells := 0, slots := 0, locals := 100 } s m ([.ref h0, .ref d0, .ref m0, .ref k0, .int p4, .int p5].toArray) below meth c H locs 0 0 (MQ below (QX (S := (Nat → Int32) × (Nat → Nat → Int32) × (Nat → Nat → Int64)) (fun _ => none) (fun u => (0 ≤ (u.1 2).toInt ∧ (u.1 2).toInt ≤ 1) ∧ (0 ≤ (u.1 3).toInt ∧ (u.1 3).toInt ≤ 1) ∧ (ab (u.2.1 1) 10 0 8)) g (fun u => [(h0, .inr (5, [.ref pr0, .ref pr1, .int (u.1 1), .int (u.1 2), .int (u.1 3)])), (pr0, .inl (g.2 0, 2816, .inl (u.2.1 0))), (pr1, .inl (g.2 0, 10, .inl (u.2.1 1))), (d0, .inr (0, [.int dstates, .int dreally, .int ddays, .int dheal, .int dleak, .int dlines, .int dhearers, .int dwords, .int dplans, .int dnews, .ref dr0, .ref dr1, .ref dr2, .ref dr3, .ref dr4, .ref dr5, .ref dr6, .ref dr7, .ref dr8, .ref dr9])), (dr5, .inl (g.2 0, 8, .inl dmeanings)), (dr4, .inl (g.2 0, 8, .inl dshames)), (m0, .inr (4, [.ref mr0])), (mr0, .inl (g.2 0, 256, .inl mmeans)), (k0, .inr (6, [.ref rr0, .ref rr1, .int rsize])), (rr0, .inl (g.2 0, 256, .inl rbeliefs))]) A) ([.ref h0, .ref d0, .ref m0, .ref k0, .int p4, .int p5].toArray) s 0 0 A) (F0 m 15 ls []) := by
    intro n5193
    induction n5193 with
    | zero =>
      intro x5189 x5190 H locs ls h_x5189 hn5194
      exact absurd hn5194 (Nat.not_lt_zero _)
    | succ n5193 ih5192 =>
      intro x5189 x5190 H locs ls h_x5189 hn5194 hP hD hS hl
      refine lv_iload hx hb dX5_solve_15 (lv_at hl 0 rfl) ?_
      refine lv_aload_n hx hb dX5_solve_17 rfl (lv_at hl 4 rfl) ?_
      refine g_getN (C := RX6) (T := TX6) (N := 3) (ci := 6) (v := .int rsize) FC hKn hP i_X6 8 rfl rfl 2 (by decide) b_127 rfl dX5_solve_18 ?_
      refine lv_icmp_ge (tgt := 61) hx hb dX5_solve_21 (by decide) (fun c5195 => ?_) (fun c5195 => ?_)
      · have c5195 := k_le (a := rsize.toInt) (b := x5189.toInt) rfl rfl c5195
        refine lv_iconst (v := 1) hx hb dX5_solve_61 (by decide) ?_
        refine lv_istore (lv' := [(6, .int 1), (0, .ref h0), (1, .ref d0), (2, .ref m0), (3, .ref k0), (4, .int p4), (5, .int p5)]) hx hb dX5_solve_62 hl (by decide) rfl (fun ls hl => ?_)
        have lp6066 : ∀ (n6068 : Nat) (x6064 : Int32) (x6065 : Nat → Int32) (H : Heap) (locs : List Loc) (ls : Array Slot), 1 ≤ x6064.toInt ∧ x6064.toInt ≤ 11 → (11 - x6064.toInt).toNat < n6068 → va_P g.1 vwCl [(h0, .inr (5, [.ref pr0, .ref pr1, .int pcost, .int p4, .int p5])), (pr0, .inl (g.2 0, 2816, .inl x6065)), (pr1, .inl (g.2 0, 10, .inl pfirstRow)), (d0, .inr (0, [.int dstates, .int dreally, .int ddays, .int dheal, .int dleak, .int dlines, .int dhearers, .int dwords, .int dplans, .int dnews, .ref dr0, .ref dr1, .ref dr2, .ref dr3, .ref dr4, .ref dr5, .ref dr6, .ref dr7, .ref dr8, .ref dr9])), (dr5, .inl (g.2 0, 8, .inl dmeanings)), (dr4, .inl (g.2 0, 8, .inl dshames)), (m0, .inr (4, [.ref mr0])), (mr0, .inl (g.2 0, 256, .inl mmeans)), (k0, .inr (6, [.ref rr0, .ref rr1, .int rsize])), (rr0, .inl (g.2 0, 256, .inl rbeliefs))] H → va_D A [(h0, .inr (5, [.ref pr0, .ref pr1, .int pcost, .int p4, .int p5])), (pr0, .inl (g.2 0, 2816, .inl x6065)), (pr1, .inl (g.2 0, 10, .inl pfirstRow)), (d0, .inr (0, [.int dstates, .int dreally, .int ddays, .int dheal, .int dleak, .int dlines, .int dhearers, .int dwords, .int dplans, .int dnews, .ref dr0, .ref dr1, .ref dr2, .ref dr3, .ref dr4, .ref dr5, .ref dr6, .ref dr7, .ref dr8, .ref dr9])), (dr5, .inl (g.2 0, 8, .inl dmeanings)), (dr4, .inl (g.2 0, 8, .inl dshames)), (m0, .inr (4, [.ref mr0])), (mr0, .inl (g.2 0, 256, .inl mmeans)), (k0, .inr (6, [.ref rr0, .ref rr1, .int rsize])), (rr0, .inl (g.2 0, 256, .inl rbeliefs))] → va_S A s.heap H locs → lv_has ls 9 [(6, .int x6064), (0, .ref h0), (1, .ref d0), (2, .ref m0), (3, .ref k0), (4, .int p4), (5, .int p5)] → W p l e { frames := 4, cells := 0, slots := 0, locals := 100 } s m ([.ref h0, .ref d0, .ref m0, .ref k0, .int p4, .int p5].toArray) below meth c H locs 0 0 (MQ below (QX (S := (Nat → Int32) × (Nat → Nat → Int32) × (Nat → Nat → Int64)) (fun _ => none) (fun u => (0 ≤ (u.1 2).toInt ∧ (u.1 2).toInt ≤ 1) ∧ (0 ≤ (u.1 3).toInt ∧ (u.1 3).toInt ≤ 1) ∧ (ab (u.2.1 1) 10 0 8)) g (fun u => [(h0, .inr (5, [.ref pr0, .ref pr1, .int (u.1 1), .int (u.1 2), .int (u.1 3)])), (pr0, .inl (g.2 0, 2816, .inl (u.2.1 0))), (pr1, .inl (g.2 0, 10, .inl (u.2.1 1))), (d0, .inr (0, [.int dstates, .int dreally, .int ddays, .int dheal, .int dleak, .int dlines, .int dhearers, .int dwords, .int dplans, .int dnews, .ref dr0, .ref dr1, .ref dr2, .ref dr3, .ref dr4, .ref dr5, .ref dr6, .ref dr7, .ref dr8, .ref dr9])), (dr5, .inl (g.2 0, 8, .inl dmeanings)), (dr4, .inl (g.2 0, 8, .inl dshames)), (m0, .inr (4, [.ref mr0])), (mr0, .inl (g.2 0, 256, .inl mmeans)), (k0, .inr (6, [.ref rr0, .ref rr1, .int rsize])), (rr0, .inl (g.2 0, 256, .inl rbeliefs))]) A) ([.ref h0, .ref d0, .ref m0, .ref k0, .int p4, .int p5].toArray) s 0 0 A) (F0 m 64 ls []) := by
          intro n6068
          induction n6068 with
          | zero =>
            intro x6064 x6065 H locs ls h_x6064 hn6069
            exact absurd hn6069 (Nat.not_lt_zero _)
          | succ n6068 ih6067 =>
            intro x6064 x6065 H locs ls h_x6064 hn6069 hP hD hS hl
            refine lv_iload hx hb dX5_solve_64 (lv_at hl 0 rfl) ?_
            refine lv_aload_n hx hb dX5_solve_66 rfl (lv_at hl 2 rfl) ?_
            refine g_getN (C := RX0) (T := TX0) (N := 20) (ci := 0) (v := .int ddays) FC hKn hP i_X0 3 rfl rfl 2 (by decide) b_125 rfl dX5_solve_67 ?_
            refine lv_icmp_gt (tgt := 130) hx hb dX5_solve_70 (by decide) (fun c6070 => ?_) (fun c6070 => ?_)
            · have c6070 := k_lt (a := ddays.toInt) (b := x6064.toInt) rfl rfl c6070
              refine lv_aload_n hx hb dX5_solve_130 rfl (lv_at hl 1 rfl) ?_
              refine lv_aload_n hx hb dX5_solve_131 rfl (lv_at hl 2 rfl) ?_
              refine g_getN (C := RX0) (T := TX0) (N := 20) (ci := 0) (v := .int ddays) FC hKn hP i_X0 3 rfl rfl 2 (by decide) b_125 rfl dX5_solve_132 ?_
              refine lv_aload_n hx hb dX5_solve_135 rfl (lv_at hl 2 rfl) ?_
              refine call_VN (As := []) (rest := [.int ddays, .ref h0]) (wr := [(h0, .inr (5, [.ref pr0, .ref pr1, .int pcost, .int p4, .int p5])), (pr0, .inl (g.2 0, 2816, .inl x6065)), (pr1, .inl (g.2 0, 10, .inl pfirstRow)), (dr5, .inl (g.2 0, 8, .inl dmeanings)), (dr4, .inl (g.2 0, 8, .inl dshames)), (m0, .inr (4, [.ref mr0])), (mr0, .inl (g.2 0, 256, .inl mmeans)), (k0, .inr (6, [.ref rr0, .ref rr1, .int rsize])), (rr0, .inl (g.2 0, 256, .inl rbeliefs))]) FC hKn hZ (k_X0_everything l g d0 dr0 dr1 dr2 dr3 dr4 dr5 dr6 dr7 dr8 dr9 dstates dreally ddays dheal dleak dlines dhearers dwords dplans dnews (by omega) (by omega) (by omega) (by omega) (by omega) (by omega) (by omega)) m_yX0_everything b_123 (ci := 0) rfl rfl rfl hP hD hS hA [3] [0, 1, 2, 4, 5, 6, 7, 8, 9] rfl (by decide) rfl (by decide +kernel) (by decide +kernel) rfl hl.1 rfl (Nat.le_of_ble_eq_true rfl) dX5_solve_136 ⟨(Nat.le_of_ble_eq_true rfl), (Nat.le_of_ble_eq_true rfl)⟩ ⟨(Nat.le_of_ble_eq_true rfl), (Nat.le_of_ble_eq_true rfl)⟩ (fun u6071 H locs q6072 hP hD hS => ?_)
              have q6072_0 : 0 ≤ (u6071.1 0).toInt ∧ (u6071.1 0).toInt ≤ 255 := q6072
              have hP : va_P g.1 vwCl [(h0, .inr (5, [.ref pr0, .ref pr1, .int pcost, .int p4, .int p5])), (pr0, .inl (g.2 0, 2816, .inl x6065)), (pr1, .inl (g.2 0, 10, .inl pfirstRow)), (dr5, .inl (g.2 0, 8, .inl dmeanings)), (dr4, .inl (g.2 0, 8, .inl dshames)), (m0, .inr (4, [.ref mr0])), (mr0, .inl (g.2 0, 256, .inl mmeans)), (k0, .inr (6, [.ref rr0, .ref rr1, .int rsize])), (rr0, .inl (g.2 0, 256, .inl rbeliefs)), (d0, .inr (0, [.int dstates, .int dreally, .int ddays, .int dheal, .int dleak, .int dlines, .int dhearers, .int dwords, .int dplans, .int dnews, .ref dr0, .ref dr1, .ref dr2, .ref dr3, .ref dr4, .ref dr5, .ref dr6, .ref dr7, .ref dr8, .ref dr9]))] H := hP
              have hD : va_D A [(h0, .inr (5, [.ref pr0, .ref pr1, .int pcost, .int p4, .int p5])), (pr0, .inl (g.2 0, 2816, .inl x6065)), (pr1, .inl (g.2 0, 10, .inl pfirstRow)), (dr5, .inl (g.2 0, 8, .inl dmeanings)), (dr4, .inl (g.2 0, 8, .inl dshames)), (m0, .inr (4, [.ref mr0])), (mr0, .inl (g.2 0, 256, .inl mmeans)), (k0, .inr (6, [.ref rr0, .ref rr1, .int rsize])), (rr0, .inl (g.2 0, 256, .inl rbeliefs)), (d0, .inr (0, [.int dstates, .int dreally, .int ddays, .int dheal, .int dleak, .int dlines, .int dhearers, .int dwords, .int dplans, .int dnews, .ref dr0, .ref dr1, .ref dr2, .ref dr3, .ref dr4, .ref dr5, .ref dr6, .ref dr7, .ref dr8, .ref dr9]))] := hD
              refine W.eq (g2 := F0 m 139 ls [.int (u6071.1 0), .int ddays, .ref h0]) rfl ?_
              refine call_V (As := [.int ddays, .int (u6071.1 0)]) (rest := []) (wr := [(pr1, .inl (g.2 0, 10, .inl pfirstRow)), (dr5, .inl (g.2 0, 8, .inl dmeanings)), (dr4, .inl (g.2 0, 8, .inl dshames)), (m0, .inr (4, [.ref mr0])), (mr0, .inl (g.2 0, 256, .inl mmeans)), (k0, .inr (6, [.ref rr0, .ref rr1, .int rsize])), (rr0, .inl (g.2 0, 256, .inl rbeliefs)), (d0, .inr (0, [.int dstates, .int dreally, .int ddays, .int dheal, .int dleak, .int dlines, .int dhearers, .int dwords, .int dplans, .int dnews, .ref dr0, .ref dr1, .ref dr2, .ref dr3, .ref dr4, .ref dr5, .ref dr6, .ref dr7, .ref dr8, .ref dr9]))]) FC hKn hZ (k_X5_costWithDays l g h0 pr0 pr1 pcost p4 p5 x6065 ddays (u6071.1 0) (by omega) (by omega) (by omega) (by omega)) m_yX5_costWithDays b_110 (ci := 5) rfl rfl rfl hP hD hS hA [0, 1] [2, 3, 4, 5, 6, 7, 8, 9] rfl (by decide) rfl (by decide +kernel) (by decide +kernel) rfl hl.1 rfl (Nat.le_of_ble_eq_true rfl) dX5_solve_139 ⟨(Nat.le_of_ble_eq_true rfl), (Nat.le_of_ble_eq_true rfl)⟩ ⟨(Nat.le_of_ble_eq_true rfl), (Nat.le_of_ble_eq_true rfl)⟩ (fun u6073 H locs q6074 hP hD hS => ?_)
              have hP : va_P g.1 vwCl [(pr1, .inl (g.2 0, 10, .inl pfirstRow)), (dr5, .inl (g.2 0, 8, .inl dmeanings)), (dr4, .inl (g.2 0, 8, .inl dshames)), (m0, .inr (4, [.ref mr0])), (mr0, .inl (g.2 0, 256, .inl mmeans)), (k0, .inr (6, [.ref rr0, .ref rr1, .int rsize])), (rr0, .inl (g.2 0, 256, .inl rbeliefs)), (d0, .inr (0, [.int dstates, .int dreally, .int ddays, .int dheal, .int dleak, .int dlines, .int dhearers, .int dwords, .int dplans, .int dnews, .ref dr0, .ref dr1, .ref dr2, .ref dr3, .ref dr4, .ref dr5, .ref dr6, .ref dr7, .ref dr8, .ref dr9])), (h0, .inr (5, [.ref pr0, .ref pr1, .int pcost, .int p4, .int p5])), (pr0, .inl (g.2 0, 2816, .inl x6065))] H := hP
              have hD : va_D A [(pr1, .inl (g.2 0, 10, .inl pfirstRow)), (dr5, .inl (g.2 0, 8, .inl dmeanings)), (dr4, .inl (g.2 0, 8, .inl dshames)), (m0, .inr (4, [.ref mr0])), (mr0, .inl (g.2 0, 256, .inl mmeans)), (k0, .inr (6, [.ref rr0, .ref rr1, .int rsize])), (rr0, .inl (g.2 0, 256, .inl rbeliefs)), (d0, .inr (0, [.int dstates, .int dreally, .int ddays, .int dheal, .int dleak, .int dlines, .int dhearers, .int dwords, .int dplans, .int dnews, .ref dr0, .ref dr1, .ref dr2, .ref dr3, .ref dr4, .ref dr5, .ref dr6, .ref dr7, .ref dr8, .ref dr9])), (h0, .inr (5, [.ref pr0, .ref pr1, .int pcost, .int p4, .int p5])), (pr0, .inl (g.2 0, 2816, .inl x6065))] := hD
              refine W.eq (g2 := F0 m 142 ls [.int (u6073.1 0)]) rfl ?_
              refine lv_istore (lv' := [(6, .int (u6073.1 0)), (0, .ref h0), (1, .ref d0), (2, .ref m0), (3, .ref k0), (4, .int p4), (5, .int p5)]) hx hb dX5_solve_142 hl (by decide) rfl (fun ls hl => ?_)
              refine lv_aload_n hx hb dX5_solve_144 rfl (lv_at hl 1 rfl) ?_
              refine lv_iload hx hb dX5_solve_145 (lv_at hl 0 rfl) ?_
              refine lv_ldc hx hb hown (hB _ b_111) dX5_solve_147 ?_
              refine lv_icmp_ne (tgt := 156) hx hb dX5_solve_149 (by decide) (fun c6075 => ?_) (fun c6075 => ?_)
              · have c6075 := k_ne (a := (u6073.1 0).toInt) (b := 1000000000) rfl (by decide) c6075
                refine lv_iload hx hb dX5_solve_156 (lv_at hl 0 rfl) ?_
                refine g_put (C := RX5) (T := TX5) (N := 5) (ci := 5) (v := .int (u6073.1 0)) FC hKn hP hD hS i_X5 tyX5 tyX5_ok nmX5 8 rfl rfl 2 (by decide) b_124 rfl rfl rfl (Nat.le_of_ble_eq_true rfl) dX5_solve_158 (fun H locs hP hD hS => ?_)
                have hP : va_P g.1 vwCl [(pr1, .inl (g.2 0, 10, .inl pfirstRow)), (dr5, .inl (g.2 0, 8, .inl dmeanings)), (dr4, .inl (g.2 0, 8, .inl dshames)), (m0, .inr (4, [.ref mr0])), (mr0, .inl (g.2 0, 256, .inl mmeans)), (k0, .inr (6, [.ref rr0, .ref rr1, .int rsize])), (rr0, .inl (g.2 0, 256, .inl rbeliefs)), (d0, .inr (0, [.int dstates, .int dreally, .int ddays, .int dheal, .int dleak, .int dlines, .int dhearers, .int dwords, .int dplans, .int dnews, .ref dr0, .ref dr1, .ref dr2, .ref dr3, .ref dr4, .ref dr5, .ref dr6, .ref dr7, .ref dr8, .ref dr9])), (h0, .inr (5, [.ref pr0, .ref pr1, .int (u6073.1 0), .int p4, .int p5])), (pr0, .inl (g.2 0, 2816, .inl x6065))] H := hP
                have hD : va_D A [(pr1, .inl (g.2 0, 10, .inl pfirstRow)), (dr5, .inl (g.2 0, 8, .inl dmeanings)), (dr4, .inl (g.2 0, 8, .inl dshames)), (m0, .inr (4, [.ref mr0])), (mr0, .inl (g.2 0, 256, .inl mmeans)), (k0, .inr (6, [.ref rr0, .ref rr1, .int rsize])), (rr0, .inl (g.2 0, 256, .inl rbeliefs)), (d0, .inr (0, [.int dstates, .int dreally, .int ddays, .int dheal, .int dleak, .int dlines, .int dhearers, .int dwords, .int dplans, .int dnews, .ref dr0, .ref dr1, .ref dr2, .ref dr3, .ref dr4, .ref dr5, .ref dr6, .ref dr7, .ref dr8, .ref dr9])), (h0, .inr (5, [.ref pr0, .ref pr1, .int (u6073.1 0), .int p4, .int p5])), (pr0, .inl (g.2 0, 2816, .inl x6065))] := hD
                refine lv_aload_n hx hb dX5_solve_161 rfl (lv_at hl 1 rfl) ?_
                refine g_get (C := RX5) (T := TX5) (N := 5) (ci := 5) (v := .int (u6073.1 0)) FC hKn hP i_X5 8 rfl rfl 2 (by decide) b_124 rfl dX5_solve_162 ?_
                refine lv_iconst (v := -1) hx hb dX5_solve_165 (by decide) ?_
                refine lv_icmp_eq (tgt := 175) hx hb dX5_solve_166 (by decide) (fun c6076 => ?_) (fun c6076 => ?_)
                · have c6076 := k_eq (a := (u6073.1 0).toInt) (b := -1) rfl (by decide) c6076
                  exact rt_v FX ((fun k => match k with | 0 => 0 | 1 => u6073.1 0 | 2 => p4 | 3 => p5 | _ => 0), (fun k => match k with | 0 => x6065 | 1 => pfirstRow | _ => fun _ => 0), (fun _ => fun _ => 0)) rfl ⟨(show 0 ≤ p4.toInt ∧ p4.toInt ≤ 1 by omega), (show 0 ≤ p5.toInt ∧ p5.toInt ≤ 1 by omega), i_pfirstRow⟩ (hP.sub [8, 9, 0, 7, 1, 2, 3, 4, 5, 6] rfl) (hD.sub [8, 9, 0, 7, 1, 2, 3, 4, 5, 6] (by decide +kernel) rfl) hS (Nat.le_of_ble_eq_true rfl) (Nat.le_of_ble_eq_true rfl) dX5_solve_175
                · have c6076 := k_ne (a := (u6073.1 0).toInt) (b := -1) rfl (by decide) c6076
                  refine lv_aload_n hx hb dX5_solve_169 rfl (lv_at hl 1 rfl) ?_
                  refine lv_aload_n hx hb dX5_solve_170 rfl (lv_at hl 2 rfl) ?_
                  refine lv_aload_n hx hb dX5_solve_171 rfl (lv_at hl 3 rfl) ?_
                  refine call_V (As := [.ref d0, .ref m0]) (rest := []) (wr := [(k0, .inr (6, [.ref rr0, .ref rr1, .int rsize])), (rr0, .inl (g.2 0, 256, .inl rbeliefs))]) FC hKn hZ (k_X5_findFirstRow l g h0 pr0 pr1 d0 dr0 dr1 dr2 dr3 dr4 dr5 dr6 dr7 dr8 dr9 m0 mr0 (u6073.1 0) p4 p5 x6065 pfirstRow dstates dreally ddays dheal dleak dlines dhearers dwords dplans dnews dmeanings dshames mmeans (by omega) (by omega) i_pfirstRow (by omega) (by omega) (by omega) (by omega) (by omega) (by omega) (by omega) i_dmeanings) m_yX5_findFirstRow b_128 (ci := 5) rfl rfl rfl hP hD hS hA [8, 9, 0, 7, 1, 2, 3, 4] [5, 6] rfl (by decide +kernel) rfl (by decide) (by decide +kernel) rfl hl.1 rfl (Nat.le_of_ble_eq_true rfl) dX5_solve_172 ⟨(Nat.le_of_ble_eq_true rfl), (Nat.le_of_ble_eq_true rfl)⟩ ⟨(Nat.le_of_ble_eq_true rfl), (Nat.le_of_ble_eq_true rfl)⟩ (fun u6077 H locs q6078 hP hD hS => ?_)
                  have q6078_0 : ab (u6077.2.1 0) 10 0 8 := q6078
                  have hP : va_P g.1 vwCl [(k0, .inr (6, [.ref rr0, .ref rr1, .int rsize])), (rr0, .inl (g.2 0, 256, .inl rbeliefs)), (h0, .inr (5, [.ref pr0, .ref pr1, .int (u6073.1 0), .int p4, .int p5])), (pr0, .inl (g.2 0, 2816, .inl x6065)), (pr1, .inl (g.2 0, 10, .inl (u6077.2.1 0))), (d0, .inr (0, [.int dstates, .int dreally, .int ddays, .int dheal, .int dleak, .int dlines, .int dhearers, .int dwords, .int dplans, .int dnews, .ref dr0, .ref dr1, .ref dr2, .ref dr3, .ref dr4, .ref dr5, .ref dr6, .ref dr7, .ref dr8, .ref dr9])), (dr5, .inl (g.2 0, 8, .inl dmeanings)), (dr4, .inl (g.2 0, 8, .inl dshames)), (m0, .inr (4, [.ref mr0])), (mr0, .inl (g.2 0, 256, .inl mmeans))] H := hP
                  have hD : va_D A [(k0, .inr (6, [.ref rr0, .ref rr1, .int rsize])), (rr0, .inl (g.2 0, 256, .inl rbeliefs)), (h0, .inr (5, [.ref pr0, .ref pr1, .int (u6073.1 0), .int p4, .int p5])), (pr0, .inl (g.2 0, 2816, .inl x6065)), (pr1, .inl (g.2 0, 10, .inl (u6077.2.1 0))), (d0, .inr (0, [.int dstates, .int dreally, .int ddays, .int dheal, .int dleak, .int dlines, .int dhearers, .int dwords, .int dplans, .int dnews, .ref dr0, .ref dr1, .ref dr2, .ref dr3, .ref dr4, .ref dr5, .ref dr6, .ref dr7, .ref dr8, .ref dr9])), (dr5, .inl (g.2 0, 8, .inl dmeanings)), (dr4, .inl (g.2 0, 8, .inl dshames)), (m0, .inr (4, [.ref mr0])), (mr0, .inl (g.2 0, 256, .inl mmeans))] := hD
                  refine W.eq (g2 := F0 m 175 ls []) rfl ?_
                  exact rt_v FX ((fun k => match k with | 0 => 0 | 1 => u6073.1 0 | 2 => p4 | 3 => p5 | _ => 0), (fun k => match k with | 0 => x6065 | 1 => u6077.2.1 0 | _ => fun _ => 0), (fun _ => fun _ => 0)) rfl ⟨(show 0 ≤ p4.toInt ∧ p4.toInt ≤ 1 by omega), (show 0 ≤ p5.toInt ∧ p5.toInt ≤ 1 by omega), q6078_0⟩ (hP.sub [2, 3, 4, 5, 6, 7, 8, 9, 0, 1] rfl) (hD.sub [2, 3, 4, 5, 6, 7, 8, 9, 0, 1] (by decide +kernel) rfl) hS (Nat.le_of_ble_eq_true rfl) (Nat.le_of_ble_eq_true rfl) dX5_solve_175
              · have c6075 := k_eq (a := (u6073.1 0).toInt) (b := 1000000000) rfl (by decide) c6075
                refine lv_iconst (v := -1) hx hb dX5_solve_152 (by decide) ?_
                refine lv_goto (tgt := 158) hx hb dX5_solve_153 (by decide) ?_
                refine g_put (C := RX5) (T := TX5) (N := 5) (ci := 5) (v := .int (-1)) FC hKn hP hD hS i_X5 tyX5 tyX5_ok nmX5 8 rfl rfl 2 (by decide) b_124 rfl rfl rfl (Nat.le_of_ble_eq_true rfl) dX5_solve_158 (fun H locs hP hD hS => ?_)
                have hP : va_P g.1 vwCl [(pr1, .inl (g.2 0, 10, .inl pfirstRow)), (dr5, .inl (g.2 0, 8, .inl dmeanings)), (dr4, .inl (g.2 0, 8, .inl dshames)), (m0, .inr (4, [.ref mr0])), (mr0, .inl (g.2 0, 256, .inl mmeans)), (k0, .inr (6, [.ref rr0, .ref rr1, .int rsize])), (rr0, .inl (g.2 0, 256, .inl rbeliefs)), (d0, .inr (0, [.int dstates, .int dreally, .int ddays, .int dheal, .int dleak, .int dlines, .int dhearers, .int dwords, .int dplans, .int dnews, .ref dr0, .ref dr1, .ref dr2, .ref dr3, .ref dr4, .ref dr5, .ref dr6, .ref dr7, .ref dr8, .ref dr9])), (h0, .inr (5, [.ref pr0, .ref pr1, .int (-1), .int p4, .int p5])), (pr0, .inl (g.2 0, 2816, .inl x6065))] H := hP
                have hD : va_D A [(pr1, .inl (g.2 0, 10, .inl pfirstRow)), (dr5, .inl (g.2 0, 8, .inl dmeanings)), (dr4, .inl (g.2 0, 8, .inl dshames)), (m0, .inr (4, [.ref mr0])), (mr0, .inl (g.2 0, 256, .inl mmeans)), (k0, .inr (6, [.ref rr0, .ref rr1, .int rsize])), (rr0, .inl (g.2 0, 256, .inl rbeliefs)), (d0, .inr (0, [.int dstates, .int dreally, .int ddays, .int dheal, .int dleak, .int dlines, .int dhearers, .int dwords, .int dplans, .int dnews, .ref dr0, .ref dr1, .ref dr2, .ref dr3, .ref dr4, .ref dr5, .ref dr6, .ref dr7, .ref dr8, .ref dr9])), (h0, .inr (5, [.ref pr0, .ref pr1, .int (-1), .int p4, .int p5])), (pr0, .inl (g.2 0, 2816, .inl x6065))] := hD
                refine lv_aload_n hx hb dX5_solve_161 rfl (lv_at hl 1 rfl) ?_
                refine g_get (C := RX5) (T := TX5) (N := 5) (ci := 5) (v := .int (-1)) FC hKn hP i_X5 8 rfl rfl 2 (by decide) b_124 rfl dX5_solve_162 ?_
                refine lv_iconst (v := -1) hx hb dX5_solve_165 (by decide) ?_
                refine lv_icmp_eq (tgt := 175) hx hb dX5_solve_166 (by decide) (fun _ => ?_) (fun h => absurd h (by decide))
                exact rt_v FX ((fun k => match k with | 0 => 0 | 1 => (-1 : Int32) | 2 => p4 | 3 => p5 | _ => 0), (fun k => match k with | 0 => x6065 | 1 => pfirstRow | _ => fun _ => 0), (fun _ => fun _ => 0)) rfl ⟨(show 0 ≤ p4.toInt ∧ p4.toInt ≤ 1 by omega), (show 0 ≤ p5.toInt ∧ p5.toInt ≤ 1 by omega), i_pfirstRow⟩ (hP.sub [8, 9, 0, 7, 1, 2, 3, 4, 5, 6] rfl) (hD.sub [8, 9, 0, 7, 1, 2, 3, 4, 5, 6] (by decide +kernel) rfl) hS (Nat.le_of_ble_eq_true rfl) (Nat.le_of_ble_eq_true rfl) dX5_solve_175
            · have c6070 := k_nlt (a := ddays.toInt) (b := x6064.toInt) rfl rfl c6070
              refine lv_iconst (v := 0) hx hb dX5_solve_73 (by decide) ?_
              refine lv_istore (lv' := [(7, .int 0), (6, .int x6064), (0, .ref h0), (1, .ref d0), (2, .ref m0), (3, .ref k0), (4, .int p4), (5, .int p5)]) hx hb dX5_solve_74 hl (by decide) rfl (fun ls hl => ?_)
              have lp6166 : ∀ (n6168 : Nat) (x6164 : Int32) (x6165 : Nat → Int32) (H : Heap) (locs : List Loc) (ls : Array Slot), 0 ≤ x6164.toInt ∧ x6164.toInt ≤ 256 → (256 - x6164.toInt).toNat < n6168 → va_P g.1 vwCl [(h0, .inr (5, [.ref pr0, .ref pr1, .int pcost, .int p4, .int p5])), (pr0, .inl (g.2 0, 2816, .inl x6165)), (pr1, .inl (g.2 0, 10, .inl pfirstRow)), (d0, .inr (0, [.int dstates, .int dreally, .int ddays, .int dheal, .int dleak, .int dlines, .int dhearers, .int dwords, .int dplans, .int dnews, .ref dr0, .ref dr1, .ref dr2, .ref dr3, .ref dr4, .ref dr5, .ref dr6, .ref dr7, .ref dr8, .ref dr9])), (dr5, .inl (g.2 0, 8, .inl dmeanings)), (dr4, .inl (g.2 0, 8, .inl dshames)), (m0, .inr (4, [.ref mr0])), (mr0, .inl (g.2 0, 256, .inl mmeans)), (k0, .inr (6, [.ref rr0, .ref rr1, .int rsize])), (rr0, .inl (g.2 0, 256, .inl rbeliefs))] H → va_D A [(h0, .inr (5, [.ref pr0, .ref pr1, .int pcost, .int p4, .int p5])), (pr0, .inl (g.2 0, 2816, .inl x6165)), (pr1, .inl (g.2 0, 10, .inl pfirstRow)), (d0, .inr (0, [.int dstates, .int dreally, .int ddays, .int dheal, .int dleak, .int dlines, .int dhearers, .int dwords, .int dplans, .int dnews, .ref dr0, .ref dr1, .ref dr2, .ref dr3, .ref dr4, .ref dr5, .ref dr6, .ref dr7, .ref dr8, .ref dr9])), (dr5, .inl (g.2 0, 8, .inl dmeanings)), (dr4, .inl (g.2 0, 8, .inl dshames)), (m0, .inr (4, [.ref mr0])), (mr0, .inl (g.2 0, 256, .inl mmeans)), (k0, .inr (6, [.ref rr0, .ref rr1, .int rsize])), (rr0, .inl (g.2 0, 256, .inl rbeliefs))] → va_S A s.heap H locs → lv_has ls 9 [(7, .int x6164), (6, .int x6064), (0, .ref h0), (1, .ref d0), (2, .ref m0), (3, .ref k0), (4, .int p4), (5, .int p5)] → W p l e { frames := 4, cells := 0, slots := 0, locals := 100 } s m ([.ref h0, .ref d0, .ref m0, .ref k0, .int p4, .int p5].toArray) below meth c H locs 0 0 (MQ below (QX (S := (Nat → Int32) × (Nat → Nat → Int32) × (Nat → Nat → Int64)) (fun _ => none) (fun u => (0 ≤ (u.1 2).toInt ∧ (u.1 2).toInt ≤ 1) ∧ (0 ≤ (u.1 3).toInt ∧ (u.1 3).toInt ≤ 1) ∧ (ab (u.2.1 1) 10 0 8)) g (fun u => [(h0, .inr (5, [.ref pr0, .ref pr1, .int (u.1 1), .int (u.1 2), .int (u.1 3)])), (pr0, .inl (g.2 0, 2816, .inl (u.2.1 0))), (pr1, .inl (g.2 0, 10, .inl (u.2.1 1))), (d0, .inr (0, [.int dstates, .int dreally, .int ddays, .int dheal, .int dleak, .int dlines, .int dhearers, .int dwords, .int dplans, .int dnews, .ref dr0, .ref dr1, .ref dr2, .ref dr3, .ref dr4, .ref dr5, .ref dr6, .ref dr7, .ref dr8, .ref dr9])), (dr5, .inl (g.2 0, 8, .inl dmeanings)), (dr4, .inl (g.2 0, 8, .inl dshames)), (m0, .inr (4, [.ref mr0])), (mr0, .inl (g.2 0, 256, .inl mmeans)), (k0, .inr (6, [.ref rr0, .ref rr1, .int rsize])), (rr0, .inl (g.2 0, 256, .inl rbeliefs))]) A) ([.ref h0, .ref d0, .ref m0, .ref k0, .int p4, .int p5].toArray) s 0 0 A) (F0 m 76 ls []) := by
                intro n6168
                induction n6168 with
                | zero =>
                  intro x6164 x6165 H locs ls h_x6164 hn6169
                  exact absurd hn6169 (Nat.not_lt_zero _)
                | succ n6168 ih6167 =>
                  intro x6164 x6165 H locs ls h_x6164 hn6169 hP hD hS hl
                  refine lv_iload hx hb dX5_solve_76 (lv_at hl 0 rfl) ?_
                  refine lv_aload_n hx hb dX5_solve_78 rfl (lv_at hl 5 rfl) ?_
                  refine g_getN (C := RX6) (T := TX6) (N := 3) (ci := 6) (v := .int rsize) FC hKn hP i_X6 8 rfl rfl 2 (by decide) b_127 rfl dX5_solve_79 ?_
                  refine lv_icmp_ge (tgt := 124) hx hb dX5_solve_82 (by decide) (fun c6170 => ?_) (fun c6170 => ?_)
                  · have c6170 := k_le (a := rsize.toInt) (b := x6164.toInt) rfl rfl c6170
                    obtain ⟨z6171, e_z6171⟩ : ∃ y : Int32, y = x6064 + 1 := ⟨_, rfl⟩
                    have t_z6171 : z6171.toInt = x6064.toInt + 1 := by rw [e_z6171]; exact addk (by decide) (by omega) (by omega)
                    refine lv_iinc (v := z6171) (lv' := [(6, .int z6171), (7, .int x6164), (0, .ref h0), (1, .ref d0), (2, .ref m0), (3, .ref k0), (4, .int p4), (5, .int p5)]) hx hb dX5_solve_124 hl (k := 1) rfl (by rw [e_z6171]; rfl) (by decide) rfl (fun ls hl => ?_)
                    refine lv_goto (tgt := 64) hx hb dX5_solve_127 (by decide) ?_
                    exact ih6067 z6171 x6165 _ _ ls (by omega) (by omega) hP hD hS (lv_sub hl [0, 2, 3, 4, 5, 6, 7] rfl)
                  · have c6170 := k_nle (a := rsize.toInt) (b := x6164.toInt) rfl rfl c6170
                    refine lv_aload_n hx hb dX5_solve_85 rfl (lv_at hl 5 rfl) ?_
                    refine g_getN (C := RX6) (T := TX6) (N := 3) (ci := 6) (v := .ref rr0) FC hKn hP i_X6 8 rfl rfl 0 (by decide) b_129 rfl dX5_solve_86 ?_
                    refine lv_iload hx hb dX5_solve_89 (lv_at hl 0 rfl) ?_
                    refine va_iald hx hb hKn.1 hP 9 0 rfl rfl (vp_in_iff.mpr ⟨by omega, by omega⟩) dX5_solve_91 ?_
                    refine lv_topi (fun z6172 e_z6172 => ?_)
                    have t_z6172 : 0 ≤ z6172.toInt ∧ z6172.toInt ≤ 255 := by rw [e_z6172]; exact i_rbeliefs _ (clt (by omega) (by omega))
                    refine lv_istore (lv' := [(8, .int z6172), (7, .int x6164), (6, .int x6064), (0, .ref h0), (1, .ref d0), (2, .ref m0), (3, .ref k0), (4, .int p4), (5, .int p5)]) hx hb dX5_solve_92 hl (by decide) rfl (fun ls hl => ?_)
                    refine lv_aload_n hx hb dX5_solve_94 rfl (lv_at hl 3 rfl) ?_
                    refine g_get (C := RX5) (T := TX5) (N := 5) (ci := 5) (v := .ref pr0) FC hKn hP i_X5 0 rfl rfl 0 (by decide) b_107 rfl dX5_solve_95 ?_
                    refine lv_iload hx hb dX5_solve_98 (lv_at hl 2 rfl) ?_
                    refine lv_sipush (v := 256) hx hb dX5_solve_100 (by decide) ?_
                    refine lv_imul hx hb dX5_solve_103 ?_
                    have kc256 : (256 : Int32).toInt = 256 := by decide
                    refine lv_topi (fun z6173 e_z6173 => ?_)
                    have t_z6173 : z6173.toInt = x6064.toInt * 256 := by rw [e_z6173, fb_mulI (by rw [show (256 : Int32).toInt = 256 by decide]; omega) (by rw [show (256 : Int32).toInt = 256 by decide]; omega), show (256 : Int32).toInt = 256 by decide]
                    refine lv_iload hx hb dX5_solve_104 (lv_at hl 0 rfl) ?_
                    refine lv_iadd hx hb dX5_solve_106 ?_
                    refine lv_topi (fun z6174 e_z6174 => ?_)
                    have t_z6174 : z6174.toInt = z6173.toInt + z6172.toInt := by rw [e_z6174]; exact fb_addI (by omega) (by omega)
                    refine lv_aload_n hx hb dX5_solve_107 rfl (lv_at hl 3 rfl) ?_
                    refine lv_aload_n hx hb dX5_solve_108 rfl (lv_at hl 4 rfl) ?_
                    refine lv_aload_n hx hb dX5_solve_109 rfl (lv_at hl 5 rfl) ?_
                    refine lv_iload hx hb dX5_solve_110 (lv_at hl 2 rfl) ?_
                    refine lv_iload hx hb dX5_solve_112 (lv_at hl 0 rfl) ?_
                    refine call_V (As := [.ref d0, .ref m0, .int x6064, .int z6172]) (rest := [.int z6174, .ref pr0]) (wr := [(pr1, .inl (g.2 0, 10, .inl pfirstRow)), (k0, .inr (6, [.ref rr0, .ref rr1, .int rsize])), (rr0, .inl (g.2 0, 256, .inl rbeliefs))]) FC hKn hZ (k_X5_leastFrom l g h0 pr0 pr1 d0 dr0 dr1 dr2 dr3 dr4 dr5 dr6 dr7 dr8 dr9 m0 mr0 pcost p4 p5 x6165 dstates dreally ddays dheal dleak dlines dhearers dwords dplans dnews dmeanings dshames mmeans x6064 z6172 (by omega) (by omega) (by omega) (by omega) (by omega) (by omega) (by omega) (by omega) (by omega) i_dmeanings (by omega) (by omega)) m_yX5_leastFrom b_131 (ci := 5) rfl rfl rfl hP hD hS hA [0, 1, 3, 4, 5, 6, 7] [2, 8, 9] rfl (by decide +kernel) rfl (by decide) (by decide +kernel) rfl hl.1 rfl (Nat.le_of_ble_eq_true rfl) dX5_solve_114 ⟨(Nat.le_of_ble_eq_true rfl), (Nat.le_of_ble_eq_true rfl)⟩ ⟨(Nat.le_of_ble_eq_true rfl), (Nat.le_of_ble_eq_true rfl)⟩ (fun u6175 H locs q6176 hP hD hS => ?_)
                    have hP : va_P g.1 vwCl [(pr1, .inl (g.2 0, 10, .inl pfirstRow)), (k0, .inr (6, [.ref rr0, .ref rr1, .int rsize])), (rr0, .inl (g.2 0, 256, .inl rbeliefs)), (h0, .inr (5, [.ref pr0, .ref pr1, .int pcost, .int p4, .int p5])), (pr0, .inl (g.2 0, 2816, .inl x6165)), (d0, .inr (0, [.int dstates, .int dreally, .int ddays, .int dheal, .int dleak, .int dlines, .int dhearers, .int dwords, .int dplans, .int dnews, .ref dr0, .ref dr1, .ref dr2, .ref dr3, .ref dr4, .ref dr5, .ref dr6, .ref dr7, .ref dr8, .ref dr9])), (dr5, .inl (g.2 0, 8, .inl dmeanings)), (dr4, .inl (g.2 0, 8, .inl dshames)), (m0, .inr (4, [.ref mr0])), (mr0, .inl (g.2 0, 256, .inl mmeans))] H := hP
                    have hD : va_D A [(pr1, .inl (g.2 0, 10, .inl pfirstRow)), (k0, .inr (6, [.ref rr0, .ref rr1, .int rsize])), (rr0, .inl (g.2 0, 256, .inl rbeliefs)), (h0, .inr (5, [.ref pr0, .ref pr1, .int pcost, .int p4, .int p5])), (pr0, .inl (g.2 0, 2816, .inl x6165)), (d0, .inr (0, [.int dstates, .int dreally, .int ddays, .int dheal, .int dleak, .int dlines, .int dhearers, .int dwords, .int dplans, .int dnews, .ref dr0, .ref dr1, .ref dr2, .ref dr3, .ref dr4, .ref dr5, .ref dr6, .ref dr7, .ref dr8, .ref dr9])), (dr5, .inl (g.2 0, 8, .inl dmeanings)), (dr4, .inl (g.2 0, 8, .inl dshames)), (m0, .inr (4, [.ref mr0])), (mr0, .inl (g.2 0, 256, .inl mmeans))] := hD
                    refine W.eq (g2 := F0 m 117 ls [.int (u6175.1 0), .int z6174, .ref pr0]) rfl ?_
                    refine va_iast hx hb hKn.1 hP hD hS 4 0 rfl rfl (vp_in_iff.mpr ⟨by omega, by omega⟩) dX5_solve_117 (fun H locs hP hD hS => ?_)
                    have hP : va_P g.1 vwCl [(pr1, .inl (g.2 0, 10, .inl pfirstRow)), (k0, .inr (6, [.ref rr0, .ref rr1, .int rsize])), (rr0, .inl (g.2 0, 256, .inl rbeliefs)), (h0, .inr (5, [.ref pr0, .ref pr1, .int pcost, .int p4, .int p5])), (pr0, .inl (g.2 0, 2816, .inl (upd x6165 (z6174.toNatClampNeg) (u6175.1 0)))), (d0, .inr (0, [.int dstates, .int dreally, .int ddays, .int dheal, .int dleak, .int dlines, .int dhearers, .int dwords, .int dplans, .int dnews, .ref dr0, .ref dr1, .ref dr2, .ref dr3, .ref dr4, .ref dr5, .ref dr6, .ref dr7, .ref dr8, .ref dr9])), (dr5, .inl (g.2 0, 8, .inl dmeanings)), (dr4, .inl (g.2 0, 8, .inl dshames)), (m0, .inr (4, [.ref mr0])), (mr0, .inl (g.2 0, 256, .inl mmeans))] H := hP
                    have hD : va_D A [(pr1, .inl (g.2 0, 10, .inl pfirstRow)), (k0, .inr (6, [.ref rr0, .ref rr1, .int rsize])), (rr0, .inl (g.2 0, 256, .inl rbeliefs)), (h0, .inr (5, [.ref pr0, .ref pr1, .int pcost, .int p4, .int p5])), (pr0, .inl (g.2 0, 2816, .inl (upd x6165 (z6174.toNatClampNeg) (u6175.1 0)))), (d0, .inr (0, [.int dstates, .int dreally, .int ddays, .int dheal, .int dleak, .int dlines, .int dhearers, .int dwords, .int dplans, .int dnews, .ref dr0, .ref dr1, .ref dr2, .ref dr3, .ref dr4, .ref dr5, .ref dr6, .ref dr7, .ref dr8, .ref dr9])), (dr5, .inl (g.2 0, 8, .inl dmeanings)), (dr4, .inl (g.2 0, 8, .inl dshames)), (m0, .inr (4, [.ref mr0])), (mr0, .inl (g.2 0, 256, .inl mmeans))] := hD
                    generalize (upd x6165 (z6174.toNatClampNeg) (u6175.1 0) : Nat → Int32) = f6177 at hP hD
                    obtain ⟨z6178, e_z6178⟩ : ∃ y : Int32, y = x6164 + 1 := ⟨_, rfl⟩
                    have t_z6178 : z6178.toInt = x6164.toInt + 1 := by rw [e_z6178]; exact addk (by decide) (by omega) (by omega)
                    refine lv_iinc (v := z6178) (lv' := [(7, .int z6178), (8, .int z6172), (6, .int x6064), (0, .ref h0), (1, .ref d0), (2, .ref m0), (3, .ref k0), (4, .int p4), (5, .int p5)]) hx hb dX5_solve_118 hl (k := 1) rfl (by rw [e_z6178]; rfl) (by decide) rfl (fun ls hl => ?_)
                    refine lv_goto (tgt := 76) hx hb dX5_solve_121 (by decide) ?_
                    exact ih6167 z6178 f6177 _ _ ls (by omega) (by omega) (hP.sub [3, 4, 0, 5, 6, 7, 8, 9, 1, 2] rfl) (hD.sub [3, 4, 0, 5, 6, 7, 8, 9, 1, 2] (by decide +kernel) rfl) hS (lv_sub hl [0, 2, 3, 4, 5, 6, 7, 8] rfl)
              have kc0 : (0 : Int32).toInt = 0 := by decide
              exact lp6166 _ (0 : Int32) x6065 _ _ ls (by decide) (Nat.lt_succ_self _) hP hD hS (lv_sub hl [0, 1, 2, 3, 4, 5, 6, 7] rfl)
        have kc1 : (1 : Int32).toInt = 1 := by decide
        exact lp6066 _ (1 : Int32) x5190 _ _ ls (by decide) (Nat.lt_succ_self _) hP hD hS (lv_sub hl [0, 1, 2, 3, 4, 5, 6] rfl)
      · have c5195 := k_nle (a := rsize.toInt) (b := x5189.toInt) rfl rfl c5195
        refine lv_aload_n hx hb dX5_solve_24 rfl (lv_at hl 4 rfl) ?_
        refine g_getN (C := RX6) (T := TX6) (N := 3) (ci := 6) (v := .ref rr0) FC hKn hP i_X6 8 rfl rfl 0 (by decide) b_129 rfl dX5_solve_25 ?_
        refine lv_iload hx hb dX5_solve_28 (lv_at hl 0 rfl) ?_
        refine va_iald hx hb hKn.1 hP 9 0 rfl rfl (vp_in_iff.mpr ⟨by omega, by omega⟩) dX5_solve_30 ?_
        refine lv_topi (fun z6179 e_z6179 => ?_)
        have t_z6179 : 0 ≤ z6179.toInt ∧ z6179.toInt ≤ 255 := by rw [e_z6179]; exact i_rbeliefs _ (clt (by omega) (by omega))
        refine lv_istore (lv' := [(7, .int z6179), (6, .int x5189), (0, .ref h0), (1, .ref d0), (2, .ref m0), (3, .ref k0), (4, .int p4), (5, .int p5)]) hx hb dX5_solve_31 hl (by decide) rfl (fun ls hl => ?_)
        refine lv_aload_n hx hb dX5_solve_33 rfl (lv_at hl 2 rfl) ?_
        refine g_get (C := RX5) (T := TX5) (N := 5) (ci := 5) (v := .ref pr0) FC hKn hP i_X5 0 rfl rfl 0 (by decide) b_107 rfl dX5_solve_34 ?_
        refine lv_iload hx hb dX5_solve_37 (lv_at hl 0 rfl) ?_
        refine lv_iload hx hb dX5_solve_39 (lv_at hl 0 rfl) ?_
        refine lv_aload_n hx hb dX5_solve_41 rfl (lv_at hl 3 rfl) ?_
        refine call_VN (As := []) (rest := [.int z6179, .int z6179, .ref pr0]) (wr := [(h0, .inr (5, [.ref pr0, .ref pr1, .int pcost, .int p4, .int p5])), (pr0, .inl (g.2 0, 2816, .inl x5190)), (pr1, .inl (g.2 0, 10, .inl pfirstRow)), (dr5, .inl (g.2 0, 8, .inl dmeanings)), (dr4, .inl (g.2 0, 8, .inl dshames)), (m0, .inr (4, [.ref mr0])), (mr0, .inl (g.2 0, 256, .inl mmeans)), (k0, .inr (6, [.ref rr0, .ref rr1, .int rsize])), (rr0, .inl (g.2 0, 256, .inl rbeliefs))]) FC hKn hZ (k_X0_truth l g d0 dr0 dr1 dr2 dr3 dr4 dr5 dr6 dr7 dr8 dr9 dstates dreally ddays dheal dleak dlines dhearers dwords dplans dnews (by omega) (by omega) (by omega) (by omega) (by omega) (by omega) (by omega)) m_yX0_truth b_130 (ci := 0) rfl rfl rfl hP hD hS hA [3] [0, 1, 2, 4, 5, 6, 7, 8, 9] rfl (by decide) rfl (by decide +kernel) (by decide +kernel) rfl hl.1 rfl (Nat.le_of_ble_eq_true rfl) dX5_solve_42 ⟨(Nat.le_of_ble_eq_true rfl), (Nat.le_of_ble_eq_true rfl)⟩ ⟨(Nat.le_of_ble_eq_true rfl), (Nat.le_of_ble_eq_true rfl)⟩ (fun u6180 H locs q6181 hP hD hS => ?_)
        have q6181_0 : 1 ≤ (u6180.1 0).toInt ∧ (u6180.1 0).toInt ≤ 128 := q6181
        have hP : va_P g.1 vwCl [(h0, .inr (5, [.ref pr0, .ref pr1, .int pcost, .int p4, .int p5])), (pr0, .inl (g.2 0, 2816, .inl x5190)), (pr1, .inl (g.2 0, 10, .inl pfirstRow)), (dr5, .inl (g.2 0, 8, .inl dmeanings)), (dr4, .inl (g.2 0, 8, .inl dshames)), (m0, .inr (4, [.ref mr0])), (mr0, .inl (g.2 0, 256, .inl mmeans)), (k0, .inr (6, [.ref rr0, .ref rr1, .int rsize])), (rr0, .inl (g.2 0, 256, .inl rbeliefs)), (d0, .inr (0, [.int dstates, .int dreally, .int ddays, .int dheal, .int dleak, .int dlines, .int dhearers, .int dwords, .int dplans, .int dnews, .ref dr0, .ref dr1, .ref dr2, .ref dr3, .ref dr4, .ref dr5, .ref dr6, .ref dr7, .ref dr8, .ref dr9]))] H := hP
        have hD : va_D A [(h0, .inr (5, [.ref pr0, .ref pr1, .int pcost, .int p4, .int p5])), (pr0, .inl (g.2 0, 2816, .inl x5190)), (pr1, .inl (g.2 0, 10, .inl pfirstRow)), (dr5, .inl (g.2 0, 8, .inl dmeanings)), (dr4, .inl (g.2 0, 8, .inl dshames)), (m0, .inr (4, [.ref mr0])), (mr0, .inl (g.2 0, 256, .inl mmeans)), (k0, .inr (6, [.ref rr0, .ref rr1, .int rsize])), (rr0, .inl (g.2 0, 256, .inl rbeliefs)), (d0, .inr (0, [.int dstates, .int dreally, .int ddays, .int dheal, .int dleak, .int dlines, .int dhearers, .int dwords, .int dplans, .int dnews, .ref dr0, .ref dr1, .ref dr2, .ref dr3, .ref dr4, .ref dr5, .ref dr6, .ref dr7, .ref dr8, .ref dr9]))] := hD
        refine W.eq (g2 := F0 m 45 ls [.int (u6180.1 0), .int z6179, .int z6179, .ref pr0]) rfl ?_
        refine lv_icmp_ne (tgt := 52) hx hb dX5_solve_45 (by decide) (fun c6182 => ?_) (fun c6182 => ?_)
        · have c6182 := k_ne (a := z6179.toInt) (b := (u6180.1 0).toInt) rfl rfl c6182
          refine lv_ldc hx hb hown (hB _ b_111) dX5_solve_52 ?_
          refine va_iast hx hb hKn.1 hP hD hS 1 0 rfl rfl (vp_in_iff.mpr ⟨by omega, by omega⟩) dX5_solve_54 (fun H locs hP hD hS => ?_)
          have hP : va_P g.1 vwCl [(h0, .inr (5, [.ref pr0, .ref pr1, .int pcost, .int p4, .int p5])), (pr0, .inl (g.2 0, 2816, .inl (upd x5190 (z6179.toNatClampNeg) 1000000000))), (pr1, .inl (g.2 0, 10, .inl pfirstRow)), (dr5, .inl (g.2 0, 8, .inl dmeanings)), (dr4, .inl (g.2 0, 8, .inl dshames)), (m0, .inr (4, [.ref mr0])), (mr0, .inl (g.2 0, 256, .inl mmeans)), (k0, .inr (6, [.ref rr0, .ref rr1, .int rsize])), (rr0, .inl (g.2 0, 256, .inl rbeliefs)), (d0, .inr (0, [.int dstates, .int dreally, .int ddays, .int dheal, .int dleak, .int dlines, .int dhearers, .int dwords, .int dplans, .int dnews, .ref dr0, .ref dr1, .ref dr2, .ref dr3, .ref dr4, .ref dr5, .ref dr6, .ref dr7, .ref dr8, .ref dr9]))] H := hP
          have hD : va_D A [(h0, .inr (5, [.ref pr0, .ref pr1, .int pcost, .int p4, .int p5])), (pr0, .inl (g.2 0, 2816, .inl (upd x5190 (z6179.toNatClampNeg) 1000000000))), (pr1, .inl (g.2 0, 10, .inl pfirstRow)), (dr5, .inl (g.2 0, 8, .inl dmeanings)), (dr4, .inl (g.2 0, 8, .inl dshames)), (m0, .inr (4, [.ref mr0])), (mr0, .inl (g.2 0, 256, .inl mmeans)), (k0, .inr (6, [.ref rr0, .ref rr1, .int rsize])), (rr0, .inl (g.2 0, 256, .inl rbeliefs)), (d0, .inr (0, [.int dstates, .int dreally, .int ddays, .int dheal, .int dleak, .int dlines, .int dhearers, .int dwords, .int dplans, .int dnews, .ref dr0, .ref dr1, .ref dr2, .ref dr3, .ref dr4, .ref dr5, .ref dr6, .ref dr7, .ref dr8, .ref dr9]))] := hD
          generalize (upd x5190 (z6179.toNatClampNeg) 1000000000 : Nat → Int32) = f6183 at hP hD
          obtain ⟨z6184, e_z6184⟩ : ∃ y : Int32, y = x5189 + 1 := ⟨_, rfl⟩
          have t_z6184 : z6184.toInt = x5189.toInt + 1 := by rw [e_z6184]; exact addk (by decide) (by omega) (by omega)
          refine lv_iinc (v := z6184) (lv' := [(6, .int z6184), (7, .int z6179), (0, .ref h0), (1, .ref d0), (2, .ref m0), (3, .ref k0), (4, .int p4), (5, .int p5)]) hx hb dX5_solve_55 hl (k := 1) rfl (by rw [e_z6184]; rfl) (by decide) rfl (fun ls hl => ?_)
          refine lv_goto (tgt := 15) hx hb dX5_solve_58 (by decide) ?_
          exact ih5192 z6184 f6183 _ _ ls (by omega) (by omega) (hP.sub [0, 1, 2, 9, 3, 4, 5, 6, 7, 8] rfl) (hD.sub [0, 1, 2, 9, 3, 4, 5, 6, 7, 8] (by decide +kernel) rfl) hS (lv_sub hl [0, 2, 3, 4, 5, 6, 7] rfl)
        · have c6182 := k_eq (a := z6179.toInt) (b := (u6180.1 0).toInt) rfl rfl c6182
          refine lv_iconst (v := 0) hx hb dX5_solve_48 (by decide) ?_
          refine lv_goto (tgt := 54) hx hb dX5_solve_49 (by decide) ?_
          refine va_iast hx hb hKn.1 hP hD hS 1 0 rfl rfl (vp_in_iff.mpr ⟨by omega, by omega⟩) dX5_solve_54 (fun H locs hP hD hS => ?_)
          have hP : va_P g.1 vwCl [(h0, .inr (5, [.ref pr0, .ref pr1, .int pcost, .int p4, .int p5])), (pr0, .inl (g.2 0, 2816, .inl (upd x5190 (z6179.toNatClampNeg) 0))), (pr1, .inl (g.2 0, 10, .inl pfirstRow)), (dr5, .inl (g.2 0, 8, .inl dmeanings)), (dr4, .inl (g.2 0, 8, .inl dshames)), (m0, .inr (4, [.ref mr0])), (mr0, .inl (g.2 0, 256, .inl mmeans)), (k0, .inr (6, [.ref rr0, .ref rr1, .int rsize])), (rr0, .inl (g.2 0, 256, .inl rbeliefs)), (d0, .inr (0, [.int dstates, .int dreally, .int ddays, .int dheal, .int dleak, .int dlines, .int dhearers, .int dwords, .int dplans, .int dnews, .ref dr0, .ref dr1, .ref dr2, .ref dr3, .ref dr4, .ref dr5, .ref dr6, .ref dr7, .ref dr8, .ref dr9]))] H := hP
          have hD : va_D A [(h0, .inr (5, [.ref pr0, .ref pr1, .int pcost, .int p4, .int p5])), (pr0, .inl (g.2 0, 2816, .inl (upd x5190 (z6179.toNatClampNeg) 0))), (pr1, .inl (g.2 0, 10, .inl pfirstRow)), (dr5, .inl (g.2 0, 8, .inl dmeanings)), (dr4, .inl (g.2 0, 8, .inl dshames)), (m0, .inr (4, [.ref mr0])), (mr0, .inl (g.2 0, 256, .inl mmeans)), (k0, .inr (6, [.ref rr0, .ref rr1, .int rsize])), (rr0, .inl (g.2 0, 256, .inl rbeliefs)), (d0, .inr (0, [.int dstates, .int dreally, .int ddays, .int dheal, .int dleak, .int dlines, .int dhearers, .int dwords, .int dplans, .int dnews, .ref dr0, .ref dr1, .ref dr2, .ref dr3, .ref dr4, .ref dr5, .ref dr6, .ref dr7, .ref dr8, .ref dr9]))] := hD
          generalize (upd x5190 (z6179.toNatClampNeg) 0 : Nat → Int32) = f6185 at hP hD
          obtain ⟨z6186, e_z6186⟩ : ∃ y : Int32, y = x5189 + 1 := ⟨_, rfl⟩
          have t_z6186 : z6186.toInt = x5189.toInt + 1 := by rw [e_z6186]; exact addk (by decide) (by omega) (by omega)
          refine lv_iinc (v := z6186) (lv' := [(6, .int z6186), (7, .int z6179), (0, .ref h0), (1, .ref d0), (2, .ref m0), (3, .ref k0), (4, .int p4), (5, .int p5)]) hx hb dX5_solve_55 hl (k := 1) rfl (by rw [e_z6186]; rfl) (by decide) rfl (fun ls hl => ?_)
          refine lv_goto (tgt := 15) hx hb dX5_solve_58 (by decide) ?_
          exact ih5192 z6186 f6185 _ _ ls (by omega) (by omega) (hP.sub [0, 1, 2, 9, 3, 4, 5, 6, 7, 8] rfl) (hD.sub [0, 1, 2, 9, 3, 4, 5, 6, 7, 8] (by decide +kernel) rfl) hS (lv_sub hl [0, 2, 3, 4, 5, 6, 7] rfl)
  have kc0 : (0 : Int32).toInt = 0 := by decide
  exact lp5191 _ (0 : Int32) ptable _ _ ls (by decide) (Nat.lt_succ_self _) hP hD hS (lv_sub hl [0, 1, 2, 3, 4, 5, 6] rfl)
set_option maxRecDepth 100000 in
set_option maxHeartbeats 4000000 in
theorem k_X5_wordsUsed (l : Launch) (g : GG) (h0 : Nat) (pr0 : Nat) (pr1 : Nat) (pcost : Int32) (pgentle : Int32) (phonest : Int32) (pfirstRow : Nat → Int32) (p1 : Int32) (i_pgentle : 0 ≤ pgentle.toInt ∧ pgentle.toInt ≤ 1) (i_phonest : 0 ≤ phonest.toInt ∧ phonest.toInt ≤ 1) (i_pfirstRow : ab pfirstRow 10 0 8) (i_p1 : 0 ≤ p1.toInt ∧ p1.toInt ≤ 10) : Ct l g yX5_wordsUsed cX5_wordsUsed 4 (some .int) { frames := 0, cells := 0, slots := 0, locals := 0 } [.ref h0, .int p1] [(h0, .inr (5, [.ref pr0, .ref pr1, .int pcost, .int pgentle, .int phonest])), (pr1, .inl (g.2 0, 10, .inl pfirstRow))] (S := (Nat → Int32) × (Nat → Nat → Int32) × (Nat → Nat → Int64)) (fun u => some (.int (u.1 0))) (fun u => True) (fun u => [(h0, .inr (5, [.ref pr0, .ref pr1, .int pcost, .int pgentle, .int phonest])), (pr1, .inl (g.2 0, 10, .inl pfirstRow))]) := by
  refine Ct.of (by decide) (Nat.le_of_ble_eq_true rfl) ?_
  intro p e s m below meth c A ls FX hP hD hS hl
  obtain ⟨FC, hr, hlk, hKn, hA, hnm, hZ⟩ := id FX
  have FC : CallFix p m c cX5_wordsUsed 4 s _ BIG RX5 := FC
  obtain ⟨hx, hb, hml, hown, hB⟩ := id FC
  have hl : lv_has ls 4 [(0, .ref h0), (1, .int p1)] := hl
  refine lv_iconst (v := 0) hx hb dX5_wordsUsed_0 (by decide) ?_
  refine lv_istore_n (lv' := [(2, .int 0), (0, .ref h0), (1, .int p1)]) hx hb dX5_wordsUsed_1 rfl hl (by decide) rfl (fun ls hl => ?_)
  refine lv_iconst (v := 0) hx hb dX5_wordsUsed_2 (by decide) ?_
  refine lv_istore_n (lv' := [(3, .int 0), (2, .int 0), (0, .ref h0), (1, .int p1)]) hx hb dX5_wordsUsed_3 rfl hl (by decide) rfl (fun ls hl => ?_)
  have lp71 : ∀ (n73 : Nat) (x69 : Int32) (x70 : Int32) (H : Heap) (locs : List Loc) (ls : Array Slot), 0 ≤ x69.toInt ∧ x69.toInt ≤ 10 → 0 ≤ x70.toInt ∧ x70.toInt ≤ 255 → (10 - x69.toInt).toNat < n73 → va_P g.1 vwCl [(h0, .inr (5, [.ref pr0, .ref pr1, .int pcost, .int pgentle, .int phonest])), (pr1, .inl (g.2 0, 10, .inl pfirstRow))] H → va_D A [(h0, .inr (5, [.ref pr0, .ref pr1, .int pcost, .int pgentle, .int phonest])), (pr1, .inl (g.2 0, 10, .inl pfirstRow))] → va_S A s.heap H locs → lv_has ls 4 [(3, .int x69), (2, .int x70), (0, .ref h0), (1, .int p1)] → W p l e { frames := 0, cells := 0, slots := 0, locals := 0 } s m ([.ref h0, .int p1].toArray) below meth c H locs 0 0 (MQ below (QX (S := (Nat → Int32) × (Nat → Nat → Int32) × (Nat → Nat → Int64)) (fun u => some (.int (u.1 0))) (fun u => True) g (fun u => [(h0, .inr (5, [.ref pr0, .ref pr1, .int pcost, .int pgentle, .int phonest])), (pr1, .inl (g.2 0, 10, .inl pfirstRow))]) A) ([.ref h0, .int p1].toArray) s 0 0 A) (F0 m 4 ls []) := by
    intro n73
    induction n73 with
    | zero =>
      intro x69 x70 H locs ls h_x69 h_x70 hn74
      exact absurd hn74 (Nat.not_lt_zero _)
    | succ n73 ih72 =>
      intro x69 x70 H locs ls h_x69 h_x70 hn74 hP hD hS hl
      refine lv_iload_n hx hb dX5_wordsUsed_4 rfl (lv_at hl 0 rfl) ?_
      refine lv_iload_n hx hb dX5_wordsUsed_5 rfl (lv_at hl 3 rfl) ?_
      refine lv_icmp_ge (tgt := 37) hx hb dX5_wordsUsed_6 (by decide) (fun c75 => ?_) (fun c75 => ?_)
      · have c75 := k_le (a := p1.toInt) (b := x69.toInt) rfl rfl c75
        refine lv_iload_n hx hb dX5_wordsUsed_37 rfl (lv_at hl 1 rfl) ?_
        exact rt_i FX ((fun k => match k with | 0 => x70 | _ => 0), (fun _ => fun _ => 0), (fun _ => fun _ => 0)) rfl trivial (hP.sub [0, 1] rfl) (hD.sub [0, 1] (by decide) rfl) hS (Nat.le_of_ble_eq_true rfl) (Nat.le_of_ble_eq_true rfl) dX5_wordsUsed_38
      · have c75 := k_nle (a := p1.toInt) (b := x69.toInt) rfl rfl c75
        refine lv_aload_n hx hb dX5_wordsUsed_9 rfl (lv_at hl 2 rfl) ?_
        refine g_get (C := RX5) (T := TX5) (N := 5) (ci := 5) (v := .ref pr1) FC hKn hP i_X5 0 rfl rfl 1 (by decide) b_126 rfl dX5_wordsUsed_10 ?_
        refine lv_iload_n hx hb dX5_wordsUsed_13 rfl (lv_at hl 0 rfl) ?_
        refine va_iald hx hb hKn.1 hP 1 0 rfl rfl (vp_in_iff.mpr ⟨by omega, by omega⟩) dX5_wordsUsed_14 ?_
        refine lv_topi (fun z76 e_z76 => ?_)
        have t_z76 : 0 ≤ z76.toInt ∧ z76.toInt ≤ 8 := by rw [e_z76]; exact i_pfirstRow _ (clt (by omega) (by omega))
        refine lv_bipush (v := 8) hx hb dX5_wordsUsed_15 (by decide) ?_
        refine lv_icmp_eq (tgt := 31) hx hb dX5_wordsUsed_17 (by decide) (fun c77 => ?_) (fun c77 => ?_)
        · have c77 := k_eq (a := z76.toInt) (b := 8) rfl (by decide) c77
          obtain ⟨z78, e_z78⟩ : ∃ y : Int32, y = x69 + 1 := ⟨_, rfl⟩
          have t_z78 : z78.toInt = x69.toInt + 1 := by rw [e_z78]; exact addk (by decide) (by omega) (by omega)
          refine lv_iinc (v := z78) (lv' := [(3, .int z78), (2, .int x70), (0, .ref h0), (1, .int p1)]) hx hb dX5_wordsUsed_31 hl (k := 0) rfl (by rw [e_z78]; rfl) (by decide) rfl (fun ls hl => ?_)
          refine lv_goto (tgt := 4) hx hb dX5_wordsUsed_34 (by decide) ?_
          exact ih72 z78 x70 _ _ ls (by omega) (by omega) (by omega) hP hD hS (lv_sub hl [0, 1, 2, 3] rfl)
        · have c77 := k_ne (a := z76.toInt) (b := 8) rfl (by decide) c77
          refine lv_iload_n hx hb dX5_wordsUsed_20 rfl (lv_at hl 1 rfl) ?_
          refine lv_iconst (v := 1) hx hb dX5_wordsUsed_21 (by decide) ?_
          refine lv_aload_n hx hb dX5_wordsUsed_22 rfl (lv_at hl 2 rfl) ?_
          refine g_get (C := RX5) (T := TX5) (N := 5) (ci := 5) (v := .ref pr1) FC hKn hP i_X5 0 rfl rfl 1 (by decide) b_126 rfl dX5_wordsUsed_23 ?_
          refine lv_iload_n hx hb dX5_wordsUsed_26 rfl (lv_at hl 0 rfl) ?_
          refine va_iald hx hb hKn.1 hP 1 0 rfl rfl (vp_in_iff.mpr ⟨by omega, by omega⟩) dX5_wordsUsed_27 ?_
          refine tp_i (v := z76) e_z76.symm ?_
          refine lv_ishl hx hb dX5_wordsUsed_28 ?_
          refine lv_topi (fun z79 e_z79 => ?_)
          have t_z79 : 1 ≤ z79.toInt ∧ z79.toInt ≤ 128 := by rw [e_z79]; exact shl_b (n := 7) (by omega) (by omega) (by decide)
          refine lv_ior hx hb dX5_wordsUsed_29 ?_
          refine lv_topi (fun z80 e_z80 => ?_)
          have t_z80 : 0 ≤ z80.toInt ∧ z80.toInt < 256 := by rw [e_z80]; exact or_k (n := 256) 8 (by decide) (by decide) (by omega) (by omega) (by omega) (by omega)
          refine lv_istore_n (lv' := [(2, .int z80), (3, .int x69), (0, .ref h0), (1, .int p1)]) hx hb dX5_wordsUsed_30 rfl hl (by decide) rfl (fun ls hl => ?_)
          obtain ⟨z81, e_z81⟩ : ∃ y : Int32, y = x69 + 1 := ⟨_, rfl⟩
          have t_z81 : z81.toInt = x69.toInt + 1 := by rw [e_z81]; exact addk (by decide) (by omega) (by omega)
          refine lv_iinc (v := z81) (lv' := [(3, .int z81), (2, .int z80), (0, .ref h0), (1, .int p1)]) hx hb dX5_wordsUsed_31 hl (k := 1) rfl (by rw [e_z81]; rfl) (by decide) rfl (fun ls hl => ?_)
          refine lv_goto (tgt := 4) hx hb dX5_wordsUsed_34 (by decide) ?_
          exact ih72 z81 z80 _ _ ls (by omega) (by omega) (by omega) hP hD hS (lv_sub hl [0, 1, 2, 3] rfl)
  have kc0 : (0 : Int32).toInt = 0 := by decide
  exact lp71 _ (0 : Int32) (0 : Int32) _ _ ls (by decide) (by decide) (Nat.lt_succ_self _) hP hD hS (lv_sub hl [0, 1, 2, 3] rfl)
set_option maxRecDepth 100000 in
set_option maxHeartbeats 4000000 in
theorem k_X7_choose (l : Launch) (g : GG) (h0 : Nat) (qr0 : Nat) (qr1 : Nat) (d0 : Nat) (dr0 : Nat) (dr1 : Nat) (dr2 : Nat) (dr3 : Nat) (dr4 : Nat) (dr5 : Nat) (dr6 : Nat) (dr7 : Nat) (dr8 : Nat) (dr9 : Nat) (m0 : Nat) (mr0 : Nat) (qcost : Int32) (qword : Int32) (qlater : Nat → Int32) (dstates : Int32) (dreally : Int32) (ddays : Int32) (dheal : Int32) (dleak : Int32) (dlines : Int32) (dhearers : Int32) (dwords : Int32) (dplans : Int32) (dnews : Int32) (dmeanings : Nat → Int32) (dshames : Nat → Int32) (mmeans : Nat → Int32) (p3 : Int32) (p4 : Int32) (i_dstates : 0 ≤ dstates.toInt ∧ dstates.toInt ≤ 8) (i_dreally : 0 ≤ dreally.toInt ∧ dreally.toInt ≤ 7) (i_ddays : 0 ≤ ddays.toInt ∧ ddays.toInt ≤ 10) (i_dhearers : 0 ≤ dhearers.toInt ∧ dhearers.toInt ≤ 4) (i_dwords : 0 ≤ dwords.toInt ∧ dwords.toInt ≤ 8) (i_dplans : 0 ≤ dplans.toInt ∧ dplans.toInt ≤ 4) (i_dnews : 0 ≤ dnews.toInt ∧ dnews.toInt ≤ 6) (i_dmeanings : ab dmeanings 8 0 255) (i_p3 : 0 ≤ p3.toInt ∧ p3.toInt ≤ 9) (i_p4 : 0 ≤ p4.toInt ∧ p4.toInt ≤ 255) : Ct l g yX7_choose cX7_choose 9 none { frames := 2, cells := 0, slots := 0, locals := 44 } [.ref h0, .ref d0, .ref m0, .int p3, .int p4] [(h0, .inr (7, [.ref qr0, .ref qr1, .int qcost, .int qword])), (qr0, .inl (g.2 0, 256, .inl qlater)), (d0, .inr (0, [.int dstates, .int dreally, .int ddays, .int dheal, .int dleak, .int dlines, .int dhearers, .int dwords, .int dplans, .int dnews, .ref dr0, .ref dr1, .ref dr2, .ref dr3, .ref dr4, .ref dr5, .ref dr6, .ref dr7, .ref dr8, .ref dr9])), (dr5, .inl (g.2 0, 8, .inl dmeanings)), (dr4, .inl (g.2 0, 8, .inl dshames)), (m0, .inr (4, [.ref mr0])), (mr0, .inl (g.2 0, 256, .inl mmeans))] (S := (Nat → Int32) × (Nat → Nat → Int32) × (Nat → Nat → Int64)) (fun _ => none) (fun u => True) (fun u => [(h0, .inr (7, [.ref qr0, .ref qr1, .int (u.1 1), .int (u.1 2)])), (qr0, .inl (g.2 0, 256, .inl qlater)), (d0, .inr (0, [.int dstates, .int dreally, .int ddays, .int dheal, .int dleak, .int dlines, .int dhearers, .int dwords, .int dplans, .int dnews, .ref dr0, .ref dr1, .ref dr2, .ref dr3, .ref dr4, .ref dr5, .ref dr6, .ref dr7, .ref dr8, .ref dr9])), (dr5, .inl (g.2 0, 8, .inl dmeanings)), (dr4, .inl (g.2 0, 8, .inl dshames)), (m0, .inr (4, [.ref mr0])), (mr0, .inl (g.2 0, 256, .inl mmeans))]) := by
  refine Ct.of (by decide) (Nat.le_of_ble_eq_true rfl) ?_
  intro p e s m below meth c A ls FX hP hD hS hl
  obtain ⟨FC, hr, hlk, hKn, hA, hnm, hZ⟩ := id FX
  have FC : CallFix p m c cX7_choose 9 s _ BIG RX7 := FC
  obtain ⟨hx, hb, hml, hown, hB⟩ := id FC
  have hl : lv_has ls 9 [(0, .ref h0), (1, .ref d0), (2, .ref m0), (3, .int p3), (4, .int p4)] := hl
  refine lv_aload_n hx hb dX7_choose_0 rfl (lv_at hl 0 rfl) ?_
  refine lv_aload_n hx hb dX7_choose_1 rfl (lv_at hl 0 rfl) ?_
  refine g_get (C := RX7) (T := TX7) (N := 4) (ci := 7) (v := .ref qr0) FC hKn hP i_X7 0 rfl rfl 0 (by decide) b_132 rfl dX7_choose_2 ?_
  refine lv_iload hx hb dX7_choose_5 (lv_at hl 4 rfl) ?_
  refine va_iald hx hb hKn.1 hP 1 0 rfl rfl (vp_in_iff.mpr ⟨by omega, by omega⟩) dX7_choose_7 ?_
  refine lv_topi (fun z1 e_z1 => ?_)
  refine g_put (C := RX7) (T := TX7) (N := 4) (ci := 7) (v := .int z1) FC hKn hP hD hS i_X7 tyX7 tyX7_ok nmX7 0 rfl rfl 2 (by decide) b_133 rfl rfl rfl (Nat.le_of_ble_eq_true rfl) dX7_choose_8 (fun H locs hP hD hS => ?_)
  have hP : va_P g.1 vwCl [(h0, .inr (7, [.ref qr0, .ref qr1, .int z1, .int qword])), (qr0, .inl (g.2 0, 256, .inl qlater)), (d0, .inr (0, [.int dstates, .int dreally, .int ddays, .int dheal, .int dleak, .int dlines, .int dhearers, .int dwords, .int dplans, .int dnews, .ref dr0, .ref dr1, .ref dr2, .ref dr3, .ref dr4, .ref dr5, .ref dr6, .ref dr7, .ref dr8, .ref dr9])), (dr5, .inl (g.2 0, 8, .inl dmeanings)), (dr4, .inl (g.2 0, 8, .inl dshames)), (m0, .inr (4, [.ref mr0])), (mr0, .inl (g.2 0, 256, .inl mmeans))] H := hP
  have hD : va_D A [(h0, .inr (7, [.ref qr0, .ref qr1, .int z1, .int qword])), (qr0, .inl (g.2 0, 256, .inl qlater)), (d0, .inr (0, [.int dstates, .int dreally, .int ddays, .int dheal, .int dleak, .int dlines, .int dhearers, .int dwords, .int dplans, .int dnews, .ref dr0, .ref dr1, .ref dr2, .ref dr3, .ref dr4, .ref dr5, .ref dr6, .ref dr7, .ref dr8, .ref dr9])), (dr5, .inl (g.2 0, 8, .inl dmeanings)), (dr4, .inl (g.2 0, 8, .inl dshames)), (m0, .inr (4, [.ref mr0])), (mr0, .inl (g.2 0, 256, .inl mmeans))] := hD
  refine lv_aload_n hx hb dX7_choose_11 rfl (lv_at hl 0 rfl) ?_
  refine lv_bipush (v := 8) hx hb dX7_choose_12 (by decide) ?_
  refine g_put (C := RX7) (T := TX7) (N := 4) (ci := 7) (v := .int 8) FC hKn hP hD hS i_X7 tyX7 tyX7_ok nmX7 0 rfl rfl 3 (by decide) b_134 rfl rfl rfl (Nat.le_of_ble_eq_true rfl) dX7_choose_14 (fun H locs hP hD hS => ?_)
  have hP : va_P g.1 vwCl [(h0, .inr (7, [.ref qr0, .ref qr1, .int z1, .int 8])), (qr0, .inl (g.2 0, 256, .inl qlater)), (d0, .inr (0, [.int dstates, .int dreally, .int ddays, .int dheal, .int dleak, .int dlines, .int dhearers, .int dwords, .int dplans, .int dnews, .ref dr0, .ref dr1, .ref dr2, .ref dr3, .ref dr4, .ref dr5, .ref dr6, .ref dr7, .ref dr8, .ref dr9])), (dr5, .inl (g.2 0, 8, .inl dmeanings)), (dr4, .inl (g.2 0, 8, .inl dshames)), (m0, .inr (4, [.ref mr0])), (mr0, .inl (g.2 0, 256, .inl mmeans))] H := hP
  have hD : va_D A [(h0, .inr (7, [.ref qr0, .ref qr1, .int z1, .int 8])), (qr0, .inl (g.2 0, 256, .inl qlater)), (d0, .inr (0, [.int dstates, .int dreally, .int ddays, .int dheal, .int dleak, .int dlines, .int dhearers, .int dwords, .int dplans, .int dnews, .ref dr0, .ref dr1, .ref dr2, .ref dr3, .ref dr4, .ref dr5, .ref dr6, .ref dr7, .ref dr8, .ref dr9])), (dr5, .inl (g.2 0, 8, .inl dmeanings)), (dr4, .inl (g.2 0, 8, .inl dshames)), (m0, .inr (4, [.ref mr0])), (mr0, .inl (g.2 0, 256, .inl mmeans))] := hD
  refine lv_aload_n hx hb dX7_choose_17 rfl (lv_at hl 1 rfl) ?_
  refine g_getN (C := RX0) (T := TX0) (N := 20) (ci := 0) (v := .int dwords) FC hKn hP i_X0 2 rfl rfl 7 (by decide) b_135 rfl dX7_choose_18 ?_
  refine lv_iconst (v := 1) hx hb dX7_choose_21 (by decide) ?_
  refine lv_isub hx hb dX7_choose_22 ?_
  have kc1 : (1 : Int32).toInt = 1 := by decide
  refine lv_topi (fun z2 e_z2 => ?_)
  have t_z2 : z2.toInt = dwords.toInt - ((1 : Int32)).toInt := by rw [e_z2]; exact fb_subI (by omega) (by omega)
  refine lv_istore (lv' := [(5, .int z2), (0, .ref h0), (1, .ref d0), (2, .ref m0), (3, .int p3), (4, .int p4)]) hx hb dX7_choose_23 hl (by decide) rfl (fun ls hl => ?_)
  have lp43 : ∀ (n45 : Nat) (x40 : Int32) (x41 : Int32) (x42 : Int32) (H : Heap) (locs : List Loc) (ls : Array Slot), -1 ≤ x40.toInt ∧ x40.toInt ≤ 7 → 0 ≤ x42.toInt ∧ x42.toInt ≤ 8 → (x40.toInt - (-1)).toNat < n45 → va_P g.1 vwCl [(h0, .inr (7, [.ref qr0, .ref qr1, .int x41, .int x42])), (qr0, .inl (g.2 0, 256, .inl qlater)), (d0, .inr (0, [.int dstates, .int dreally, .int ddays, .int dheal, .int dleak, .int dlines, .int dhearers, .int dwords, .int dplans, .int dnews, .ref dr0, .ref dr1, .ref dr2, .ref dr3, .ref dr4, .ref dr5, .ref dr6, .ref dr7, .ref dr8, .ref dr9])), (dr5, .inl (g.2 0, 8, .inl dmeanings)), (dr4, .inl (g.2 0, 8, .inl dshames)), (m0, .inr (4, [.ref mr0])), (mr0, .inl (g.2 0, 256, .inl mmeans))] H → va_D A [(h0, .inr (7, [.ref qr0, .ref qr1, .int x41, .int x42])), (qr0, .inl (g.2 0, 256, .inl qlater)), (d0, .inr (0, [.int dstates, .int dreally, .int ddays, .int dheal, .int dleak, .int dlines, .int dhearers, .int dwords, .int dplans, .int dnews, .ref dr0, .ref dr1, .ref dr2, .ref dr3, .ref dr4, .ref dr5, .ref dr6, .ref dr7, .ref dr8, .ref dr9])), (dr5, .inl (g.2 0, 8, .inl dmeanings)), (dr4, .inl (g.2 0, 8, .inl dshames)), (m0, .inr (4, [.ref mr0])), (mr0, .inl (g.2 0, 256, .inl mmeans))] → va_S A s.heap H locs → lv_has ls 9 [(5, .int x40), (0, .ref h0), (1, .ref d0), (2, .ref m0), (3, .int p3), (4, .int p4)] → W p l e { frames := 2, cells := 0, slots := 0, locals := 44 } s m ([.ref h0, .ref d0, .ref m0, .int p3, .int p4].toArray) below meth c H locs 0 0 (MQ below (QX (S := (Nat → Int32) × (Nat → Nat → Int32) × (Nat → Nat → Int64)) (fun _ => none) (fun u => True) g (fun u => [(h0, .inr (7, [.ref qr0, .ref qr1, .int (u.1 1), .int (u.1 2)])), (qr0, .inl (g.2 0, 256, .inl qlater)), (d0, .inr (0, [.int dstates, .int dreally, .int ddays, .int dheal, .int dleak, .int dlines, .int dhearers, .int dwords, .int dplans, .int dnews, .ref dr0, .ref dr1, .ref dr2, .ref dr3, .ref dr4, .ref dr5, .ref dr6, .ref dr7, .ref dr8, .ref dr9])), (dr5, .inl (g.2 0, 8, .inl dmeanings)), (dr4, .inl (g.2 0, 8, .inl dshames)), (m0, .inr (4, [.ref mr0])), (mr0, .inl (g.2 0, 256, .inl mmeans))]) A) ([.ref h0, .ref d0, .ref m0, .int p3, .int p4].toArray) s 0 0 A) (F0 m 25 ls []) := by
    intro n45
    induction n45 with
    | zero =>
      intro x40 x41 x42 H locs ls h_x40 h_x42 hn46
      exact absurd hn46 (Nat.not_lt_zero _)
    | succ n45 ih44 =>
      intro x40 x41 x42 H locs ls h_x40 h_x42 hn46 hP hD hS hl
      refine lv_iload hx hb dX7_choose_25 (lv_at hl 0 rfl) ?_
      refine lv_if_lt (tgt := 108) hx hb dX7_choose_27 (by decide) (fun c47 => ?_) (fun c47 => ?_)
      · have c47 := k_lt (a := x40.toInt) (b := 0) rfl (by decide) c47
        exact rt_v FX ((fun k => match k with | 0 => 0 | 1 => x41 | 2 => x42 | _ => 0), (fun _ => fun _ => 0), (fun _ => fun _ => 0)) rfl trivial (hP.sub [0, 1, 2, 3, 4, 5, 6] rfl) (hD.sub [0, 1, 2, 3, 4, 5, 6] (by decide +kernel) rfl) hS (Nat.le_of_ble_eq_true rfl) (Nat.le_of_ble_eq_true rfl) dX7_choose_108
      · have c47 := k_nlt (a := x40.toInt) (b := 0) rfl (by decide) c47
        refine lv_aload_n hx hb dX7_choose_30 rfl (lv_at hl 2 rfl) ?_
        refine lv_iload hx hb dX7_choose_31 (lv_at hl 5 rfl) ?_
        refine lv_iload hx hb dX7_choose_33 (lv_at hl 0 rfl) ?_
        refine call_VN (As := [.int p4, .int x40]) (rest := []) (wr := [(h0, .inr (7, [.ref qr0, .ref qr1, .int x41, .int x42])), (qr0, .inl (g.2 0, 256, .inl qlater)), (dr4, .inl (g.2 0, 8, .inl dshames)), (m0, .inr (4, [.ref mr0])), (mr0, .inl (g.2 0, 256, .inl mmeans))]) FC hKn hZ (k_X0_nextBelief l g d0 dr0 dr1 dr2 dr3 dr4 dr5 dr6 dr7 dr8 dr9 dstates dreally ddays dheal dleak dlines dhearers dwords dplans dnews dmeanings p4 x40 (by omega) (by omega) (by omega) (by omega) (by omega) (by omega) (by omega) i_dmeanings (by omega)) m_yX0_nextBelief b_136 (ci := 0) rfl rfl rfl hP hD hS hA [2, 3] [0, 1, 4, 5, 6] rfl (by decide) rfl (by decide) (by decide +kernel) rfl hl.1 rfl (Nat.le_of_ble_eq_true rfl) dX7_choose_35 ⟨(Nat.le_of_ble_eq_true rfl), (Nat.le_of_ble_eq_true rfl)⟩ ⟨(Nat.le_of_ble_eq_true rfl), (Nat.le_of_ble_eq_true rfl)⟩ (fun u48 H locs q49 hP hD hS => ?_)
        have q49_0 : 0 ≤ (u48.1 0).toInt ∧ (u48.1 0).toInt ≤ 255 := q49
        have hP : va_P g.1 vwCl [(h0, .inr (7, [.ref qr0, .ref qr1, .int x41, .int x42])), (qr0, .inl (g.2 0, 256, .inl qlater)), (dr4, .inl (g.2 0, 8, .inl dshames)), (m0, .inr (4, [.ref mr0])), (mr0, .inl (g.2 0, 256, .inl mmeans)), (d0, .inr (0, [.int dstates, .int dreally, .int ddays, .int dheal, .int dleak, .int dlines, .int dhearers, .int dwords, .int dplans, .int dnews, .ref dr0, .ref dr1, .ref dr2, .ref dr3, .ref dr4, .ref dr5, .ref dr6, .ref dr7, .ref dr8, .ref dr9])), (dr5, .inl (g.2 0, 8, .inl dmeanings))] H := hP
        have hD : va_D A [(h0, .inr (7, [.ref qr0, .ref qr1, .int x41, .int x42])), (qr0, .inl (g.2 0, 256, .inl qlater)), (dr4, .inl (g.2 0, 8, .inl dshames)), (m0, .inr (4, [.ref mr0])), (mr0, .inl (g.2 0, 256, .inl mmeans)), (d0, .inr (0, [.int dstates, .int dreally, .int ddays, .int dheal, .int dleak, .int dlines, .int dhearers, .int dwords, .int dplans, .int dnews, .ref dr0, .ref dr1, .ref dr2, .ref dr3, .ref dr4, .ref dr5, .ref dr6, .ref dr7, .ref dr8, .ref dr9])), (dr5, .inl (g.2 0, 8, .inl dmeanings))] := hD
        refine W.eq (g2 := F0 m 38 ls [.int (u48.1 0)]) rfl ?_
        refine lv_istore (lv' := [(6, .int (u48.1 0)), (5, .int x40), (0, .ref h0), (1, .ref d0), (2, .ref m0), (3, .int p3), (4, .int p4)]) hx hb dX7_choose_38 hl (by decide) rfl (fun ls hl => ?_)
        refine lv_aload_n hx hb dX7_choose_40 rfl (lv_at hl 3 rfl) ?_
        refine lv_aload_n hx hb dX7_choose_41 rfl (lv_at hl 4 rfl) ?_
        refine lv_iload hx hb dX7_choose_42 (lv_at hl 6 rfl) ?_
        refine lv_iload hx hb dX7_choose_44 (lv_at hl 0 rfl) ?_
        refine call_VN (As := [.int p4, .int (u48.1 0)]) (rest := [.ref d0]) (wr := [(h0, .inr (7, [.ref qr0, .ref qr1, .int x41, .int x42])), (qr0, .inl (g.2 0, 256, .inl qlater)), (dr4, .inl (g.2 0, 8, .inl dshames)), (d0, .inr (0, [.int dstates, .int dreally, .int ddays, .int dheal, .int dleak, .int dlines, .int dhearers, .int dwords, .int dplans, .int dnews, .ref dr0, .ref dr1, .ref dr2, .ref dr3, .ref dr4, .ref dr5, .ref dr6, .ref dr7, .ref dr8, .ref dr9])), (dr5, .inl (g.2 0, 8, .inl dmeanings))]) FC hKn hZ (k_X4_pain l g m0 mr0 mmeans p4 (u48.1 0) (by omega) (by omega)) m_yX4_pain b_137 (ci := 4) rfl rfl rfl hP hD hS hA [3, 4] [0, 1, 2, 5, 6] rfl (by decide) rfl (by decide) (by decide +kernel) rfl hl.1 rfl (Nat.le_of_ble_eq_true rfl) dX7_choose_46 ⟨(Nat.le_of_ble_eq_true rfl), (Nat.le_of_ble_eq_true rfl)⟩ ⟨(Nat.le_of_ble_eq_true rfl), (Nat.le_of_ble_eq_true rfl)⟩ (fun u50 H locs q51 hP hD hS => ?_)
        have hP : va_P g.1 vwCl [(h0, .inr (7, [.ref qr0, .ref qr1, .int x41, .int x42])), (qr0, .inl (g.2 0, 256, .inl qlater)), (dr4, .inl (g.2 0, 8, .inl dshames)), (d0, .inr (0, [.int dstates, .int dreally, .int ddays, .int dheal, .int dleak, .int dlines, .int dhearers, .int dwords, .int dplans, .int dnews, .ref dr0, .ref dr1, .ref dr2, .ref dr3, .ref dr4, .ref dr5, .ref dr6, .ref dr7, .ref dr8, .ref dr9])), (dr5, .inl (g.2 0, 8, .inl dmeanings)), (m0, .inr (4, [.ref mr0])), (mr0, .inl (g.2 0, 256, .inl mmeans))] H := hP
        have hD : va_D A [(h0, .inr (7, [.ref qr0, .ref qr1, .int x41, .int x42])), (qr0, .inl (g.2 0, 256, .inl qlater)), (dr4, .inl (g.2 0, 8, .inl dshames)), (d0, .inr (0, [.int dstates, .int dreally, .int ddays, .int dheal, .int dleak, .int dlines, .int dhearers, .int dwords, .int dplans, .int dnews, .ref dr0, .ref dr1, .ref dr2, .ref dr3, .ref dr4, .ref dr5, .ref dr6, .ref dr7, .ref dr8, .ref dr9])), (dr5, .inl (g.2 0, 8, .inl dmeanings)), (m0, .inr (4, [.ref mr0])), (mr0, .inl (g.2 0, 256, .inl mmeans))] := hD
        refine W.eq (g2 := F0 m 49 ls [.int (u50.1 0), .ref d0]) rfl ?_
        refine lv_aload_n hx hb dX7_choose_49 rfl (lv_at hl 3 rfl) ?_
        refine g_getN (C := RX0) (T := TX0) (N := 20) (ci := 0) (v := .int ddays) FC hKn hP i_X0 3 rfl rfl 2 (by decide) b_138 rfl dX7_choose_50 ?_
        refine lv_iconst (v := 1) hx hb dX7_choose_53 (by decide) ?_
        refine lv_isub hx hb dX7_choose_54 ?_
        refine lv_topi (fun z52 e_z52 => ?_)
        have t_z52 : z52.toInt = ddays.toInt - ((1 : Int32)).toInt := by rw [e_z52]; exact fb_subI (by omega) (by omega)
        refine lv_iload_n hx hb dX7_choose_55 rfl (lv_at hl 5 rfl) ?_
        refine lv_isub hx hb dX7_choose_56 ?_
        refine lv_topi (fun z53 e_z53 => ?_)
        have t_z53 : z53.toInt = z52.toInt - p3.toInt := by rw [e_z53]; exact fb_subI (by omega) (by omega)
        refine call_VN (As := [.int (u50.1 0), .int z53]) (rest := []) (wr := [(h0, .inr (7, [.ref qr0, .ref qr1, .int x41, .int x42])), (qr0, .inl (g.2 0, 256, .inl qlater)), (dr4, .inl (g.2 0, 8, .inl dshames)), (dr5, .inl (g.2 0, 8, .inl dmeanings)), (m0, .inr (4, [.ref mr0])), (mr0, .inl (g.2 0, 256, .inl mmeans))]) FC hKn hZ (k_X0_leftOf l g d0 dr0 dr1 dr2 dr3 dr4 dr5 dr6 dr7 dr8 dr9 dstates dreally ddays dheal dleak dlines dhearers dwords dplans dnews (u50.1 0) z53 (by omega) (by omega) (by omega) (by omega) (by omega) (by omega) (by omega)) m_yX0_leftOf b_139 (ci := 0) rfl rfl rfl hP hD hS hA [3] [0, 1, 2, 4, 5, 6] rfl (by decide) rfl (by decide) (by decide +kernel) rfl hl.1 rfl (Nat.le_of_ble_eq_true rfl) dX7_choose_57 ⟨(Nat.le_of_ble_eq_true rfl), (Nat.le_of_ble_eq_true rfl)⟩ ⟨(Nat.le_of_ble_eq_true rfl), (Nat.le_of_ble_eq_true rfl)⟩ (fun u54 H locs q55 hP hD hS => ?_)
        have hP : va_P g.1 vwCl [(h0, .inr (7, [.ref qr0, .ref qr1, .int x41, .int x42])), (qr0, .inl (g.2 0, 256, .inl qlater)), (dr4, .inl (g.2 0, 8, .inl dshames)), (dr5, .inl (g.2 0, 8, .inl dmeanings)), (m0, .inr (4, [.ref mr0])), (mr0, .inl (g.2 0, 256, .inl mmeans)), (d0, .inr (0, [.int dstates, .int dreally, .int ddays, .int dheal, .int dleak, .int dlines, .int dhearers, .int dwords, .int dplans, .int dnews, .ref dr0, .ref dr1, .ref dr2, .ref dr3, .ref dr4, .ref dr5, .ref dr6, .ref dr7, .ref dr8, .ref dr9]))] H := hP
        have hD : va_D A [(h0, .inr (7, [.ref qr0, .ref qr1, .int x41, .int x42])), (qr0, .inl (g.2 0, 256, .inl qlater)), (dr4, .inl (g.2 0, 8, .inl dshames)), (dr5, .inl (g.2 0, 8, .inl dmeanings)), (m0, .inr (4, [.ref mr0])), (mr0, .inl (g.2 0, 256, .inl mmeans)), (d0, .inr (0, [.int dstates, .int dreally, .int ddays, .int dheal, .int dleak, .int dlines, .int dhearers, .int dwords, .int dplans, .int dnews, .ref dr0, .ref dr1, .ref dr2, .ref dr3, .ref dr4, .ref dr5, .ref dr6, .ref dr7, .ref dr8, .ref dr9]))] := hD
        refine W.eq (g2 := F0 m 60 ls [.int (u54.1 0)]) rfl ?_
        refine lv_istore (lv' := [(7, .int (u54.1 0)), (6, .int (u48.1 0)), (5, .int x40), (0, .ref h0), (1, .ref d0), (2, .ref m0), (3, .int p3), (4, .int p4)]) hx hb dX7_choose_60 hl (by decide) rfl (fun ls hl => ?_)
        refine lv_iload hx hb dX7_choose_62 (lv_at hl 0 rfl) ?_
        refine lv_aload_n hx hb dX7_choose_64 rfl (lv_at hl 4 rfl) ?_
        refine lv_iload hx hb dX7_choose_65 (lv_at hl 2 rfl) ?_
        refine call_VN (As := [.int x40]) (rest := [.int (u54.1 0)]) (wr := [(h0, .inr (7, [.ref qr0, .ref qr1, .int x41, .int x42])), (qr0, .inl (g.2 0, 256, .inl qlater)), (m0, .inr (4, [.ref mr0])), (mr0, .inl (g.2 0, 256, .inl mmeans))]) FC hKn hZ (k_X0_shameOf l g d0 dr0 dr1 dr2 dr3 dr4 dr5 dr6 dr7 dr8 dr9 dstates dreally ddays dheal dleak dlines dhearers dwords dplans dnews dmeanings dshames x40 (by omega) (by omega) (by omega) (by omega) (by omega) (by omega) (by omega) i_dmeanings) m_yX0_shameOf b_140 (ci := 0) rfl rfl rfl hP hD hS hA [6, 3, 2] [0, 1, 4, 5] rfl (by decide) rfl (by decide) (by decide +kernel) rfl hl.1 rfl (Nat.le_of_ble_eq_true rfl) dX7_choose_67 ⟨(Nat.le_of_ble_eq_true rfl), (Nat.le_of_ble_eq_true rfl)⟩ ⟨(Nat.le_of_ble_eq_true rfl), (Nat.le_of_ble_eq_true rfl)⟩ (fun u56 H locs q57 hP hD hS => ?_)
        have hP : va_P g.1 vwCl [(h0, .inr (7, [.ref qr0, .ref qr1, .int x41, .int x42])), (qr0, .inl (g.2 0, 256, .inl qlater)), (m0, .inr (4, [.ref mr0])), (mr0, .inl (g.2 0, 256, .inl mmeans)), (d0, .inr (0, [.int dstates, .int dreally, .int ddays, .int dheal, .int dleak, .int dlines, .int dhearers, .int dwords, .int dplans, .int dnews, .ref dr0, .ref dr1, .ref dr2, .ref dr3, .ref dr4, .ref dr5, .ref dr6, .ref dr7, .ref dr8, .ref dr9])), (dr5, .inl (g.2 0, 8, .inl dmeanings)), (dr4, .inl (g.2 0, 8, .inl dshames))] H := hP
        have hD : va_D A [(h0, .inr (7, [.ref qr0, .ref qr1, .int x41, .int x42])), (qr0, .inl (g.2 0, 256, .inl qlater)), (m0, .inr (4, [.ref mr0])), (mr0, .inl (g.2 0, 256, .inl mmeans)), (d0, .inr (0, [.int dstates, .int dreally, .int ddays, .int dheal, .int dleak, .int dlines, .int dhearers, .int dwords, .int dplans, .int dnews, .ref dr0, .ref dr1, .ref dr2, .ref dr3, .ref dr4, .ref dr5, .ref dr6, .ref dr7, .ref dr8, .ref dr9])), (dr5, .inl (g.2 0, 8, .inl dmeanings)), (dr4, .inl (g.2 0, 8, .inl dshames))] := hD
        refine W.eq (g2 := F0 m 70 ls [.int (u56.1 0), .int (u54.1 0)]) rfl ?_
        refine lv_iadd hx hb dX7_choose_70 ?_
        refine lv_topi (fun z58 e_z58 => ?_)
        refine lv_aload_n hx hb dX7_choose_71 rfl (lv_at hl 3 rfl) ?_
        refine g_get (C := RX7) (T := TX7) (N := 4) (ci := 7) (v := .ref qr0) FC hKn hP i_X7 0 rfl rfl 0 (by decide) b_132 rfl dX7_choose_72 ?_
        refine lv_iload hx hb dX7_choose_75 (lv_at hl 1 rfl) ?_
        refine va_iald hx hb hKn.1 hP 1 0 rfl rfl (vp_in_iff.mpr ⟨by omega, by omega⟩) dX7_choose_77 ?_
        refine lv_topi (fun z59 e_z59 => ?_)
        refine lv_iadd hx hb dX7_choose_78 ?_
        refine lv_topi (fun z60 e_z60 => ?_)
        refine lv_istore (lv' := [(8, .int z60), (7, .int (u54.1 0)), (6, .int (u48.1 0)), (5, .int x40), (0, .ref h0), (1, .ref d0), (2, .ref m0), (3, .int p3), (4, .int p4)]) hx hb dX7_choose_79 hl (by decide) rfl (fun ls hl => ?_)
        refine lv_iload hx hb dX7_choose_81 (lv_at hl 0 rfl) ?_
        refine lv_aload_n hx hb dX7_choose_83 rfl (lv_at hl 4 rfl) ?_
        refine g_get (C := RX7) (T := TX7) (N := 4) (ci := 7) (v := .int x41) FC hKn hP i_X7 0 rfl rfl 2 (by decide) b_133 rfl dX7_choose_84 ?_
        refine lv_icmp_gt (tgt := 102) hx hb dX7_choose_87 (by decide) (fun c61 => ?_) (fun c61 => ?_)
        · have c61 := k_lt (a := x41.toInt) (b := z60.toInt) rfl rfl c61
          obtain ⟨z62, e_z62⟩ : ∃ y : Int32, y = x40 + (-1) := ⟨_, rfl⟩
          have t_z62 : z62.toInt = x40.toInt + (-1) := by rw [e_z62]; exact addk (by decide) (by omega) (by omega)
          refine lv_iinc (v := z62) (lv' := [(5, .int z62), (8, .int z60), (7, .int (u54.1 0)), (6, .int (u48.1 0)), (0, .ref h0), (1, .ref d0), (2, .ref m0), (3, .int p3), (4, .int p4)]) hx hb dX7_choose_102 hl (k := 3) rfl (by rw [e_z62]; rfl) (by decide) rfl (fun ls hl => ?_)
          refine lv_goto (tgt := 25) hx hb dX7_choose_105 (by decide) ?_
          exact ih44 z62 x41 x42 _ _ ls (by omega) (by omega) (by omega) (hP.sub [0, 1, 4, 5, 6, 2, 3] rfl) (hD.sub [0, 1, 4, 5, 6, 2, 3] (by decide +kernel) rfl) hS (lv_sub hl [0, 4, 5, 6, 7, 8] rfl)
        · have c61 := k_nlt (a := x41.toInt) (b := z60.toInt) rfl rfl c61
          refine lv_aload_n hx hb dX7_choose_90 rfl (lv_at hl 4 rfl) ?_
          refine lv_iload hx hb dX7_choose_91 (lv_at hl 0 rfl) ?_
          refine g_put (C := RX7) (T := TX7) (N := 4) (ci := 7) (v := .int z60) FC hKn hP hD hS i_X7 tyX7 tyX7_ok nmX7 0 rfl rfl 2 (by decide) b_133 rfl rfl rfl (Nat.le_of_ble_eq_true rfl) dX7_choose_93 (fun H locs hP hD hS => ?_)
          have hP : va_P g.1 vwCl [(h0, .inr (7, [.ref qr0, .ref qr1, .int z60, .int x42])), (qr0, .inl (g.2 0, 256, .inl qlater)), (m0, .inr (4, [.ref mr0])), (mr0, .inl (g.2 0, 256, .inl mmeans)), (d0, .inr (0, [.int dstates, .int dreally, .int ddays, .int dheal, .int dleak, .int dlines, .int dhearers, .int dwords, .int dplans, .int dnews, .ref dr0, .ref dr1, .ref dr2, .ref dr3, .ref dr4, .ref dr5, .ref dr6, .ref dr7, .ref dr8, .ref dr9])), (dr5, .inl (g.2 0, 8, .inl dmeanings)), (dr4, .inl (g.2 0, 8, .inl dshames))] H := hP
          have hD : va_D A [(h0, .inr (7, [.ref qr0, .ref qr1, .int z60, .int x42])), (qr0, .inl (g.2 0, 256, .inl qlater)), (m0, .inr (4, [.ref mr0])), (mr0, .inl (g.2 0, 256, .inl mmeans)), (d0, .inr (0, [.int dstates, .int dreally, .int ddays, .int dheal, .int dleak, .int dlines, .int dhearers, .int dwords, .int dplans, .int dnews, .ref dr0, .ref dr1, .ref dr2, .ref dr3, .ref dr4, .ref dr5, .ref dr6, .ref dr7, .ref dr8, .ref dr9])), (dr5, .inl (g.2 0, 8, .inl dmeanings)), (dr4, .inl (g.2 0, 8, .inl dshames))] := hD
          refine lv_aload_n hx hb dX7_choose_96 rfl (lv_at hl 4 rfl) ?_
          refine lv_iload hx hb dX7_choose_97 (lv_at hl 3 rfl) ?_
          refine g_put (C := RX7) (T := TX7) (N := 4) (ci := 7) (v := .int x40) FC hKn hP hD hS i_X7 tyX7 tyX7_ok nmX7 0 rfl rfl 3 (by decide) b_134 rfl rfl rfl (Nat.le_of_ble_eq_true rfl) dX7_choose_99 (fun H locs hP hD hS => ?_)
          have hP : va_P g.1 vwCl [(h0, .inr (7, [.ref qr0, .ref qr1, .int z60, .int x40])), (qr0, .inl (g.2 0, 256, .inl qlater)), (m0, .inr (4, [.ref mr0])), (mr0, .inl (g.2 0, 256, .inl mmeans)), (d0, .inr (0, [.int dstates, .int dreally, .int ddays, .int dheal, .int dleak, .int dlines, .int dhearers, .int dwords, .int dplans, .int dnews, .ref dr0, .ref dr1, .ref dr2, .ref dr3, .ref dr4, .ref dr5, .ref dr6, .ref dr7, .ref dr8, .ref dr9])), (dr5, .inl (g.2 0, 8, .inl dmeanings)), (dr4, .inl (g.2 0, 8, .inl dshames))] H := hP
          have hD : va_D A [(h0, .inr (7, [.ref qr0, .ref qr1, .int z60, .int x40])), (qr0, .inl (g.2 0, 256, .inl qlater)), (m0, .inr (4, [.ref mr0])), (mr0, .inl (g.2 0, 256, .inl mmeans)), (d0, .inr (0, [.int dstates, .int dreally, .int ddays, .int dheal, .int dleak, .int dlines, .int dhearers, .int dwords, .int dplans, .int dnews, .ref dr0, .ref dr1, .ref dr2, .ref dr3, .ref dr4, .ref dr5, .ref dr6, .ref dr7, .ref dr8, .ref dr9])), (dr5, .inl (g.2 0, 8, .inl dmeanings)), (dr4, .inl (g.2 0, 8, .inl dshames))] := hD
          obtain ⟨z63, e_z63⟩ : ∃ y : Int32, y = x40 + (-1) := ⟨_, rfl⟩
          have t_z63 : z63.toInt = x40.toInt + (-1) := by rw [e_z63]; exact addk (by decide) (by omega) (by omega)
          refine lv_iinc (v := z63) (lv' := [(5, .int z63), (8, .int z60), (7, .int (u54.1 0)), (6, .int (u48.1 0)), (0, .ref h0), (1, .ref d0), (2, .ref m0), (3, .int p3), (4, .int p4)]) hx hb dX7_choose_102 hl (k := 3) rfl (by rw [e_z63]; rfl) (by decide) rfl (fun ls hl => ?_)
          refine lv_goto (tgt := 25) hx hb dX7_choose_105 (by decide) ?_
          exact ih44 z63 z60 x40 _ _ ls (by omega) (by omega) (by omega) (hP.sub [0, 1, 4, 5, 6, 2, 3] rfl) (hD.sub [0, 1, 4, 5, 6, 2, 3] (by decide +kernel) rfl) hS (lv_sub hl [0, 4, 5, 6, 7, 8] rfl)
  have kc8 : (8 : Int32).toInt = 8 := by decide
  exact lp43 _ z2 z1 (8 : Int32) _ _ ls (by omega) (by decide) (Nat.lt_succ_self _) hP hD hS (lv_sub hl [0, 1, 2, 3, 4, 5] rfl)
set_option maxRecDepth 100000 in
set_option maxHeartbeats 4000000 in
theorem k_X7_weigh (l : Launch) (g : GG) (h0 : Nat) (qr0 : Nat) (qr1 : Nat) (d0 : Nat) (dr0 : Nat) (dr1 : Nat) (dr2 : Nat) (dr3 : Nat) (dr4 : Nat) (dr5 : Nat) (dr6 : Nat) (dr7 : Nat) (dr8 : Nat) (dr9 : Nat) (m0 : Nat) (mr0 : Nat) (k0 : Nat) (rr0 : Nat) (rr1 : Nat) (qcost : Int32) (qword : Int32) (qlater : Nat → Int32) (qfresh : Nat → Int32) (dstates : Int32) (dreally : Int32) (ddays : Int32) (dheal : Int32) (dleak : Int32) (dlines : Int32) (dhearers : Int32) (dwords : Int32) (dplans : Int32) (dnews : Int32) (dmeanings : Nat → Int32) (dshames : Nat → Int32) (mmeans : Nat → Int32) (rsize : Int32) (rbeliefs : Nat → Int32) (p4 : Int32) (p5 : Int32) (i_dstates : 0 ≤ dstates.toInt ∧ dstates.toInt ≤ 8) (i_dreally : 0 ≤ dreally.toInt ∧ dreally.toInt ≤ 7) (i_ddays : 0 ≤ ddays.toInt ∧ ddays.toInt ≤ 10) (i_dhearers : 0 ≤ dhearers.toInt ∧ dhearers.toInt ≤ 4) (i_dwords : 0 ≤ dwords.toInt ∧ dwords.toInt ≤ 8) (i_dplans : 0 ≤ dplans.toInt ∧ dplans.toInt ≤ 4) (i_dnews : 0 ≤ dnews.toInt ∧ dnews.toInt ≤ 6) (i_dmeanings : ab dmeanings 8 0 255) (i_rsize : 0 ≤ rsize.toInt ∧ rsize.toInt ≤ 256) (i_rbeliefs : ab rbeliefs 256 0 255) (i_p4 : 0 ≤ p4.toInt ∧ p4.toInt ≤ 9) (i_p5 : 0 ≤ p5.toInt ∧ p5.toInt ≤ 255) : Ct l g yX7_weigh cX7_weigh 10 none { frames := 3, cells := 0, slots := 0, locals := 72 } [.ref h0, .ref d0, .ref m0, .ref k0, .int p4, .int p5] [(h0, .inr (7, [.ref qr0, .ref qr1, .int qcost, .int qword])), (qr0, .inl (g.2 0, 256, .inl qlater)), (qr1, .inl (g.2 0, 256, .inl qfresh)), (d0, .inr (0, [.int dstates, .int dreally, .int ddays, .int dheal, .int dleak, .int dlines, .int dhearers, .int dwords, .int dplans, .int dnews, .ref dr0, .ref dr1, .ref dr2, .ref dr3, .ref dr4, .ref dr5, .ref dr6, .ref dr7, .ref dr8, .ref dr9])), (dr5, .inl (g.2 0, 8, .inl dmeanings)), (dr4, .inl (g.2 0, 8, .inl dshames)), (m0, .inr (4, [.ref mr0])), (mr0, .inl (g.2 0, 256, .inl mmeans)), (k0, .inr (6, [.ref rr0, .ref rr1, .int rsize])), (rr0, .inl (g.2 0, 256, .inl rbeliefs))] (S := (Nat → Int32) × (Nat → Nat → Int32) × (Nat → Nat → Int64)) (fun _ => none) (fun u => True) (fun u => [(h0, .inr (7, [.ref qr0, .ref qr1, .int (u.1 1), .int (u.1 2)])), (qr0, .inl (g.2 0, 256, .inl (u.2.1 0))), (qr1, .inl (g.2 0, 256, .inl (u.2.1 1))), (d0, .inr (0, [.int dstates, .int dreally, .int ddays, .int dheal, .int dleak, .int dlines, .int dhearers, .int dwords, .int dplans, .int dnews, .ref dr0, .ref dr1, .ref dr2, .ref dr3, .ref dr4, .ref dr5, .ref dr6, .ref dr7, .ref dr8, .ref dr9])), (dr5, .inl (g.2 0, 8, .inl dmeanings)), (dr4, .inl (g.2 0, 8, .inl dshames)), (m0, .inr (4, [.ref mr0])), (mr0, .inl (g.2 0, 256, .inl mmeans)), (k0, .inr (6, [.ref rr0, .ref rr1, .int rsize])), (rr0, .inl (g.2 0, 256, .inl rbeliefs))]) := by
  refine Ct.of (by decide) (Nat.le_of_ble_eq_true rfl) ?_
  intro p e s m below meth c A ls FX hP hD hS hl
  obtain ⟨FC, hr, hlk, hKn, hA, hnm, hZ⟩ := id FX
  have FC : CallFix p m c cX7_weigh 10 s _ BIG RX7 := FC
  obtain ⟨hx, hb, hml, hown, hB⟩ := id FC
  have hl : lv_has ls 10 [(0, .ref h0), (1, .ref d0), (2, .ref m0), (3, .ref k0), (4, .int p4), (5, .int p5)] := hl
  refine lv_iconst (v := 0) hx hb dX7_weigh_0 (by decide) ?_
  refine lv_istore (lv' := [(6, .int 0), (0, .ref h0), (1, .ref d0), (2, .ref m0), (3, .ref k0), (4, .int p4), (5, .int p5)]) hx hb dX7_weigh_1 hl (by decide) rfl (fun ls hl => ?_)
  have lp3120 : ∀ (n3122 : Nat) (x3118 : Int32) (x3119 : Nat → Int32) (H : Heap) (locs : List Loc) (ls : Array Slot), 0 ≤ x3118.toInt ∧ x3118.toInt ≤ 256 → (256 - x3118.toInt).toNat < n3122 → va_P g.1 vwCl [(h0, .inr (7, [.ref qr0, .ref qr1, .int qcost, .int qword])), (qr0, .inl (g.2 0, 256, .inl x3119)), (qr1, .inl (g.2 0, 256, .inl qfresh)), (d0, .inr (0, [.int dstates, .int dreally, .int ddays, .int dheal, .int dleak, .int dlines, .int dhearers, .int dwords, .int dplans, .int dnews, .ref dr0, .ref dr1, .ref dr2, .ref dr3, .ref dr4, .ref dr5, .ref dr6, .ref dr7, .ref dr8, .ref dr9])), (dr5, .inl (g.2 0, 8, .inl dmeanings)), (dr4, .inl (g.2 0, 8, .inl dshames)), (m0, .inr (4, [.ref mr0])), (mr0, .inl (g.2 0, 256, .inl mmeans)), (k0, .inr (6, [.ref rr0, .ref rr1, .int rsize])), (rr0, .inl (g.2 0, 256, .inl rbeliefs))] H → va_D A [(h0, .inr (7, [.ref qr0, .ref qr1, .int qcost, .int qword])), (qr0, .inl (g.2 0, 256, .inl x3119)), (qr1, .inl (g.2 0, 256, .inl qfresh)), (d0, .inr (0, [.int dstates, .int dreally, .int ddays, .int dheal, .int dleak, .int dlines, .int dhearers, .int dwords, .int dplans, .int dnews, .ref dr0, .ref dr1, .ref dr2, .ref dr3, .ref dr4, .ref dr5, .ref dr6, .ref dr7, .ref dr8, .ref dr9])), (dr5, .inl (g.2 0, 8, .inl dmeanings)), (dr4, .inl (g.2 0, 8, .inl dshames)), (m0, .inr (4, [.ref mr0])), (mr0, .inl (g.2 0, 256, .inl mmeans)), (k0, .inr (6, [.ref rr0, .ref rr1, .int rsize])), (rr0, .inl (g.2 0, 256, .inl rbeliefs))] → va_S A s.heap H locs → lv_has ls 10 [(6, .int x3118), (0, .ref h0), (1, .ref d0), (2, .ref m0), (3, .ref k0), (4, .int p4), (5, .int p5)] → W p l e { frames := 3, cells := 0, slots := 0, locals := 72 } s m ([.ref h0, .ref d0, .ref m0, .ref k0, .int p4, .int p5].toArray) below meth c H locs 0 0 (MQ below (QX (S := (Nat → Int32) × (Nat → Nat → Int32) × (Nat → Nat → Int64)) (fun _ => none) (fun u => True) g (fun u => [(h0, .inr (7, [.ref qr0, .ref qr1, .int (u.1 1), .int (u.1 2)])), (qr0, .inl (g.2 0, 256, .inl (u.2.1 0))), (qr1, .inl (g.2 0, 256, .inl (u.2.1 1))), (d0, .inr (0, [.int dstates, .int dreally, .int ddays, .int dheal, .int dleak, .int dlines, .int dhearers, .int dwords, .int dplans, .int dnews, .ref dr0, .ref dr1, .ref dr2, .ref dr3, .ref dr4, .ref dr5, .ref dr6, .ref dr7, .ref dr8, .ref dr9])), (dr5, .inl (g.2 0, 8, .inl dmeanings)), (dr4, .inl (g.2 0, 8, .inl dshames)), (m0, .inr (4, [.ref mr0])), (mr0, .inl (g.2 0, 256, .inl mmeans)), (k0, .inr (6, [.ref rr0, .ref rr1, .int rsize])), (rr0, .inl (g.2 0, 256, .inl rbeliefs))]) A) ([.ref h0, .ref d0, .ref m0, .ref k0, .int p4, .int p5].toArray) s 0 0 A) (F0 m 3 ls []) := by
    intro n3122
    induction n3122 with
    | zero =>
      intro x3118 x3119 H locs ls h_x3118 hn3123
      exact absurd hn3123 (Nat.not_lt_zero _)
    | succ n3122 ih3121 =>
      intro x3118 x3119 H locs ls h_x3118 hn3123 hP hD hS hl
      refine lv_iload hx hb dX7_weigh_3 (lv_at hl 0 rfl) ?_
      refine lv_aload_n hx hb dX7_weigh_5 rfl (lv_at hl 4 rfl) ?_
      refine g_getN (C := RX6) (T := TX6) (N := 3) (ci := 6) (v := .int rsize) FC hKn hP i_X6 8 rfl rfl 2 (by decide) b_141 rfl dX7_weigh_6 ?_
      refine lv_icmp_ge (tgt := 49) hx hb dX7_weigh_9 (by decide) (fun c3124 => ?_) (fun c3124 => ?_)
      · have c3124 := k_le (a := rsize.toInt) (b := x3118.toInt) rfl rfl c3124
        refine lv_aload_n hx hb dX7_weigh_49 rfl (lv_at hl 2 rfl) ?_
        refine g_getN (C := RX0) (T := TX0) (N := 20) (ci := 0) (v := .int ddays) FC hKn hP i_X0 3 rfl rfl 2 (by decide) b_138 rfl dX7_weigh_50 ?_
        refine lv_iconst (v := 1) hx hb dX7_weigh_53 (by decide) ?_
        refine lv_isub hx hb dX7_weigh_54 ?_
        have kc1 : (1 : Int32).toInt = 1 := by decide
        refine lv_topi (fun z3125 e_z3125 => ?_)
        have t_z3125 : z3125.toInt = ddays.toInt - ((1 : Int32)).toInt := by rw [e_z3125]; exact fb_subI (by omega) (by omega)
        refine lv_istore (lv' := [(6, .int z3125), (0, .ref h0), (1, .ref d0), (2, .ref m0), (3, .ref k0), (4, .int p4), (5, .int p5)]) hx hb dX7_weigh_55 hl (by decide) rfl (fun ls hl => ?_)
        have lp3536 : ∀ (n3538 : Nat) (x3531 : Int32) (x3532 : Int32) (x3533 : Int32) (x3534 : Nat → Int32) (x3535 : Nat → Int32) (H : Heap) (locs : List Loc) (ls : Array Slot), -1 ≤ x3531.toInt ∧ x3531.toInt ≤ 9 → (x3531.toInt - 0).toNat < n3538 → va_P g.1 vwCl [(h0, .inr (7, [.ref qr0, .ref qr1, .int x3532, .int x3533])), (qr0, .inl (g.2 0, 256, .inl x3534)), (qr1, .inl (g.2 0, 256, .inl x3535)), (d0, .inr (0, [.int dstates, .int dreally, .int ddays, .int dheal, .int dleak, .int dlines, .int dhearers, .int dwords, .int dplans, .int dnews, .ref dr0, .ref dr1, .ref dr2, .ref dr3, .ref dr4, .ref dr5, .ref dr6, .ref dr7, .ref dr8, .ref dr9])), (dr5, .inl (g.2 0, 8, .inl dmeanings)), (dr4, .inl (g.2 0, 8, .inl dshames)), (m0, .inr (4, [.ref mr0])), (mr0, .inl (g.2 0, 256, .inl mmeans)), (k0, .inr (6, [.ref rr0, .ref rr1, .int rsize])), (rr0, .inl (g.2 0, 256, .inl rbeliefs))] H → va_D A [(h0, .inr (7, [.ref qr0, .ref qr1, .int x3532, .int x3533])), (qr0, .inl (g.2 0, 256, .inl x3534)), (qr1, .inl (g.2 0, 256, .inl x3535)), (d0, .inr (0, [.int dstates, .int dreally, .int ddays, .int dheal, .int dleak, .int dlines, .int dhearers, .int dwords, .int dplans, .int dnews, .ref dr0, .ref dr1, .ref dr2, .ref dr3, .ref dr4, .ref dr5, .ref dr6, .ref dr7, .ref dr8, .ref dr9])), (dr5, .inl (g.2 0, 8, .inl dmeanings)), (dr4, .inl (g.2 0, 8, .inl dshames)), (m0, .inr (4, [.ref mr0])), (mr0, .inl (g.2 0, 256, .inl mmeans)), (k0, .inr (6, [.ref rr0, .ref rr1, .int rsize])), (rr0, .inl (g.2 0, 256, .inl rbeliefs))] → va_S A s.heap H locs → lv_has ls 10 [(6, .int x3531), (0, .ref h0), (1, .ref d0), (2, .ref m0), (3, .ref k0), (4, .int p4), (5, .int p5)] → W p l e { frames := 3, cells := 0, slots := 0, locals := 72 } s m ([.ref h0, .ref d0, .ref m0, .ref k0, .int p4, .int p5].toArray) below meth c H locs 0 0 (MQ below (QX (S := (Nat → Int32) × (Nat → Nat → Int32) × (Nat → Nat → Int64)) (fun _ => none) (fun u => True) g (fun u => [(h0, .inr (7, [.ref qr0, .ref qr1, .int (u.1 1), .int (u.1 2)])), (qr0, .inl (g.2 0, 256, .inl (u.2.1 0))), (qr1, .inl (g.2 0, 256, .inl (u.2.1 1))), (d0, .inr (0, [.int dstates, .int dreally, .int ddays, .int dheal, .int dleak, .int dlines, .int dhearers, .int dwords, .int dplans, .int dnews, .ref dr0, .ref dr1, .ref dr2, .ref dr3, .ref dr4, .ref dr5, .ref dr6, .ref dr7, .ref dr8, .ref dr9])), (dr5, .inl (g.2 0, 8, .inl dmeanings)), (dr4, .inl (g.2 0, 8, .inl dshames)), (m0, .inr (4, [.ref mr0])), (mr0, .inl (g.2 0, 256, .inl mmeans)), (k0, .inr (6, [.ref rr0, .ref rr1, .int rsize])), (rr0, .inl (g.2 0, 256, .inl rbeliefs))]) A) ([.ref h0, .ref d0, .ref m0, .ref k0, .int p4, .int p5].toArray) s 0 0 A) (F0 m 57 ls []) := by
          intro n3538
          induction n3538 with
          | zero =>
            intro x3531 x3532 x3533 x3534 x3535 H locs ls h_x3531 hn3539
            exact absurd hn3539 (Nat.not_lt_zero _)
          | succ n3538 ih3537 =>
            intro x3531 x3532 x3533 x3534 x3535 H locs ls h_x3531 hn3539 hP hD hS hl
            refine lv_iload hx hb dX7_weigh_57 (lv_at hl 0 rfl) ?_
            refine lv_iload hx hb dX7_weigh_59 (lv_at hl 5 rfl) ?_
            refine lv_icmp_le (tgt := 165) hx hb dX7_weigh_61 (by decide) (fun c3540 => ?_) (fun c3540 => ?_)
            · have c3540 := k_le (a := x3531.toInt) (b := p4.toInt) rfl rfl c3540
              refine lv_aload_n hx hb dX7_weigh_165 rfl (lv_at hl 1 rfl) ?_
              refine lv_aload_n hx hb dX7_weigh_166 rfl (lv_at hl 2 rfl) ?_
              refine lv_aload_n hx hb dX7_weigh_167 rfl (lv_at hl 3 rfl) ?_
              refine lv_iload hx hb dX7_weigh_168 (lv_at hl 5 rfl) ?_
              refine lv_iload hx hb dX7_weigh_170 (lv_at hl 6 rfl) ?_
              refine call_V (As := [.ref d0, .ref m0, .int p4, .int p5]) (rest := []) (wr := [(qr1, .inl (g.2 0, 256, .inl x3535)), (k0, .inr (6, [.ref rr0, .ref rr1, .int rsize])), (rr0, .inl (g.2 0, 256, .inl rbeliefs))]) FC hKn hZ (k_X7_choose l g h0 qr0 qr1 d0 dr0 dr1 dr2 dr3 dr4 dr5 dr6 dr7 dr8 dr9 m0 mr0 x3532 x3533 x3534 dstates dreally ddays dheal dleak dlines dhearers dwords dplans dnews dmeanings dshames mmeans p4 p5 (by omega) (by omega) (by omega) (by omega) (by omega) (by omega) (by omega) i_dmeanings (by omega) (by omega)) m_yX7_choose b_142 (ci := 7) rfl rfl rfl hP hD hS hA [0, 1, 3, 4, 5, 6, 7] [2, 8, 9] rfl (by decide +kernel) rfl (by decide) (by decide +kernel) rfl hl.1 rfl (Nat.le_of_ble_eq_true rfl) dX7_weigh_172 ⟨(Nat.le_of_ble_eq_true rfl), (Nat.le_of_ble_eq_true rfl)⟩ ⟨(Nat.le_of_ble_eq_true rfl), (Nat.le_of_ble_eq_true rfl)⟩ (fun u3541 H locs q3542 hP hD hS => ?_)
              have hP : va_P g.1 vwCl [(qr1, .inl (g.2 0, 256, .inl x3535)), (k0, .inr (6, [.ref rr0, .ref rr1, .int rsize])), (rr0, .inl (g.2 0, 256, .inl rbeliefs)), (h0, .inr (7, [.ref qr0, .ref qr1, .int (u3541.1 1), .int (u3541.1 2)])), (qr0, .inl (g.2 0, 256, .inl x3534)), (d0, .inr (0, [.int dstates, .int dreally, .int ddays, .int dheal, .int dleak, .int dlines, .int dhearers, .int dwords, .int dplans, .int dnews, .ref dr0, .ref dr1, .ref dr2, .ref dr3, .ref dr4, .ref dr5, .ref dr6, .ref dr7, .ref dr8, .ref dr9])), (dr5, .inl (g.2 0, 8, .inl dmeanings)), (dr4, .inl (g.2 0, 8, .inl dshames)), (m0, .inr (4, [.ref mr0])), (mr0, .inl (g.2 0, 256, .inl mmeans))] H := hP
              have hD : va_D A [(qr1, .inl (g.2 0, 256, .inl x3535)), (k0, .inr (6, [.ref rr0, .ref rr1, .int rsize])), (rr0, .inl (g.2 0, 256, .inl rbeliefs)), (h0, .inr (7, [.ref qr0, .ref qr1, .int (u3541.1 1), .int (u3541.1 2)])), (qr0, .inl (g.2 0, 256, .inl x3534)), (d0, .inr (0, [.int dstates, .int dreally, .int ddays, .int dheal, .int dleak, .int dlines, .int dhearers, .int dwords, .int dplans, .int dnews, .ref dr0, .ref dr1, .ref dr2, .ref dr3, .ref dr4, .ref dr5, .ref dr6, .ref dr7, .ref dr8, .ref dr9])), (dr5, .inl (g.2 0, 8, .inl dmeanings)), (dr4, .inl (g.2 0, 8, .inl dshames)), (m0, .inr (4, [.ref mr0])), (mr0, .inl (g.2 0, 256, .inl mmeans))] := hD
              refine W.eq (g2 := F0 m 175 ls []) rfl ?_
              exact rt_v FX ((fun k => match k with | 0 => 0 | 1 => u3541.1 1 | 2 => u3541.1 2 | _ => 0), (fun k => match k with | 0 => x3534 | 1 => x3535 | _ => fun _ => 0), (fun _ => fun _ => 0)) rfl trivial (hP.sub [3, 4, 0, 5, 6, 7, 8, 9, 1, 2] rfl) (hD.sub [3, 4, 0, 5, 6, 7, 8, 9, 1, 2] (by decide +kernel) rfl) hS (Nat.le_of_ble_eq_true rfl) (Nat.le_of_ble_eq_true rfl) dX7_weigh_175
            · have c3540 := k_nle (a := x3531.toInt) (b := p4.toInt) rfl rfl c3540
              refine lv_iconst (v := 0) hx hb dX7_weigh_64 (by decide) ?_
              refine lv_istore (lv' := [(7, .int 0), (6, .int x3531), (0, .ref h0), (1, .ref d0), (2, .ref m0), (3, .ref k0), (4, .int p4), (5, .int p5)]) hx hb dX7_weigh_65 hl (by decide) rfl (fun ls hl => ?_)
              have lp3718 : ∀ (n3720 : Nat) (x3714 : Int32) (x3715 : Int32) (x3716 : Int32) (x3717 : Nat → Int32) (H : Heap) (locs : List Loc) (ls : Array Slot), 0 ≤ x3714.toInt ∧ x3714.toInt ≤ 256 → (256 - x3714.toInt).toNat < n3720 → va_P g.1 vwCl [(h0, .inr (7, [.ref qr0, .ref qr1, .int x3715, .int x3716])), (qr0, .inl (g.2 0, 256, .inl x3534)), (qr1, .inl (g.2 0, 256, .inl x3717)), (d0, .inr (0, [.int dstates, .int dreally, .int ddays, .int dheal, .int dleak, .int dlines, .int dhearers, .int dwords, .int dplans, .int dnews, .ref dr0, .ref dr1, .ref dr2, .ref dr3, .ref dr4, .ref dr5, .ref dr6, .ref dr7, .ref dr8, .ref dr9])), (dr5, .inl (g.2 0, 8, .inl dmeanings)), (dr4, .inl (g.2 0, 8, .inl dshames)), (m0, .inr (4, [.ref mr0])), (mr0, .inl (g.2 0, 256, .inl mmeans)), (k0, .inr (6, [.ref rr0, .ref rr1, .int rsize])), (rr0, .inl (g.2 0, 256, .inl rbeliefs))] H → va_D A [(h0, .inr (7, [.ref qr0, .ref qr1, .int x3715, .int x3716])), (qr0, .inl (g.2 0, 256, .inl x3534)), (qr1, .inl (g.2 0, 256, .inl x3717)), (d0, .inr (0, [.int dstates, .int dreally, .int ddays, .int dheal, .int dleak, .int dlines, .int dhearers, .int dwords, .int dplans, .int dnews, .ref dr0, .ref dr1, .ref dr2, .ref dr3, .ref dr4, .ref dr5, .ref dr6, .ref dr7, .ref dr8, .ref dr9])), (dr5, .inl (g.2 0, 8, .inl dmeanings)), (dr4, .inl (g.2 0, 8, .inl dshames)), (m0, .inr (4, [.ref mr0])), (mr0, .inl (g.2 0, 256, .inl mmeans)), (k0, .inr (6, [.ref rr0, .ref rr1, .int rsize])), (rr0, .inl (g.2 0, 256, .inl rbeliefs))] → va_S A s.heap H locs → lv_has ls 10 [(7, .int x3714), (6, .int x3531), (0, .ref h0), (1, .ref d0), (2, .ref m0), (3, .ref k0), (4, .int p4), (5, .int p5)] → W p l e { frames := 3, cells := 0, slots := 0, locals := 72 } s m ([.ref h0, .ref d0, .ref m0, .ref k0, .int p4, .int p5].toArray) below meth c H locs 0 0 (MQ below (QX (S := (Nat → Int32) × (Nat → Nat → Int32) × (Nat → Nat → Int64)) (fun _ => none) (fun u => True) g (fun u => [(h0, .inr (7, [.ref qr0, .ref qr1, .int (u.1 1), .int (u.1 2)])), (qr0, .inl (g.2 0, 256, .inl (u.2.1 0))), (qr1, .inl (g.2 0, 256, .inl (u.2.1 1))), (d0, .inr (0, [.int dstates, .int dreally, .int ddays, .int dheal, .int dleak, .int dlines, .int dhearers, .int dwords, .int dplans, .int dnews, .ref dr0, .ref dr1, .ref dr2, .ref dr3, .ref dr4, .ref dr5, .ref dr6, .ref dr7, .ref dr8, .ref dr9])), (dr5, .inl (g.2 0, 8, .inl dmeanings)), (dr4, .inl (g.2 0, 8, .inl dshames)), (m0, .inr (4, [.ref mr0])), (mr0, .inl (g.2 0, 256, .inl mmeans)), (k0, .inr (6, [.ref rr0, .ref rr1, .int rsize])), (rr0, .inl (g.2 0, 256, .inl rbeliefs))]) A) ([.ref h0, .ref d0, .ref m0, .ref k0, .int p4, .int p5].toArray) s 0 0 A) (F0 m 67 ls []) := by
                intro n3720
                induction n3720 with
                | zero =>
                  intro x3714 x3715 x3716 x3717 H locs ls h_x3714 hn3721
                  exact absurd hn3721 (Nat.not_lt_zero _)
                | succ n3720 ih3719 =>
                  intro x3714 x3715 x3716 x3717 H locs ls h_x3714 hn3721 hP hD hS hl
                  refine lv_iload hx hb dX7_weigh_67 (lv_at hl 0 rfl) ?_
                  refine lv_aload_n hx hb dX7_weigh_69 rfl (lv_at hl 5 rfl) ?_
                  refine g_getN (C := RX6) (T := TX6) (N := 3) (ci := 6) (v := .int rsize) FC hKn hP i_X6 8 rfl rfl 2 (by decide) b_141 rfl dX7_weigh_70 ?_
                  refine lv_icmp_ge (tgt := 143) hx hb dX7_weigh_73 (by decide) (fun c3722 => ?_) (fun c3722 => ?_)
                  · have c3722 := k_le (a := rsize.toInt) (b := x3714.toInt) rfl rfl c3722
                    refine lv_aload_n hx hb dX7_weigh_143 rfl (lv_at hl 2 rfl) ?_
                    refine g_get (C := RX7) (T := TX7) (N := 4) (ci := 7) (v := .ref qr1) FC hKn hP i_X7 0 rfl rfl 1 (by decide) b_143 rfl dX7_weigh_144 ?_
                    refine lv_iconst (v := 0) hx hb dX7_weigh_147 (by decide) ?_
                    refine lv_aload_n hx hb dX7_weigh_148 rfl (lv_at hl 2 rfl) ?_
                    refine g_get (C := RX7) (T := TX7) (N := 4) (ci := 7) (v := .ref qr0) FC hKn hP i_X7 0 rfl rfl 0 (by decide) b_132 rfl dX7_weigh_149 ?_
                    refine lv_iconst (v := 0) hx hb dX7_weigh_152 (by decide) ?_
                    refine lv_sipush (v := 256) hx hb dX7_weigh_153 (by decide) ?_
                    refine va_copyi hx hb (by rw [hml]; exact hl.1.symm) hown (hB _ b_144) (hB _ b_145) (hB _ b_146) (hB _ b_147) hKn.1 hP hD hS 2 1 0 0 rfl rfl rfl rfl rfl (by decide) (by decide) (by decide) (by decide) (by decide) (fun _ _ => rfl) (Nat.le_of_ble_eq_true rfl) (Nat.le_of_ble_eq_true rfl) dX7_weigh_156 (fun H locs hP hD hS => ?_)
                    have hP : va_P g.1 vwCl [(h0, .inr (7, [.ref qr0, .ref qr1, .int x3715, .int x3716])), (qr0, .inl (g.2 0, 256, .inl (va_cpy x3717 x3534 (0 : Int32).toNatClampNeg (0 : Int32).toNatClampNeg (256 : Int32).toNatClampNeg))), (qr1, .inl (g.2 0, 256, .inl x3717)), (d0, .inr (0, [.int dstates, .int dreally, .int ddays, .int dheal, .int dleak, .int dlines, .int dhearers, .int dwords, .int dplans, .int dnews, .ref dr0, .ref dr1, .ref dr2, .ref dr3, .ref dr4, .ref dr5, .ref dr6, .ref dr7, .ref dr8, .ref dr9])), (dr5, .inl (g.2 0, 8, .inl dmeanings)), (dr4, .inl (g.2 0, 8, .inl dshames)), (m0, .inr (4, [.ref mr0])), (mr0, .inl (g.2 0, 256, .inl mmeans)), (k0, .inr (6, [.ref rr0, .ref rr1, .int rsize])), (rr0, .inl (g.2 0, 256, .inl rbeliefs))] H := hP
                    have hD : va_D A [(h0, .inr (7, [.ref qr0, .ref qr1, .int x3715, .int x3716])), (qr0, .inl (g.2 0, 256, .inl (va_cpy x3717 x3534 (0 : Int32).toNatClampNeg (0 : Int32).toNatClampNeg (256 : Int32).toNatClampNeg))), (qr1, .inl (g.2 0, 256, .inl x3717)), (d0, .inr (0, [.int dstates, .int dreally, .int ddays, .int dheal, .int dleak, .int dlines, .int dhearers, .int dwords, .int dplans, .int dnews, .ref dr0, .ref dr1, .ref dr2, .ref dr3, .ref dr4, .ref dr5, .ref dr6, .ref dr7, .ref dr8, .ref dr9])), (dr5, .inl (g.2 0, 8, .inl dmeanings)), (dr4, .inl (g.2 0, 8, .inl dshames)), (m0, .inr (4, [.ref mr0])), (mr0, .inl (g.2 0, 256, .inl mmeans)), (k0, .inr (6, [.ref rr0, .ref rr1, .int rsize])), (rr0, .inl (g.2 0, 256, .inl rbeliefs))] := hD
                    generalize (va_cpy x3717 x3534 (0 : Int32).toNatClampNeg (0 : Int32).toNatClampNeg (256 : Int32).toNatClampNeg : Nat → Int32) = f3723 at hP hD
                    obtain ⟨z3724, e_z3724⟩ : ∃ y : Int32, y = x3531 + (-1) := ⟨_, rfl⟩
                    have t_z3724 : z3724.toInt = x3531.toInt + (-1) := by rw [e_z3724]; exact addk (by decide) (by omega) (by omega)
                    refine lv_iinc (v := z3724) (lv' := [(6, .int z3724), (7, .int x3714), (0, .ref h0), (1, .ref d0), (2, .ref m0), (3, .ref k0), (4, .int p4), (5, .int p5)]) hx hb dX7_weigh_159 hl (k := 1) rfl (by rw [e_z3724]; rfl) (by decide) rfl (fun ls hl => ?_)
                    refine lv_goto (tgt := 57) hx hb dX7_weigh_162 (by decide) ?_
                    exact ih3537 z3724 x3715 x3716 f3723 x3717 _ _ ls (by omega) (by omega) hP hD hS (lv_sub hl [0, 2, 3, 4, 5, 6, 7] rfl)
                  · have c3722 := k_nle (a := rsize.toInt) (b := x3714.toInt) rfl rfl c3722
                    refine lv_aload_n hx hb dX7_weigh_76 rfl (lv_at hl 5 rfl) ?_
                    refine g_getN (C := RX6) (T := TX6) (N := 3) (ci := 6) (v := .ref rr0) FC hKn hP i_X6 8 rfl rfl 0 (by decide) b_148 rfl dX7_weigh_77 ?_
                    refine lv_iload hx hb dX7_weigh_80 (lv_at hl 0 rfl) ?_
                    refine va_iald hx hb hKn.1 hP 9 0 rfl rfl (vp_in_iff.mpr ⟨by omega, by omega⟩) dX7_weigh_82 ?_
                    refine lv_topi (fun z3725 e_z3725 => ?_)
                    have t_z3725 : 0 ≤ z3725.toInt ∧ z3725.toInt ≤ 255 := by rw [e_z3725]; exact i_rbeliefs _ (clt (by omega) (by omega))
                    refine lv_istore (lv' := [(8, .int z3725), (7, .int x3714), (6, .int x3531), (0, .ref h0), (1, .ref d0), (2, .ref m0), (3, .ref k0), (4, .int p4), (5, .int p5)]) hx hb dX7_weigh_83 hl (by decide) rfl (fun ls hl => ?_)
                    refine lv_aload_n hx hb dX7_weigh_85 rfl (lv_at hl 3 rfl) ?_
                    refine lv_aload_n hx hb dX7_weigh_86 rfl (lv_at hl 4 rfl) ?_
                    refine lv_aload_n hx hb dX7_weigh_87 rfl (lv_at hl 5 rfl) ?_
                    refine lv_iload hx hb dX7_weigh_88 (lv_at hl 2 rfl) ?_
                    refine lv_iload hx hb dX7_weigh_90 (lv_at hl 0 rfl) ?_
                    refine call_V (As := [.ref d0, .ref m0, .int x3531, .int z3725]) (rest := []) (wr := [(qr1, .inl (g.2 0, 256, .inl x3717)), (k0, .inr (6, [.ref rr0, .ref rr1, .int rsize])), (rr0, .inl (g.2 0, 256, .inl rbeliefs))]) FC hKn hZ (k_X7_choose l g h0 qr0 qr1 d0 dr0 dr1 dr2 dr3 dr4 dr5 dr6 dr7 dr8 dr9 m0 mr0 x3715 x3716 x3534 dstates dreally ddays dheal dleak dlines dhearers dwords dplans dnews dmeanings dshames mmeans x3531 z3725 (by omega) (by omega) (by omega) (by omega) (by omega) (by omega) (by omega) i_dmeanings (by omega) (by omega)) m_yX7_choose b_142 (ci := 7) rfl rfl rfl hP hD hS hA [0, 1, 3, 4, 5, 6, 7] [2, 8, 9] rfl (by decide +kernel) rfl (by decide) (by decide +kernel) rfl hl.1 rfl (Nat.le_of_ble_eq_true rfl) dX7_weigh_92 ⟨(Nat.le_of_ble_eq_true rfl), (Nat.le_of_ble_eq_true rfl)⟩ ⟨(Nat.le_of_ble_eq_true rfl), (Nat.le_of_ble_eq_true rfl)⟩ (fun u3726 H locs q3727 hP hD hS => ?_)
                    have hP : va_P g.1 vwCl [(qr1, .inl (g.2 0, 256, .inl x3717)), (k0, .inr (6, [.ref rr0, .ref rr1, .int rsize])), (rr0, .inl (g.2 0, 256, .inl rbeliefs)), (h0, .inr (7, [.ref qr0, .ref qr1, .int (u3726.1 1), .int (u3726.1 2)])), (qr0, .inl (g.2 0, 256, .inl x3534)), (d0, .inr (0, [.int dstates, .int dreally, .int ddays, .int dheal, .int dleak, .int dlines, .int dhearers, .int dwords, .int dplans, .int dnews, .ref dr0, .ref dr1, .ref dr2, .ref dr3, .ref dr4, .ref dr5, .ref dr6, .ref dr7, .ref dr8, .ref dr9])), (dr5, .inl (g.2 0, 8, .inl dmeanings)), (dr4, .inl (g.2 0, 8, .inl dshames)), (m0, .inr (4, [.ref mr0])), (mr0, .inl (g.2 0, 256, .inl mmeans))] H := hP
                    have hD : va_D A [(qr1, .inl (g.2 0, 256, .inl x3717)), (k0, .inr (6, [.ref rr0, .ref rr1, .int rsize])), (rr0, .inl (g.2 0, 256, .inl rbeliefs)), (h0, .inr (7, [.ref qr0, .ref qr1, .int (u3726.1 1), .int (u3726.1 2)])), (qr0, .inl (g.2 0, 256, .inl x3534)), (d0, .inr (0, [.int dstates, .int dreally, .int ddays, .int dheal, .int dleak, .int dlines, .int dhearers, .int dwords, .int dplans, .int dnews, .ref dr0, .ref dr1, .ref dr2, .ref dr3, .ref dr4, .ref dr5, .ref dr6, .ref dr7, .ref dr8, .ref dr9])), (dr5, .inl (g.2 0, 8, .inl dmeanings)), (dr4, .inl (g.2 0, 8, .inl dshames)), (m0, .inr (4, [.ref mr0])), (mr0, .inl (g.2 0, 256, .inl mmeans))] := hD
                    refine W.eq (g2 := F0 m 95 ls []) rfl ?_
                    refine lv_aload_n hx hb dX7_weigh_95 rfl (lv_at hl 4 rfl) ?_
                    refine lv_aload_n hx hb dX7_weigh_96 rfl (lv_at hl 5 rfl) ?_
                    refine lv_iload hx hb dX7_weigh_97 (lv_at hl 0 rfl) ?_
                    refine lv_aload_n hx hb dX7_weigh_99 rfl (lv_at hl 4 rfl) ?_
                    refine call_VN (As := []) (rest := [.int z3725, .ref m0, .ref d0]) (wr := [(qr1, .inl (g.2 0, 256, .inl x3717)), (k0, .inr (6, [.ref rr0, .ref rr1, .int rsize])), (rr0, .inl (g.2 0, 256, .inl rbeliefs)), (h0, .inr (7, [.ref qr0, .ref qr1, .int (u3726.1 1), .int (u3726.1 2)])), (qr0, .inl (g.2 0, 256, .inl x3534)), (dr5, .inl (g.2 0, 8, .inl dmeanings)), (dr4, .inl (g.2 0, 8, .inl dshames)), (m0, .inr (4, [.ref mr0])), (mr0, .inl (g.2 0, 256, .inl mmeans))]) FC hKn hZ (k_X0_truth l g d0 dr0 dr1 dr2 dr3 dr4 dr5 dr6 dr7 dr8 dr9 dstates dreally ddays dheal dleak dlines dhearers dwords dplans dnews (by omega) (by omega) (by omega) (by omega) (by omega) (by omega) (by omega)) m_yX0_truth b_149 (ci := 0) rfl rfl rfl hP hD hS hA [5] [0, 1, 2, 3, 4, 6, 7, 8, 9] rfl (by decide) rfl (by decide +kernel) (by decide +kernel) rfl hl.1 rfl (Nat.le_of_ble_eq_true rfl) dX7_weigh_100 ⟨(Nat.le_of_ble_eq_true rfl), (Nat.le_of_ble_eq_true rfl)⟩ ⟨(Nat.le_of_ble_eq_true rfl), (Nat.le_of_ble_eq_true rfl)⟩ (fun u3728 H locs q3729 hP hD hS => ?_)
                    have q3729_0 : 1 ≤ (u3728.1 0).toInt ∧ (u3728.1 0).toInt ≤ 128 := q3729
                    have hP : va_P g.1 vwCl [(qr1, .inl (g.2 0, 256, .inl x3717)), (k0, .inr (6, [.ref rr0, .ref rr1, .int rsize])), (rr0, .inl (g.2 0, 256, .inl rbeliefs)), (h0, .inr (7, [.ref qr0, .ref qr1, .int (u3726.1 1), .int (u3726.1 2)])), (qr0, .inl (g.2 0, 256, .inl x3534)), (dr5, .inl (g.2 0, 8, .inl dmeanings)), (dr4, .inl (g.2 0, 8, .inl dshames)), (m0, .inr (4, [.ref mr0])), (mr0, .inl (g.2 0, 256, .inl mmeans)), (d0, .inr (0, [.int dstates, .int dreally, .int ddays, .int dheal, .int dleak, .int dlines, .int dhearers, .int dwords, .int dplans, .int dnews, .ref dr0, .ref dr1, .ref dr2, .ref dr3, .ref dr4, .ref dr5, .ref dr6, .ref dr7, .ref dr8, .ref dr9]))] H := hP
                    have hD : va_D A [(qr1, .inl (g.2 0, 256, .inl x3717)), (k0, .inr (6, [.ref rr0, .ref rr1, .int rsize])), (rr0, .inl (g.2 0, 256, .inl rbeliefs)), (h0, .inr (7, [.ref qr0, .ref qr1, .int (u3726.1 1), .int (u3726.1 2)])), (qr0, .inl (g.2 0, 256, .inl x3534)), (dr5, .inl (g.2 0, 8, .inl dmeanings)), (dr4, .inl (g.2 0, 8, .inl dshames)), (m0, .inr (4, [.ref mr0])), (mr0, .inl (g.2 0, 256, .inl mmeans)), (d0, .inr (0, [.int dstates, .int dreally, .int ddays, .int dheal, .int dleak, .int dlines, .int dhearers, .int dwords, .int dplans, .int dnews, .ref dr0, .ref dr1, .ref dr2, .ref dr3, .ref dr4, .ref dr5, .ref dr6, .ref dr7, .ref dr8, .ref dr9]))] := hD
                    refine W.eq (g2 := F0 m 103 ls [.int (u3728.1 0), .int z3725, .ref m0, .ref d0]) rfl ?_
                    refine call_VN (As := [.int z3725, .int (u3728.1 0)]) (rest := [.ref d0]) (wr := [(qr1, .inl (g.2 0, 256, .inl x3717)), (k0, .inr (6, [.ref rr0, .ref rr1, .int rsize])), (rr0, .inl (g.2 0, 256, .inl rbeliefs)), (h0, .inr (7, [.ref qr0, .ref qr1, .int (u3726.1 1), .int (u3726.1 2)])), (qr0, .inl (g.2 0, 256, .inl x3534)), (dr5, .inl (g.2 0, 8, .inl dmeanings)), (dr4, .inl (g.2 0, 8, .inl dshames)), (d0, .inr (0, [.int dstates, .int dreally, .int ddays, .int dheal, .int dleak, .int dlines, .int dhearers, .int dwords, .int dplans, .int dnews, .ref dr0, .ref dr1, .ref dr2, .ref dr3, .ref dr4, .ref dr5, .ref dr6, .ref dr7, .ref dr8, .ref dr9]))]) FC hKn hZ (k_X4_pain l g m0 mr0 mmeans z3725 (u3728.1 0) (by omega) (by omega)) m_yX4_pain b_137 (ci := 4) rfl rfl rfl hP hD hS hA [7, 8] [0, 1, 2, 3, 4, 5, 6, 9] rfl (by decide) rfl (by decide +kernel) (by decide +kernel) rfl hl.1 rfl (Nat.le_of_ble_eq_true rfl) dX7_weigh_103 ⟨(Nat.le_of_ble_eq_true rfl), (Nat.le_of_ble_eq_true rfl)⟩ ⟨(Nat.le_of_ble_eq_true rfl), (Nat.le_of_ble_eq_true rfl)⟩ (fun u3730 H locs q3731 hP hD hS => ?_)
                    have hP : va_P g.1 vwCl [(qr1, .inl (g.2 0, 256, .inl x3717)), (k0, .inr (6, [.ref rr0, .ref rr1, .int rsize])), (rr0, .inl (g.2 0, 256, .inl rbeliefs)), (h0, .inr (7, [.ref qr0, .ref qr1, .int (u3726.1 1), .int (u3726.1 2)])), (qr0, .inl (g.2 0, 256, .inl x3534)), (dr5, .inl (g.2 0, 8, .inl dmeanings)), (dr4, .inl (g.2 0, 8, .inl dshames)), (d0, .inr (0, [.int dstates, .int dreally, .int ddays, .int dheal, .int dleak, .int dlines, .int dhearers, .int dwords, .int dplans, .int dnews, .ref dr0, .ref dr1, .ref dr2, .ref dr3, .ref dr4, .ref dr5, .ref dr6, .ref dr7, .ref dr8, .ref dr9])), (m0, .inr (4, [.ref mr0])), (mr0, .inl (g.2 0, 256, .inl mmeans))] H := hP
                    have hD : va_D A [(qr1, .inl (g.2 0, 256, .inl x3717)), (k0, .inr (6, [.ref rr0, .ref rr1, .int rsize])), (rr0, .inl (g.2 0, 256, .inl rbeliefs)), (h0, .inr (7, [.ref qr0, .ref qr1, .int (u3726.1 1), .int (u3726.1 2)])), (qr0, .inl (g.2 0, 256, .inl x3534)), (dr5, .inl (g.2 0, 8, .inl dmeanings)), (dr4, .inl (g.2 0, 8, .inl dshames)), (d0, .inr (0, [.int dstates, .int dreally, .int ddays, .int dheal, .int dleak, .int dlines, .int dhearers, .int dwords, .int dplans, .int dnews, .ref dr0, .ref dr1, .ref dr2, .ref dr3, .ref dr4, .ref dr5, .ref dr6, .ref dr7, .ref dr8, .ref dr9])), (m0, .inr (4, [.ref mr0])), (mr0, .inl (g.2 0, 256, .inl mmeans))] := hD
                    refine W.eq (g2 := F0 m 106 ls [.int (u3730.1 0), .ref d0]) rfl ?_
                    refine lv_aload_n hx hb dX7_weigh_106 rfl (lv_at hl 4 rfl) ?_
                    refine g_getN (C := RX0) (T := TX0) (N := 20) (ci := 0) (v := .int ddays) FC hKn hP i_X0 7 rfl rfl 2 (by decide) b_138 rfl dX7_weigh_107 ?_
                    refine lv_iconst (v := 1) hx hb dX7_weigh_110 (by decide) ?_
                    refine lv_isub hx hb dX7_weigh_111 ?_
                    refine lv_topi (fun z3732 e_z3732 => ?_)
                    have t_z3732 : z3732.toInt = ddays.toInt - ((1 : Int32)).toInt := by rw [e_z3732]; exact fb_subI (by omega) (by omega)
                    refine lv_iload hx hb dX7_weigh_112 (lv_at hl 2 rfl) ?_
                    refine lv_isub hx hb dX7_weigh_114 ?_
                    refine lv_topi (fun z3733 e_z3733 => ?_)
                    have t_z3733 : z3733.toInt = z3732.toInt - x3531.toInt := by rw [e_z3733]; exact fb_subI (by omega) (by omega)
                    refine call_VN (As := [.int (u3730.1 0), .int z3733]) (rest := []) (wr := [(qr1, .inl (g.2 0, 256, .inl x3717)), (k0, .inr (6, [.ref rr0, .ref rr1, .int rsize])), (rr0, .inl (g.2 0, 256, .inl rbeliefs)), (h0, .inr (7, [.ref qr0, .ref qr1, .int (u3726.1 1), .int (u3726.1 2)])), (qr0, .inl (g.2 0, 256, .inl x3534)), (dr5, .inl (g.2 0, 8, .inl dmeanings)), (dr4, .inl (g.2 0, 8, .inl dshames)), (m0, .inr (4, [.ref mr0])), (mr0, .inl (g.2 0, 256, .inl mmeans))]) FC hKn hZ (k_X0_leftOf l g d0 dr0 dr1 dr2 dr3 dr4 dr5 dr6 dr7 dr8 dr9 dstates dreally ddays dheal dleak dlines dhearers dwords dplans dnews (u3730.1 0) z3733 (by omega) (by omega) (by omega) (by omega) (by omega) (by omega) (by omega)) m_yX0_leftOf b_139 (ci := 0) rfl rfl rfl hP hD hS hA [7] [0, 1, 2, 3, 4, 5, 6, 8, 9] rfl (by decide) rfl (by decide +kernel) (by decide +kernel) rfl hl.1 rfl (Nat.le_of_ble_eq_true rfl) dX7_weigh_115 ⟨(Nat.le_of_ble_eq_true rfl), (Nat.le_of_ble_eq_true rfl)⟩ ⟨(Nat.le_of_ble_eq_true rfl), (Nat.le_of_ble_eq_true rfl)⟩ (fun u3734 H locs q3735 hP hD hS => ?_)
                    have hP : va_P g.1 vwCl [(qr1, .inl (g.2 0, 256, .inl x3717)), (k0, .inr (6, [.ref rr0, .ref rr1, .int rsize])), (rr0, .inl (g.2 0, 256, .inl rbeliefs)), (h0, .inr (7, [.ref qr0, .ref qr1, .int (u3726.1 1), .int (u3726.1 2)])), (qr0, .inl (g.2 0, 256, .inl x3534)), (dr5, .inl (g.2 0, 8, .inl dmeanings)), (dr4, .inl (g.2 0, 8, .inl dshames)), (m0, .inr (4, [.ref mr0])), (mr0, .inl (g.2 0, 256, .inl mmeans)), (d0, .inr (0, [.int dstates, .int dreally, .int ddays, .int dheal, .int dleak, .int dlines, .int dhearers, .int dwords, .int dplans, .int dnews, .ref dr0, .ref dr1, .ref dr2, .ref dr3, .ref dr4, .ref dr5, .ref dr6, .ref dr7, .ref dr8, .ref dr9]))] H := hP
                    have hD : va_D A [(qr1, .inl (g.2 0, 256, .inl x3717)), (k0, .inr (6, [.ref rr0, .ref rr1, .int rsize])), (rr0, .inl (g.2 0, 256, .inl rbeliefs)), (h0, .inr (7, [.ref qr0, .ref qr1, .int (u3726.1 1), .int (u3726.1 2)])), (qr0, .inl (g.2 0, 256, .inl x3534)), (dr5, .inl (g.2 0, 8, .inl dmeanings)), (dr4, .inl (g.2 0, 8, .inl dshames)), (m0, .inr (4, [.ref mr0])), (mr0, .inl (g.2 0, 256, .inl mmeans)), (d0, .inr (0, [.int dstates, .int dreally, .int ddays, .int dheal, .int dleak, .int dlines, .int dhearers, .int dwords, .int dplans, .int dnews, .ref dr0, .ref dr1, .ref dr2, .ref dr3, .ref dr4, .ref dr5, .ref dr6, .ref dr7, .ref dr8, .ref dr9]))] := hD
                    refine W.eq (g2 := F0 m 118 ls [.int (u3734.1 0)]) rfl ?_
                    refine lv_istore (lv' := [(9, .int (u3734.1 0)), (8, .int z3725), (7, .int x3714), (6, .int x3531), (0, .ref h0), (1, .ref d0), (2, .ref m0), (3, .ref k0), (4, .int p4), (5, .int p5)]) hx hb dX7_weigh_118 hl (by decide) rfl (fun ls hl => ?_)
                    refine lv_aload_n hx hb dX7_weigh_120 rfl (lv_at hl 4 rfl) ?_
                    refine g_get (C := RX7) (T := TX7) (N := 4) (ci := 7) (v := .ref qr1) FC hKn hP i_X7 3 rfl rfl 1 (by decide) b_143 rfl dX7_weigh_121 ?_
                    refine lv_iload hx hb dX7_weigh_124 (lv_at hl 1 rfl) ?_
                    refine lv_aload_n hx hb dX7_weigh_126 rfl (lv_at hl 5 rfl) ?_
                    refine lv_iload hx hb dX7_weigh_127 (lv_at hl 0 rfl) ?_
                    refine lv_aload_n hx hb dX7_weigh_129 rfl (lv_at hl 4 rfl) ?_
                    refine g_get (C := RX7) (T := TX7) (N := 4) (ci := 7) (v := .int (u3726.1 1)) FC hKn hP i_X7 3 rfl rfl 2 (by decide) b_133 rfl dX7_weigh_130 ?_
                    refine call_VN (As := [.int (u3734.1 0), .int (u3726.1 1)]) (rest := [.int z3725, .ref qr1]) (wr := [(qr1, .inl (g.2 0, 256, .inl x3717)), (k0, .inr (6, [.ref rr0, .ref rr1, .int rsize])), (rr0, .inl (g.2 0, 256, .inl rbeliefs)), (h0, .inr (7, [.ref qr0, .ref qr1, .int (u3726.1 1), .int (u3726.1 2)])), (qr0, .inl (g.2 0, 256, .inl x3534)), (dr5, .inl (g.2 0, 8, .inl dmeanings)), (dr4, .inl (g.2 0, 8, .inl dshames)), (m0, .inr (4, [.ref mr0])), (mr0, .inl (g.2 0, 256, .inl mmeans))]) FC hKn hZ (k_X0_inTheMean l g d0 dr0 dr1 dr2 dr3 dr4 dr5 dr6 dr7 dr8 dr9 dstates dreally ddays dheal dleak dlines dhearers dwords dplans dnews (u3734.1 0) (u3726.1 1) (by omega) (by omega) (by omega) (by omega) (by omega) (by omega) (by omega)) m_yX0_inTheMean b_151 (ci := 0) rfl rfl rfl hP hD hS hA [9] [0, 1, 2, 3, 4, 5, 6, 7, 8] rfl (by decide) rfl (by decide +kernel) (by decide +kernel) rfl hl.1 rfl (Nat.le_of_ble_eq_true rfl) dX7_weigh_133 ⟨(Nat.le_of_ble_eq_true rfl), (Nat.le_of_ble_eq_true rfl)⟩ ⟨(Nat.le_of_ble_eq_true rfl), (Nat.le_of_ble_eq_true rfl)⟩ (fun u3736 H locs q3737 hP hD hS => ?_)
                    have hP : va_P g.1 vwCl [(qr1, .inl (g.2 0, 256, .inl x3717)), (k0, .inr (6, [.ref rr0, .ref rr1, .int rsize])), (rr0, .inl (g.2 0, 256, .inl rbeliefs)), (h0, .inr (7, [.ref qr0, .ref qr1, .int (u3726.1 1), .int (u3726.1 2)])), (qr0, .inl (g.2 0, 256, .inl x3534)), (dr5, .inl (g.2 0, 8, .inl dmeanings)), (dr4, .inl (g.2 0, 8, .inl dshames)), (m0, .inr (4, [.ref mr0])), (mr0, .inl (g.2 0, 256, .inl mmeans)), (d0, .inr (0, [.int dstates, .int dreally, .int ddays, .int dheal, .int dleak, .int dlines, .int dhearers, .int dwords, .int dplans, .int dnews, .ref dr0, .ref dr1, .ref dr2, .ref dr3, .ref dr4, .ref dr5, .ref dr6, .ref dr7, .ref dr8, .ref dr9]))] H := hP
                    have hD : va_D A [(qr1, .inl (g.2 0, 256, .inl x3717)), (k0, .inr (6, [.ref rr0, .ref rr1, .int rsize])), (rr0, .inl (g.2 0, 256, .inl rbeliefs)), (h0, .inr (7, [.ref qr0, .ref qr1, .int (u3726.1 1), .int (u3726.1 2)])), (qr0, .inl (g.2 0, 256, .inl x3534)), (dr5, .inl (g.2 0, 8, .inl dmeanings)), (dr4, .inl (g.2 0, 8, .inl dshames)), (m0, .inr (4, [.ref mr0])), (mr0, .inl (g.2 0, 256, .inl mmeans)), (d0, .inr (0, [.int dstates, .int dreally, .int ddays, .int dheal, .int dleak, .int dlines, .int dhearers, .int dwords, .int dplans, .int dnews, .ref dr0, .ref dr1, .ref dr2, .ref dr3, .ref dr4, .ref dr5, .ref dr6, .ref dr7, .ref dr8, .ref dr9]))] := hD
                    refine W.eq (g2 := F0 m 136 ls [.int (u3736.1 0), .int z3725, .ref qr1]) rfl ?_
                    refine va_iast hx hb hKn.1 hP hD hS 0 0 rfl rfl (vp_in_iff.mpr ⟨by omega, by omega⟩) dX7_weigh_136 (fun H locs hP hD hS => ?_)
                    have hP : va_P g.1 vwCl [(qr1, .inl (g.2 0, 256, .inl (upd x3717 (z3725.toNatClampNeg) (u3736.1 0)))), (k0, .inr (6, [.ref rr0, .ref rr1, .int rsize])), (rr0, .inl (g.2 0, 256, .inl rbeliefs)), (h0, .inr (7, [.ref qr0, .ref qr1, .int (u3726.1 1), .int (u3726.1 2)])), (qr0, .inl (g.2 0, 256, .inl x3534)), (dr5, .inl (g.2 0, 8, .inl dmeanings)), (dr4, .inl (g.2 0, 8, .inl dshames)), (m0, .inr (4, [.ref mr0])), (mr0, .inl (g.2 0, 256, .inl mmeans)), (d0, .inr (0, [.int dstates, .int dreally, .int ddays, .int dheal, .int dleak, .int dlines, .int dhearers, .int dwords, .int dplans, .int dnews, .ref dr0, .ref dr1, .ref dr2, .ref dr3, .ref dr4, .ref dr5, .ref dr6, .ref dr7, .ref dr8, .ref dr9]))] H := hP
                    have hD : va_D A [(qr1, .inl (g.2 0, 256, .inl (upd x3717 (z3725.toNatClampNeg) (u3736.1 0)))), (k0, .inr (6, [.ref rr0, .ref rr1, .int rsize])), (rr0, .inl (g.2 0, 256, .inl rbeliefs)), (h0, .inr (7, [.ref qr0, .ref qr1, .int (u3726.1 1), .int (u3726.1 2)])), (qr0, .inl (g.2 0, 256, .inl x3534)), (dr5, .inl (g.2 0, 8, .inl dmeanings)), (dr4, .inl (g.2 0, 8, .inl dshames)), (m0, .inr (4, [.ref mr0])), (mr0, .inl (g.2 0, 256, .inl mmeans)), (d0, .inr (0, [.int dstates, .int dreally, .int ddays, .int dheal, .int dleak, .int dlines, .int dhearers, .int dwords, .int dplans, .int dnews, .ref dr0, .ref dr1, .ref dr2, .ref dr3, .ref dr4, .ref dr5, .ref dr6, .ref dr7, .ref dr8, .ref dr9]))] := hD
                    generalize (upd x3717 (z3725.toNatClampNeg) (u3736.1 0) : Nat → Int32) = f3738 at hP hD
                    obtain ⟨z3739, e_z3739⟩ : ∃ y : Int32, y = x3714 + 1 := ⟨_, rfl⟩
                    have t_z3739 : z3739.toInt = x3714.toInt + 1 := by rw [e_z3739]; exact addk (by decide) (by omega) (by omega)
                    refine lv_iinc (v := z3739) (lv' := [(7, .int z3739), (9, .int (u3734.1 0)), (8, .int z3725), (6, .int x3531), (0, .ref h0), (1, .ref d0), (2, .ref m0), (3, .ref k0), (4, .int p4), (5, .int p5)]) hx hb dX7_weigh_137 hl (k := 2) rfl (by rw [e_z3739]; rfl) (by decide) rfl (fun ls hl => ?_)
                    refine lv_goto (tgt := 67) hx hb dX7_weigh_140 (by decide) ?_
                    exact ih3719 z3739 (u3726.1 1) (u3726.1 2) f3738 _ _ ls (by omega) (by omega) (hP.sub [3, 4, 0, 9, 5, 6, 7, 8, 1, 2] rfl) (hD.sub [3, 4, 0, 9, 5, 6, 7, 8, 1, 2] (by decide +kernel) rfl) hS (lv_sub hl [0, 3, 4, 5, 6, 7, 8, 9] rfl)
              have kc0 : (0 : Int32).toInt = 0 := by decide
              exact lp3718 _ (0 : Int32) x3532 x3533 x3535 _ _ ls (by decide) (Nat.lt_succ_self _) hP hD hS (lv_sub hl [0, 1, 2, 3, 4, 5, 6, 7] rfl)
        exact lp3536 _ z3125 qcost qword x3119 qfresh _ _ ls (by omega) (Nat.lt_succ_self _) hP hD hS (lv_sub hl [0, 1, 2, 3, 4, 5, 6] rfl)
      · have c3124 := k_nle (a := rsize.toInt) (b := x3118.toInt) rfl rfl c3124
        refine lv_aload_n hx hb dX7_weigh_12 rfl (lv_at hl 4 rfl) ?_
        refine g_getN (C := RX6) (T := TX6) (N := 3) (ci := 6) (v := .ref rr0) FC hKn hP i_X6 8 rfl rfl 0 (by decide) b_148 rfl dX7_weigh_13 ?_
        refine lv_iload hx hb dX7_weigh_16 (lv_at hl 0 rfl) ?_
        refine va_iald hx hb hKn.1 hP 9 0 rfl rfl (vp_in_iff.mpr ⟨by omega, by omega⟩) dX7_weigh_18 ?_
        refine lv_topi (fun z3740 e_z3740 => ?_)
        have t_z3740 : 0 ≤ z3740.toInt ∧ z3740.toInt ≤ 255 := by rw [e_z3740]; exact i_rbeliefs _ (clt (by omega) (by omega))
        refine lv_istore (lv' := [(7, .int z3740), (6, .int x3118), (0, .ref h0), (1, .ref d0), (2, .ref m0), (3, .ref k0), (4, .int p4), (5, .int p5)]) hx hb dX7_weigh_19 hl (by decide) rfl (fun ls hl => ?_)
        refine lv_aload_n hx hb dX7_weigh_21 rfl (lv_at hl 2 rfl) ?_
        refine g_get (C := RX7) (T := TX7) (N := 4) (ci := 7) (v := .ref qr0) FC hKn hP i_X7 0 rfl rfl 0 (by decide) b_132 rfl dX7_weigh_22 ?_
        refine lv_iload hx hb dX7_weigh_25 (lv_at hl 0 rfl) ?_
        refine lv_iload hx hb dX7_weigh_27 (lv_at hl 0 rfl) ?_
        refine lv_aload_n hx hb dX7_weigh_29 rfl (lv_at hl 3 rfl) ?_
        refine call_VN (As := []) (rest := [.int z3740, .int z3740, .ref qr0]) (wr := [(h0, .inr (7, [.ref qr0, .ref qr1, .int qcost, .int qword])), (qr0, .inl (g.2 0, 256, .inl x3119)), (qr1, .inl (g.2 0, 256, .inl qfresh)), (dr5, .inl (g.2 0, 8, .inl dmeanings)), (dr4, .inl (g.2 0, 8, .inl dshames)), (m0, .inr (4, [.ref mr0])), (mr0, .inl (g.2 0, 256, .inl mmeans)), (k0, .inr (6, [.ref rr0, .ref rr1, .int rsize])), (rr0, .inl (g.2 0, 256, .inl rbeliefs))]) FC hKn hZ (k_X0_truth l g d0 dr0 dr1 dr2 dr3 dr4 dr5 dr6 dr7 dr8 dr9 dstates dreally ddays dheal dleak dlines dhearers dwords dplans dnews (by omega) (by omega) (by omega) (by omega) (by omega) (by omega) (by omega)) m_yX0_truth b_149 (ci := 0) rfl rfl rfl hP hD hS hA [3] [0, 1, 2, 4, 5, 6, 7, 8, 9] rfl (by decide) rfl (by decide +kernel) (by decide +kernel) rfl hl.1 rfl (Nat.le_of_ble_eq_true rfl) dX7_weigh_30 ⟨(Nat.le_of_ble_eq_true rfl), (Nat.le_of_ble_eq_true rfl)⟩ ⟨(Nat.le_of_ble_eq_true rfl), (Nat.le_of_ble_eq_true rfl)⟩ (fun u3741 H locs q3742 hP hD hS => ?_)
        have q3742_0 : 1 ≤ (u3741.1 0).toInt ∧ (u3741.1 0).toInt ≤ 128 := q3742
        have hP : va_P g.1 vwCl [(h0, .inr (7, [.ref qr0, .ref qr1, .int qcost, .int qword])), (qr0, .inl (g.2 0, 256, .inl x3119)), (qr1, .inl (g.2 0, 256, .inl qfresh)), (dr5, .inl (g.2 0, 8, .inl dmeanings)), (dr4, .inl (g.2 0, 8, .inl dshames)), (m0, .inr (4, [.ref mr0])), (mr0, .inl (g.2 0, 256, .inl mmeans)), (k0, .inr (6, [.ref rr0, .ref rr1, .int rsize])), (rr0, .inl (g.2 0, 256, .inl rbeliefs)), (d0, .inr (0, [.int dstates, .int dreally, .int ddays, .int dheal, .int dleak, .int dlines, .int dhearers, .int dwords, .int dplans, .int dnews, .ref dr0, .ref dr1, .ref dr2, .ref dr3, .ref dr4, .ref dr5, .ref dr6, .ref dr7, .ref dr8, .ref dr9]))] H := hP
        have hD : va_D A [(h0, .inr (7, [.ref qr0, .ref qr1, .int qcost, .int qword])), (qr0, .inl (g.2 0, 256, .inl x3119)), (qr1, .inl (g.2 0, 256, .inl qfresh)), (dr5, .inl (g.2 0, 8, .inl dmeanings)), (dr4, .inl (g.2 0, 8, .inl dshames)), (m0, .inr (4, [.ref mr0])), (mr0, .inl (g.2 0, 256, .inl mmeans)), (k0, .inr (6, [.ref rr0, .ref rr1, .int rsize])), (rr0, .inl (g.2 0, 256, .inl rbeliefs)), (d0, .inr (0, [.int dstates, .int dreally, .int ddays, .int dheal, .int dleak, .int dlines, .int dhearers, .int dwords, .int dplans, .int dnews, .ref dr0, .ref dr1, .ref dr2, .ref dr3, .ref dr4, .ref dr5, .ref dr6, .ref dr7, .ref dr8, .ref dr9]))] := hD
        refine W.eq (g2 := F0 m 33 ls [.int (u3741.1 0), .int z3740, .int z3740, .ref qr0]) rfl ?_
        refine lv_icmp_ne (tgt := 40) hx hb dX7_weigh_33 (by decide) (fun c3743 => ?_) (fun c3743 => ?_)
        · have c3743 := k_ne (a := z3740.toInt) (b := (u3741.1 0).toInt) rfl rfl c3743
          refine lv_ldc hx hb hown (hB _ b_150) dX7_weigh_40 ?_
          refine va_iast hx hb hKn.1 hP hD hS 1 0 rfl rfl (vp_in_iff.mpr ⟨by omega, by omega⟩) dX7_weigh_42 (fun H locs hP hD hS => ?_)
          have hP : va_P g.1 vwCl [(h0, .inr (7, [.ref qr0, .ref qr1, .int qcost, .int qword])), (qr0, .inl (g.2 0, 256, .inl (upd x3119 (z3740.toNatClampNeg) 100000))), (qr1, .inl (g.2 0, 256, .inl qfresh)), (dr5, .inl (g.2 0, 8, .inl dmeanings)), (dr4, .inl (g.2 0, 8, .inl dshames)), (m0, .inr (4, [.ref mr0])), (mr0, .inl (g.2 0, 256, .inl mmeans)), (k0, .inr (6, [.ref rr0, .ref rr1, .int rsize])), (rr0, .inl (g.2 0, 256, .inl rbeliefs)), (d0, .inr (0, [.int dstates, .int dreally, .int ddays, .int dheal, .int dleak, .int dlines, .int dhearers, .int dwords, .int dplans, .int dnews, .ref dr0, .ref dr1, .ref dr2, .ref dr3, .ref dr4, .ref dr5, .ref dr6, .ref dr7, .ref dr8, .ref dr9]))] H := hP
          have hD : va_D A [(h0, .inr (7, [.ref qr0, .ref qr1, .int qcost, .int qword])), (qr0, .inl (g.2 0, 256, .inl (upd x3119 (z3740.toNatClampNeg) 100000))), (qr1, .inl (g.2 0, 256, .inl qfresh)), (dr5, .inl (g.2 0, 8, .inl dmeanings)), (dr4, .inl (g.2 0, 8, .inl dshames)), (m0, .inr (4, [.ref mr0])), (mr0, .inl (g.2 0, 256, .inl mmeans)), (k0, .inr (6, [.ref rr0, .ref rr1, .int rsize])), (rr0, .inl (g.2 0, 256, .inl rbeliefs)), (d0, .inr (0, [.int dstates, .int dreally, .int ddays, .int dheal, .int dleak, .int dlines, .int dhearers, .int dwords, .int dplans, .int dnews, .ref dr0, .ref dr1, .ref dr2, .ref dr3, .ref dr4, .ref dr5, .ref dr6, .ref dr7, .ref dr8, .ref dr9]))] := hD
          generalize (upd x3119 (z3740.toNatClampNeg) 100000 : Nat → Int32) = f3744 at hP hD
          obtain ⟨z3745, e_z3745⟩ : ∃ y : Int32, y = x3118 + 1 := ⟨_, rfl⟩
          have t_z3745 : z3745.toInt = x3118.toInt + 1 := by rw [e_z3745]; exact addk (by decide) (by omega) (by omega)
          refine lv_iinc (v := z3745) (lv' := [(6, .int z3745), (7, .int z3740), (0, .ref h0), (1, .ref d0), (2, .ref m0), (3, .ref k0), (4, .int p4), (5, .int p5)]) hx hb dX7_weigh_43 hl (k := 1) rfl (by rw [e_z3745]; rfl) (by decide) rfl (fun ls hl => ?_)
          refine lv_goto (tgt := 3) hx hb dX7_weigh_46 (by decide) ?_
          exact ih3121 z3745 f3744 _ _ ls (by omega) (by omega) (hP.sub [0, 1, 2, 9, 3, 4, 5, 6, 7, 8] rfl) (hD.sub [0, 1, 2, 9, 3, 4, 5, 6, 7, 8] (by decide +kernel) rfl) hS (lv_sub hl [0, 2, 3, 4, 5, 6, 7] rfl)
        · have c3743 := k_eq (a := z3740.toInt) (b := (u3741.1 0).toInt) rfl rfl c3743
          refine lv_iconst (v := 0) hx hb dX7_weigh_36 (by decide) ?_
          refine lv_goto (tgt := 42) hx hb dX7_weigh_37 (by decide) ?_
          refine va_iast hx hb hKn.1 hP hD hS 1 0 rfl rfl (vp_in_iff.mpr ⟨by omega, by omega⟩) dX7_weigh_42 (fun H locs hP hD hS => ?_)
          have hP : va_P g.1 vwCl [(h0, .inr (7, [.ref qr0, .ref qr1, .int qcost, .int qword])), (qr0, .inl (g.2 0, 256, .inl (upd x3119 (z3740.toNatClampNeg) 0))), (qr1, .inl (g.2 0, 256, .inl qfresh)), (dr5, .inl (g.2 0, 8, .inl dmeanings)), (dr4, .inl (g.2 0, 8, .inl dshames)), (m0, .inr (4, [.ref mr0])), (mr0, .inl (g.2 0, 256, .inl mmeans)), (k0, .inr (6, [.ref rr0, .ref rr1, .int rsize])), (rr0, .inl (g.2 0, 256, .inl rbeliefs)), (d0, .inr (0, [.int dstates, .int dreally, .int ddays, .int dheal, .int dleak, .int dlines, .int dhearers, .int dwords, .int dplans, .int dnews, .ref dr0, .ref dr1, .ref dr2, .ref dr3, .ref dr4, .ref dr5, .ref dr6, .ref dr7, .ref dr8, .ref dr9]))] H := hP
          have hD : va_D A [(h0, .inr (7, [.ref qr0, .ref qr1, .int qcost, .int qword])), (qr0, .inl (g.2 0, 256, .inl (upd x3119 (z3740.toNatClampNeg) 0))), (qr1, .inl (g.2 0, 256, .inl qfresh)), (dr5, .inl (g.2 0, 8, .inl dmeanings)), (dr4, .inl (g.2 0, 8, .inl dshames)), (m0, .inr (4, [.ref mr0])), (mr0, .inl (g.2 0, 256, .inl mmeans)), (k0, .inr (6, [.ref rr0, .ref rr1, .int rsize])), (rr0, .inl (g.2 0, 256, .inl rbeliefs)), (d0, .inr (0, [.int dstates, .int dreally, .int ddays, .int dheal, .int dleak, .int dlines, .int dhearers, .int dwords, .int dplans, .int dnews, .ref dr0, .ref dr1, .ref dr2, .ref dr3, .ref dr4, .ref dr5, .ref dr6, .ref dr7, .ref dr8, .ref dr9]))] := hD
          generalize (upd x3119 (z3740.toNatClampNeg) 0 : Nat → Int32) = f3746 at hP hD
          obtain ⟨z3747, e_z3747⟩ : ∃ y : Int32, y = x3118 + 1 := ⟨_, rfl⟩
          have t_z3747 : z3747.toInt = x3118.toInt + 1 := by rw [e_z3747]; exact addk (by decide) (by omega) (by omega)
          refine lv_iinc (v := z3747) (lv' := [(6, .int z3747), (7, .int z3740), (0, .ref h0), (1, .ref d0), (2, .ref m0), (3, .ref k0), (4, .int p4), (5, .int p5)]) hx hb dX7_weigh_43 hl (k := 1) rfl (by rw [e_z3747]; rfl) (by decide) rfl (fun ls hl => ?_)
          refine lv_goto (tgt := 3) hx hb dX7_weigh_46 (by decide) ?_
          exact ih3121 z3747 f3746 _ _ ls (by omega) (by omega) (hP.sub [0, 1, 2, 9, 3, 4, 5, 6, 7, 8] rfl) (hD.sub [0, 1, 2, 9, 3, 4, 5, 6, 7, 8] (by decide +kernel) rfl) hS (lv_sub hl [0, 2, 3, 4, 5, 6, 7] rfl)
  have kc0 : (0 : Int32).toInt = 0 := by decide
  exact lp3120 _ (0 : Int32) qlater _ _ ls (by decide) (Nat.lt_succ_self _) hP hD hS (lv_sub hl [0, 1, 2, 3, 4, 5, 6] rfl)
