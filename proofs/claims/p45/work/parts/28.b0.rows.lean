set_option maxRecDepth 100000 in
set_option maxHeartbeats 4000000 in
theorem k_X9_put (l : Launch) (g : GG) (h0 : Nat) (tr0 : Nat) (tsize : Int32) (tkind : Int32) (tstart : Int32) (tstop : Int32) (tnumber : Int32) (tbytes : Nat → Int32) (p1 : Int32) (i_tsize : 0 ≤ tsize.toInt ∧ tsize.toInt ≤ 900) (i_tstart : 0 ≤ tstart.toInt ∧ tstart.toInt ≤ 900) (i_tstop : 0 ≤ tstop.toInt ∧ tstop.toInt ≤ 900) : Ct l g yX9_put cX9_put 3 none { frames := 0, cells := 0, slots := 0, locals := 0 } [.ref h0, .int p1] [(h0, .inr (9, [.ref tr0, .int tsize, .int tkind, .int tstart, .int tstop, .int tnumber])), (tr0, .inl (g.2 1, 900, .inl tbytes))] (S := (Nat → Int32) × (Nat → Nat → Int32) × (Nat → Nat → Int64)) (fun _ => none) (fun u => (0 ≤ (u.1 1).toInt ∧ (u.1 1).toInt ≤ 900)) (fun u => [(h0, .inr (9, [.ref tr0, .int (u.1 1), .int tkind, .int tstart, .int tstop, .int tnumber])), (tr0, .inl (g.2 1, 900, .inl (u.2.1 0)))]) := by
  refine Ct.of (by decide) (Nat.le_of_ble_eq_true rfl) ?_
  intro p e s m below meth c A ls FX hP hD hS hl
  obtain ⟨FC, hr, hlk, hKn, hA, hnm, hZ⟩ := id FX
  have FC : CallFix p m c cX9_put 3 s _ BIG RX9 := FC
  obtain ⟨hx, hb, hml, hown, hB⟩ := id FC
  have hl : lv_has ls 3 [(0, .ref h0), (1, .int p1)] := hl
  refine lv_bipush (v := 24) hx hb dX9_put_0 (by decide) ?_
  refine lv_istore_n (lv' := [(2, .int 24), (0, .ref h0), (1, .int p1)]) hx hb dX9_put_2 rfl hl (by decide) rfl (fun ls hl => ?_)
  have lp49 : ∀ (n51 : Nat) (x46 : Int32) (x47 : Int32) (x48 : Nat → Int32) (H : Heap) (locs : List Loc) (ls : Array Slot), -8 ≤ x46.toInt ∧ x46.toInt ≤ 24 → 0 ≤ x47.toInt ∧ x47.toInt ≤ 900 → (900 - x47.toInt).toNat < n51 → va_P g.1 vwCl [(h0, .inr (9, [.ref tr0, .int x47, .int tkind, .int tstart, .int tstop, .int tnumber])), (tr0, .inl (g.2 1, 900, .inl x48))] H → va_D A [(h0, .inr (9, [.ref tr0, .int x47, .int tkind, .int tstart, .int tstop, .int tnumber])), (tr0, .inl (g.2 1, 900, .inl x48))] → va_S A s.heap H locs → lv_has ls 3 [(2, .int x46), (0, .ref h0), (1, .int p1)] → W p l e { frames := 0, cells := 0, slots := 0, locals := 0 } s m ([.ref h0, .int p1].toArray) below meth c H locs 0 0 (MQ below (QX (S := (Nat → Int32) × (Nat → Nat → Int32) × (Nat → Nat → Int64)) (fun _ => none) (fun u => (0 ≤ (u.1 1).toInt ∧ (u.1 1).toInt ≤ 900)) g (fun u => [(h0, .inr (9, [.ref tr0, .int (u.1 1), .int tkind, .int tstart, .int tstop, .int tnumber])), (tr0, .inl (g.2 1, 900, .inl (u.2.1 0)))]) A) ([.ref h0, .int p1].toArray) s 0 0 A) (F0 m 3 ls []) := by
    intro n51
    induction n51 with
    | zero =>
      intro x46 x47 x48 H locs ls h_x46 h_x47 hn52
      exact absurd hn52 (Nat.not_lt_zero _)
    | succ n51 ih50 =>
      intro x46 x47 x48 H locs ls h_x46 h_x47 hn52 hP hD hS hl
      refine lv_iload_n hx hb dX9_put_3 rfl (lv_at hl 0 rfl) ?_
      refine lv_if_lt (tgt := 46) hx hb dX9_put_4 (by decide) (fun c53 => ?_) (fun c53 => ?_)
      · have c53 := k_lt (a := x46.toInt) (b := 0) rfl (by decide) c53
        exact rt_v FX ((fun k => match k with | 0 => 0 | 1 => x47 | _ => 0), (fun k => match k with | 0 => x48 | _ => fun _ => 0), (fun _ => fun _ => 0)) rfl (show 0 ≤ x47.toInt ∧ x47.toInt ≤ 900 by omega) (hP.sub [0, 1] rfl) (hD.sub [0, 1] (by decide) rfl) hS (Nat.le_of_ble_eq_true rfl) (Nat.le_of_ble_eq_true rfl) dX9_put_46
      · have c53 := k_nlt (a := x46.toInt) (b := 0) rfl (by decide) c53
        refine lv_aload_n hx hb dX9_put_7 rfl (lv_at hl 1 rfl) ?_
        refine g_get (C := RX9) (T := TX9) (N := 6) (ci := 9) (v := .int x47) FC hKn hP i_X9 0 rfl rfl 1 (by decide) b_546 rfl dX9_put_8 ?_
        refine lv_sipush (v := 900) hx hb dX9_put_11 (by decide) ?_
        refine lv_icmp_ge (tgt := 46) hx hb dX9_put_14 (by decide) (fun c54 => ?_) (fun c54 => ?_)
        · have c54 := k_le (a := 900) (b := x47.toInt) (by decide) rfl c54
          exact rt_v FX ((fun k => match k with | 0 => 0 | 1 => x47 | _ => 0), (fun k => match k with | 0 => x48 | _ => fun _ => 0), (fun _ => fun _ => 0)) rfl (show 0 ≤ x47.toInt ∧ x47.toInt ≤ 900 by omega) (hP.sub [0, 1] rfl) (hD.sub [0, 1] (by decide) rfl) hS (Nat.le_of_ble_eq_true rfl) (Nat.le_of_ble_eq_true rfl) dX9_put_46
        · have c54 := k_nle (a := 900) (b := x47.toInt) (by decide) rfl c54
          refine lv_aload_n hx hb dX9_put_17 rfl (lv_at hl 1 rfl) ?_
          refine g_get (C := RX9) (T := TX9) (N := 6) (ci := 9) (v := .ref tr0) FC hKn hP i_X9 0 rfl rfl 0 (by decide) b_547 rfl dX9_put_18 ?_
          refine lv_aload_n hx hb dX9_put_21 rfl (lv_at hl 1 rfl) ?_
          refine g_get (C := RX9) (T := TX9) (N := 6) (ci := 9) (v := .int x47) FC hKn hP i_X9 0 rfl rfl 1 (by decide) b_546 rfl dX9_put_22 ?_
          refine lv_iload_n hx hb dX9_put_25 rfl (lv_at hl 2 rfl) ?_
          refine lv_iload_n hx hb dX9_put_26 rfl (lv_at hl 0 rfl) ?_
          refine lv_ishr hx hb dX9_put_27 ?_
          refine lv_topi (fun z55 e_z55 => ?_)
          refine lv_i2b hx hb dX9_put_28 rfl ?_
          refine lv_topi (fun z56 e_z56 => ?_)
          refine va_bast hx hb hKn.1 hP hD hS 1 1 rfl rfl (vp_in_iff.mpr ⟨by omega, by omega⟩) dX9_put_29 (fun H locs hP hD hS => ?_)
          have hP : va_P g.1 vwCl [(h0, .inr (9, [.ref tr0, .int x47, .int tkind, .int tstart, .int tstop, .int tnumber])), (tr0, .inl (g.2 1, 900, .inl (upd x48 (x47.toNatClampNeg) (vp_nar .byte z56))))] H := hP
          have hD : va_D A [(h0, .inr (9, [.ref tr0, .int x47, .int tkind, .int tstart, .int tstop, .int tnumber])), (tr0, .inl (g.2 1, 900, .inl (upd x48 (x47.toNatClampNeg) (vp_nar .byte z56))))] := hD
          generalize (upd x48 (x47.toNatClampNeg) (vp_nar .byte z56) : Nat → Int32) = f57 at hP hD
          refine lv_aload_n hx hb dX9_put_30 rfl (lv_at hl 1 rfl) ?_
          refine lv_dup hx hb dX9_put_31 rfl ?_
          refine g_get (C := RX9) (T := TX9) (N := 6) (ci := 9) (v := .int x47) FC hKn hP i_X9 0 rfl rfl 1 (by decide) b_546 rfl dX9_put_32 ?_
          refine lv_iconst (v := 1) hx hb dX9_put_35 (by decide) ?_
          refine lv_iadd hx hb dX9_put_36 ?_
          have kc1 : (1 : Int32).toInt = 1 := by decide
          refine lv_topi (fun z58 e_z58 => ?_)
          have t_z58 : z58.toInt = x47.toInt + ((1 : Int32)).toInt := by rw [e_z58]; exact fb_addI (by omega) (by omega)
          refine g_put (C := RX9) (T := TX9) (N := 6) (ci := 9) (v := .int z58) FC hKn hP hD hS i_X9 tyX9 tyX9_ok nmX9 0 rfl rfl 1 (by decide) b_546 rfl rfl rfl (Nat.le_of_ble_eq_true rfl) dX9_put_37 (fun H locs hP hD hS => ?_)
          have hP : va_P g.1 vwCl [(h0, .inr (9, [.ref tr0, .int z58, .int tkind, .int tstart, .int tstop, .int tnumber])), (tr0, .inl (g.2 1, 900, .inl f57))] H := hP
          have hD : va_D A [(h0, .inr (9, [.ref tr0, .int z58, .int tkind, .int tstart, .int tstop, .int tnumber])), (tr0, .inl (g.2 1, 900, .inl f57))] := hD
          obtain ⟨z59, e_z59⟩ : ∃ y : Int32, y = x46 + (-8) := ⟨_, rfl⟩
          have t_z59 : z59.toInt = x46.toInt + (-8) := by rw [e_z59]; exact addk (by decide) (by omega) (by omega)
          refine lv_iinc (v := z59) (lv' := [(2, .int z59), (0, .ref h0), (1, .int p1)]) hx hb dX9_put_40 hl (k := 0) rfl (by rw [e_z59]; rfl) (by decide) rfl (fun ls hl => ?_)
          refine lv_goto (tgt := 3) hx hb dX9_put_43 (by decide) ?_
          exact ih50 z59 z58 f57 _ _ ls (by omega) (by omega) (by omega) hP hD hS (lv_sub hl [0, 1, 2] rfl)
  have kc24 : (24 : Int32).toInt = 24 := by decide
  exact lp49 _ (24 : Int32) tsize tbytes _ _ ls (by decide) (by omega) (Nat.lt_succ_self _) hP hD hS (lv_sub hl [0, 1, 2] rfl)
set_option maxRecDepth 100000 in
set_option maxHeartbeats 4000000 in
theorem k_X11_feed (l : Launch) (g : GG) (h0 : Nat) (rd0 : Nat) (d0 : Nat) (im0 : Nat) (ig0 : Nat) (rw0 : Nat) (we0 : Nat) (mi0 : Nat) (re0 : Nat) (pl0 : Nat) (ri0 : Nat) (le0 : Nat) (ta0 : Nat) (df0 : Nat) (by0 : Nat) (yfault : Int32) (yplace : Int32) (yvalue : Int32) (tsize : Int32) (tkind : Int32) (tstart : Int32) (tstop : Int32) (tnumber : Int32) (tbytes : Nat → Int32) (p1 : Int32) (p2 : Int32) (p3 : Int32) (p4 : Int32) (p5 : Int32) (i_tsize : 0 ≤ tsize.toInt ∧ tsize.toInt ≤ 900) (i_tstart : 0 ≤ tstart.toInt ∧ tstart.toInt ≤ 900) (i_tstop : 0 ≤ tstop.toInt ∧ tstop.toInt ≤ 900) : Ct l g yX11_feed cX11_feed 7 (some .int) { frames := 1, cells := 0, slots := 0, locals := 22 } [.ref h0, .int p1, .int p2, .int p3, .int p4, .int p5] [(h0, .inr (11, [.ref rd0, .ref d0, .ref im0, .ref ig0, .ref rw0, .ref we0, .ref mi0, .ref re0, .ref pl0, .ref ri0, .ref le0])), (rd0, .inr (1, [.ref ta0, .ref df0, .int yfault, .int yplace, .int yvalue])), (ta0, .inr (9, [.ref by0, .int tsize, .int tkind, .int tstart, .int tstop, .int tnumber])), (by0, .inl (g.2 1, 900, .inl tbytes))] (S := (Nat → Int32) × (Nat → Nat → Int32) × (Nat → Nat → Int64)) (fun u => some (.int (u.1 0))) (fun u => (0 ≤ (u.1 1).toInt ∧ (u.1 1).toInt ≤ 900)) (fun u => [(h0, .inr (11, [.ref rd0, .ref d0, .ref im0, .ref ig0, .ref rw0, .ref we0, .ref mi0, .ref re0, .ref pl0, .ref ri0, .ref le0])), (rd0, .inr (1, [.ref ta0, .ref df0, .int yfault, .int yplace, .int yvalue])), (ta0, .inr (9, [.ref by0, .int (u.1 1), .int tkind, .int tstart, .int tstop, .int tnumber])), (by0, .inl (g.2 1, 900, .inl (u.2.1 0)))]) := by
  refine Ct.of (by decide) (Nat.le_of_ble_eq_true rfl) ?_
  intro p e s m below meth c A ls FX hP hD hS hl
  obtain ⟨FC, hr, hlk, hKn, hA, hnm, hZ⟩ := id FX
  have FC : CallFix p m c cX11_feed 7 s _ BIG RX11 := FC
  obtain ⟨hx, hb, hml, hown, hB⟩ := id FC
  have hl : lv_has ls 7 [(0, .ref h0), (1, .int p1), (2, .int p2), (3, .int p3), (4, .int p4), (5, .int p5)] := hl
  refine lv_aload_n hx hb dX11_feed_0 rfl (lv_at hl 0 rfl) ?_
  refine g_get (C := RX11) (T := TX11) (N := 11) (ci := 11) (v := .ref rd0) FC hKn hP i_X11 0 rfl rfl 0 (by decide) b_548 rfl dX11_feed_1 ?_
  refine g_getN (C := RX1) (T := TX1) (N := 5) (ci := 1) (v := .ref ta0) FC hKn hP i_X1 1 rfl rfl 0 (by decide) b_549 rfl dX11_feed_4 ?_
  refine lv_astore (lv' := [(6, .ref ta0), (0, .ref h0), (1, .int p1), (2, .int p2), (3, .int p3), (4, .int p4), (5, .int p5)]) hx hb dX11_feed_7 hl (by decide) rfl (fun ls hl => ?_)
  refine lv_aload hx hb dX11_feed_9 (lv_at hl 0 rfl) ?_
  refine g_getN (C := RX9) (T := TX9) (N := 6) (ci := 9) (v := .int tsize) FC hKn hP i_X9 2 rfl rfl 1 (by decide) b_550 rfl dX11_feed_11 ?_
  refine lv_sipush (v := 880) hx hb dX11_feed_14 (by decide) ?_
  refine lv_icmp_le (tgt := 22) hx hb dX11_feed_17 (by decide) (fun c1 => ?_) (fun c1 => ?_)
  · have c1 := k_le (a := tsize.toInt) (b := 880) rfl (by decide) c1
    refine lv_aload hx hb dX11_feed_22 (lv_at hl 0 rfl) ?_
    refine lv_iload_n hx hb dX11_feed_24 rfl (lv_at hl 2 rfl) ?_
    refine call_VN (As := [.int p1]) (rest := []) (wr := [(h0, .inr (11, [.ref rd0, .ref d0, .ref im0, .ref ig0, .ref rw0, .ref we0, .ref mi0, .ref re0, .ref pl0, .ref ri0, .ref le0])), (rd0, .inr (1, [.ref ta0, .ref df0, .int yfault, .int yplace, .int yvalue]))]) FC hKn hZ (k_X9_put l g ta0 by0 tsize tkind tstart tstop tnumber tbytes p1 (by omega) (by omega) (by omega)) m_yX9_put b_551 (ci := 9) rfl rfl rfl hP hD hS hA [2, 3] [0, 1] rfl (by decide) rfl (by decide) (by decide) rfl hl.1 rfl (Nat.le_of_ble_eq_true rfl) dX11_feed_25 ⟨(Nat.le_of_ble_eq_true rfl), (Nat.le_of_ble_eq_true rfl)⟩ ⟨(Nat.le_of_ble_eq_true rfl), (Nat.le_of_ble_eq_true rfl)⟩ (fun u2 H locs q3 hP hD hS => ?_)
    have q3_0 : 0 ≤ (u2.1 1).toInt ∧ (u2.1 1).toInt ≤ 900 := q3
    have hP : va_P g.1 vwCl [(h0, .inr (11, [.ref rd0, .ref d0, .ref im0, .ref ig0, .ref rw0, .ref we0, .ref mi0, .ref re0, .ref pl0, .ref ri0, .ref le0])), (rd0, .inr (1, [.ref ta0, .ref df0, .int yfault, .int yplace, .int yvalue])), (ta0, .inr (9, [.ref by0, .int (u2.1 1), .int tkind, .int tstart, .int tstop, .int tnumber])), (by0, .inl (g.2 1, 900, .inl (u2.2.1 0)))] H := hP
    have hD : va_D A [(h0, .inr (11, [.ref rd0, .ref d0, .ref im0, .ref ig0, .ref rw0, .ref we0, .ref mi0, .ref re0, .ref pl0, .ref ri0, .ref le0])), (rd0, .inr (1, [.ref ta0, .ref df0, .int yfault, .int yplace, .int yvalue])), (ta0, .inr (9, [.ref by0, .int (u2.1 1), .int tkind, .int tstart, .int tstop, .int tnumber])), (by0, .inl (g.2 1, 900, .inl (u2.2.1 0)))] := hD
    refine W.eq (g2 := F0 m 28 ls []) rfl ?_
    refine lv_aload hx hb dX11_feed_28 (lv_at hl 0 rfl) ?_
    refine lv_iload_n hx hb dX11_feed_30 rfl (lv_at hl 3 rfl) ?_
    refine call_VN (As := [.int p2]) (rest := []) (wr := [(h0, .inr (11, [.ref rd0, .ref d0, .ref im0, .ref ig0, .ref rw0, .ref we0, .ref mi0, .ref re0, .ref pl0, .ref ri0, .ref le0])), (rd0, .inr (1, [.ref ta0, .ref df0, .int yfault, .int yplace, .int yvalue]))]) FC hKn hZ (k_X9_put l g ta0 by0 (u2.1 1) tkind tstart tstop tnumber (u2.2.1 0) p2 (by omega) (by omega) (by omega)) m_yX9_put b_551 (ci := 9) rfl rfl rfl hP hD hS hA [2, 3] [0, 1] rfl (by decide) rfl (by decide) (by decide) rfl hl.1 rfl (Nat.le_of_ble_eq_true rfl) dX11_feed_31 ⟨(Nat.le_of_ble_eq_true rfl), (Nat.le_of_ble_eq_true rfl)⟩ ⟨(Nat.le_of_ble_eq_true rfl), (Nat.le_of_ble_eq_true rfl)⟩ (fun u4 H locs q5 hP hD hS => ?_)
    have q5_0 : 0 ≤ (u4.1 1).toInt ∧ (u4.1 1).toInt ≤ 900 := q5
    have hP : va_P g.1 vwCl [(h0, .inr (11, [.ref rd0, .ref d0, .ref im0, .ref ig0, .ref rw0, .ref we0, .ref mi0, .ref re0, .ref pl0, .ref ri0, .ref le0])), (rd0, .inr (1, [.ref ta0, .ref df0, .int yfault, .int yplace, .int yvalue])), (ta0, .inr (9, [.ref by0, .int (u4.1 1), .int tkind, .int tstart, .int tstop, .int tnumber])), (by0, .inl (g.2 1, 900, .inl (u4.2.1 0)))] H := hP
    have hD : va_D A [(h0, .inr (11, [.ref rd0, .ref d0, .ref im0, .ref ig0, .ref rw0, .ref we0, .ref mi0, .ref re0, .ref pl0, .ref ri0, .ref le0])), (rd0, .inr (1, [.ref ta0, .ref df0, .int yfault, .int yplace, .int yvalue])), (ta0, .inr (9, [.ref by0, .int (u4.1 1), .int tkind, .int tstart, .int tstop, .int tnumber])), (by0, .inl (g.2 1, 900, .inl (u4.2.1 0)))] := hD
    refine W.eq (g2 := F0 m 34 ls []) rfl ?_
    refine lv_aload hx hb dX11_feed_34 (lv_at hl 0 rfl) ?_
    refine lv_iload_n hx hb dX11_feed_36 rfl (lv_at hl 4 rfl) ?_
    refine call_VN (As := [.int p3]) (rest := []) (wr := [(h0, .inr (11, [.ref rd0, .ref d0, .ref im0, .ref ig0, .ref rw0, .ref we0, .ref mi0, .ref re0, .ref pl0, .ref ri0, .ref le0])), (rd0, .inr (1, [.ref ta0, .ref df0, .int yfault, .int yplace, .int yvalue]))]) FC hKn hZ (k_X9_put l g ta0 by0 (u4.1 1) tkind tstart tstop tnumber (u4.2.1 0) p3 (by omega) (by omega) (by omega)) m_yX9_put b_551 (ci := 9) rfl rfl rfl hP hD hS hA [2, 3] [0, 1] rfl (by decide) rfl (by decide) (by decide) rfl hl.1 rfl (Nat.le_of_ble_eq_true rfl) dX11_feed_37 ⟨(Nat.le_of_ble_eq_true rfl), (Nat.le_of_ble_eq_true rfl)⟩ ⟨(Nat.le_of_ble_eq_true rfl), (Nat.le_of_ble_eq_true rfl)⟩ (fun u6 H locs q7 hP hD hS => ?_)
    have q7_0 : 0 ≤ (u6.1 1).toInt ∧ (u6.1 1).toInt ≤ 900 := q7
    have hP : va_P g.1 vwCl [(h0, .inr (11, [.ref rd0, .ref d0, .ref im0, .ref ig0, .ref rw0, .ref we0, .ref mi0, .ref re0, .ref pl0, .ref ri0, .ref le0])), (rd0, .inr (1, [.ref ta0, .ref df0, .int yfault, .int yplace, .int yvalue])), (ta0, .inr (9, [.ref by0, .int (u6.1 1), .int tkind, .int tstart, .int tstop, .int tnumber])), (by0, .inl (g.2 1, 900, .inl (u6.2.1 0)))] H := hP
    have hD : va_D A [(h0, .inr (11, [.ref rd0, .ref d0, .ref im0, .ref ig0, .ref rw0, .ref we0, .ref mi0, .ref re0, .ref pl0, .ref ri0, .ref le0])), (rd0, .inr (1, [.ref ta0, .ref df0, .int yfault, .int yplace, .int yvalue])), (ta0, .inr (9, [.ref by0, .int (u6.1 1), .int tkind, .int tstart, .int tstop, .int tnumber])), (by0, .inl (g.2 1, 900, .inl (u6.2.1 0)))] := hD
    refine W.eq (g2 := F0 m 40 ls []) rfl ?_
    refine lv_aload hx hb dX11_feed_40 (lv_at hl 0 rfl) ?_
    refine lv_iload hx hb dX11_feed_42 (lv_at hl 5 rfl) ?_
    refine call_VN (As := [.int p4]) (rest := []) (wr := [(h0, .inr (11, [.ref rd0, .ref d0, .ref im0, .ref ig0, .ref rw0, .ref we0, .ref mi0, .ref re0, .ref pl0, .ref ri0, .ref le0])), (rd0, .inr (1, [.ref ta0, .ref df0, .int yfault, .int yplace, .int yvalue]))]) FC hKn hZ (k_X9_put l g ta0 by0 (u6.1 1) tkind tstart tstop tnumber (u6.2.1 0) p4 (by omega) (by omega) (by omega)) m_yX9_put b_551 (ci := 9) rfl rfl rfl hP hD hS hA [2, 3] [0, 1] rfl (by decide) rfl (by decide) (by decide) rfl hl.1 rfl (Nat.le_of_ble_eq_true rfl) dX11_feed_44 ⟨(Nat.le_of_ble_eq_true rfl), (Nat.le_of_ble_eq_true rfl)⟩ ⟨(Nat.le_of_ble_eq_true rfl), (Nat.le_of_ble_eq_true rfl)⟩ (fun u8 H locs q9 hP hD hS => ?_)
    have q9_0 : 0 ≤ (u8.1 1).toInt ∧ (u8.1 1).toInt ≤ 900 := q9
    have hP : va_P g.1 vwCl [(h0, .inr (11, [.ref rd0, .ref d0, .ref im0, .ref ig0, .ref rw0, .ref we0, .ref mi0, .ref re0, .ref pl0, .ref ri0, .ref le0])), (rd0, .inr (1, [.ref ta0, .ref df0, .int yfault, .int yplace, .int yvalue])), (ta0, .inr (9, [.ref by0, .int (u8.1 1), .int tkind, .int tstart, .int tstop, .int tnumber])), (by0, .inl (g.2 1, 900, .inl (u8.2.1 0)))] H := hP
    have hD : va_D A [(h0, .inr (11, [.ref rd0, .ref d0, .ref im0, .ref ig0, .ref rw0, .ref we0, .ref mi0, .ref re0, .ref pl0, .ref ri0, .ref le0])), (rd0, .inr (1, [.ref ta0, .ref df0, .int yfault, .int yplace, .int yvalue])), (ta0, .inr (9, [.ref by0, .int (u8.1 1), .int tkind, .int tstart, .int tstop, .int tnumber])), (by0, .inl (g.2 1, 900, .inl (u8.2.1 0)))] := hD
    refine W.eq (g2 := F0 m 47 ls []) rfl ?_
    refine lv_aload hx hb dX11_feed_47 (lv_at hl 0 rfl) ?_
    refine lv_iload hx hb dX11_feed_49 (lv_at hl 6 rfl) ?_
    refine call_VN (As := [.int p5]) (rest := []) (wr := [(h0, .inr (11, [.ref rd0, .ref d0, .ref im0, .ref ig0, .ref rw0, .ref we0, .ref mi0, .ref re0, .ref pl0, .ref ri0, .ref le0])), (rd0, .inr (1, [.ref ta0, .ref df0, .int yfault, .int yplace, .int yvalue]))]) FC hKn hZ (k_X9_put l g ta0 by0 (u8.1 1) tkind tstart tstop tnumber (u8.2.1 0) p5 (by omega) (by omega) (by omega)) m_yX9_put b_551 (ci := 9) rfl rfl rfl hP hD hS hA [2, 3] [0, 1] rfl (by decide) rfl (by decide) (by decide) rfl hl.1 rfl (Nat.le_of_ble_eq_true rfl) dX11_feed_51 ⟨(Nat.le_of_ble_eq_true rfl), (Nat.le_of_ble_eq_true rfl)⟩ ⟨(Nat.le_of_ble_eq_true rfl), (Nat.le_of_ble_eq_true rfl)⟩ (fun u10 H locs q11 hP hD hS => ?_)
    have q11_0 : 0 ≤ (u10.1 1).toInt ∧ (u10.1 1).toInt ≤ 900 := q11
    have hP : va_P g.1 vwCl [(h0, .inr (11, [.ref rd0, .ref d0, .ref im0, .ref ig0, .ref rw0, .ref we0, .ref mi0, .ref re0, .ref pl0, .ref ri0, .ref le0])), (rd0, .inr (1, [.ref ta0, .ref df0, .int yfault, .int yplace, .int yvalue])), (ta0, .inr (9, [.ref by0, .int (u10.1 1), .int tkind, .int tstart, .int tstop, .int tnumber])), (by0, .inl (g.2 1, 900, .inl (u10.2.1 0)))] H := hP
    have hD : va_D A [(h0, .inr (11, [.ref rd0, .ref d0, .ref im0, .ref ig0, .ref rw0, .ref we0, .ref mi0, .ref re0, .ref pl0, .ref ri0, .ref le0])), (rd0, .inr (1, [.ref ta0, .ref df0, .int yfault, .int yplace, .int yvalue])), (ta0, .inr (9, [.ref by0, .int (u10.1 1), .int tkind, .int tstart, .int tstop, .int tnumber])), (by0, .inl (g.2 1, 900, .inl (u10.2.1 0)))] := hD
    refine W.eq (g2 := F0 m 54 ls []) rfl ?_
    refine lv_aload hx hb dX11_feed_54 (lv_at hl 0 rfl) ?_
    refine g_getN (C := RX9) (T := TX9) (N := 6) (ci := 9) (v := .int (u10.1 1)) FC hKn hP i_X9 2 rfl rfl 1 (by decide) b_550 rfl dX11_feed_56 ?_
    exact rt_i FX ((fun k => match k with | 0 => u10.1 1 | 1 => u10.1 1 | _ => 0), (fun k => match k with | 0 => u10.2.1 0 | _ => fun _ => 0), (fun _ => fun _ => 0)) rfl (show 0 ≤ (u10.1 1).toInt ∧ (u10.1 1).toInt ≤ 900 by omega) (hP.sub [0, 1, 2, 3] rfl) (hD.sub [0, 1, 2, 3] (by decide) rfl) hS (Nat.le_of_ble_eq_true rfl) (Nat.le_of_ble_eq_true rfl) dX11_feed_59
  · have c1 := k_nle (a := tsize.toInt) (b := 880) rfl (by decide) c1
    refine lv_iconst (v := -1) hx hb dX11_feed_20 (by decide) ?_
    exact rt_i FX ((fun k => match k with | 0 => (-1 : Int32) | 1 => tsize | _ => 0), (fun k => match k with | 0 => tbytes | _ => fun _ => 0), (fun _ => fun _ => 0)) rfl (show 0 ≤ tsize.toInt ∧ tsize.toInt ≤ 900 by omega) (hP.sub [0, 1, 2, 3] rfl) (hD.sub [0, 1, 2, 3] (by decide) rfl) hS (Nat.le_of_ble_eq_true rfl) (Nat.le_of_ble_eq_true rfl) dX11_feed_21
set_option maxRecDepth 100000 in
set_option maxHeartbeats 4000000 in
theorem k_X11_end (l : Launch) (g : GG) (h0 : Nat) (rd0 : Nat) (d0 : Nat) (im0 : Nat) (ig0 : Nat) (rw0 : Nat) (we0 : Nat) (mi0 : Nat) (re0 : Nat) (pl0 : Nat) (ri0 : Nat) (le0 : Nat) (ta0 : Nat) (df0 : Nat) (by0 : Nat) (yfault : Int32) (yplace : Int32) (yvalue : Int32) (tsize : Int32) (tkind : Int32) (tstart : Int32) (tstop : Int32) (tnumber : Int32) (tbytes : Nat → Int32) (p1 : Int32) (i_tsize : 0 ≤ tsize.toInt ∧ tsize.toInt ≤ 900) (i_tstart : 0 ≤ tstart.toInt ∧ tstart.toInt ≤ 900) (i_tstop : 0 ≤ tstop.toInt ∧ tstop.toInt ≤ 900) : Ct l g yX11_end cX11_end 2 (some .int) { frames := 0, cells := 0, slots := 0, locals := 0 } [.ref h0, .int p1] [(h0, .inr (11, [.ref rd0, .ref d0, .ref im0, .ref ig0, .ref rw0, .ref we0, .ref mi0, .ref re0, .ref pl0, .ref ri0, .ref le0])), (rd0, .inr (1, [.ref ta0, .ref df0, .int yfault, .int yplace, .int yvalue])), (ta0, .inr (9, [.ref by0, .int tsize, .int tkind, .int tstart, .int tstop, .int tnumber])), (by0, .inl (g.2 1, 900, .inl tbytes))] (S := (Nat → Int32) × (Nat → Nat → Int32) × (Nat → Nat → Int64)) (fun u => some (.int (u.1 0))) (fun u => (0 ≤ (u.1 1).toInt ∧ (u.1 1).toInt ≤ 900)) (fun u => [(h0, .inr (11, [.ref rd0, .ref d0, .ref im0, .ref ig0, .ref rw0, .ref we0, .ref mi0, .ref re0, .ref pl0, .ref ri0, .ref le0])), (rd0, .inr (1, [.ref ta0, .ref df0, .int yfault, .int yplace, .int yvalue])), (ta0, .inr (9, [.ref by0, .int (u.1 1), .int tkind, .int tstart, .int tstop, .int tnumber])), (by0, .inl (g.2 1, 900, .inl tbytes))]) := by
  refine Ct.of (by decide) (Nat.le_of_ble_eq_true rfl) ?_
  intro p e s m below meth c A ls FX hP hD hS hl
  obtain ⟨FC, hr, hlk, hKn, hA, hnm, hZ⟩ := id FX
  have FC : CallFix p m c cX11_end 2 s _ BIG RX11 := FC
  obtain ⟨hx, hb, hml, hown, hB⟩ := id FC
  have hl : lv_has ls 2 [(0, .ref h0), (1, .int p1)] := hl
  refine lv_iload_n hx hb dX11_end_0 rfl (lv_at hl 1 rfl) ?_
  refine lv_if_lt (tgt := 18) hx hb dX11_end_1 (by decide) (fun c1 => ?_) (fun c1 => ?_)
  · have c1 := k_lt (a := p1.toInt) (b := 0) rfl (by decide) c1
    refine lv_iconst (v := -1) hx hb dX11_end_18 (by decide) ?_
    exact rt_i FX ((fun k => match k with | 0 => (-1 : Int32) | 1 => tsize | _ => 0), (fun _ => fun _ => 0), (fun _ => fun _ => 0)) rfl (show 0 ≤ tsize.toInt ∧ tsize.toInt ≤ 900 by omega) (hP.sub [0, 1, 2, 3] rfl) (hD.sub [0, 1, 2, 3] (by decide) rfl) hS (Nat.le_of_ble_eq_true rfl) (Nat.le_of_ble_eq_true rfl) dX11_end_19
  · have c1 := k_nlt (a := p1.toInt) (b := 0) rfl (by decide) c1
    refine lv_iload_n hx hb dX11_end_4 rfl (lv_at hl 1 rfl) ?_
    refine lv_aload_n hx hb dX11_end_5 rfl (lv_at hl 0 rfl) ?_
    refine g_get (C := RX11) (T := TX11) (N := 11) (ci := 11) (v := .ref rd0) FC hKn hP i_X11 0 rfl rfl 0 (by decide) b_548 rfl dX11_end_6 ?_
    refine g_getN (C := RX1) (T := TX1) (N := 5) (ci := 1) (v := .ref ta0) FC hKn hP i_X1 1 rfl rfl 0 (by decide) b_549 rfl dX11_end_9 ?_
    refine g_getN (C := RX9) (T := TX9) (N := 6) (ci := 9) (v := .int tsize) FC hKn hP i_X9 2 rfl rfl 1 (by decide) b_550 rfl dX11_end_12 ?_
    refine lv_icmp_le (tgt := 20) hx hb dX11_end_15 (by decide) (fun c2 => ?_) (fun c2 => ?_)
    · have c2 := k_le (a := p1.toInt) (b := tsize.toInt) rfl rfl c2
      refine lv_aload_n hx hb dX11_end_20 rfl (lv_at hl 0 rfl) ?_
      refine g_get (C := RX11) (T := TX11) (N := 11) (ci := 11) (v := .ref rd0) FC hKn hP i_X11 0 rfl rfl 0 (by decide) b_548 rfl dX11_end_21 ?_
      refine g_getN (C := RX1) (T := TX1) (N := 5) (ci := 1) (v := .ref ta0) FC hKn hP i_X1 1 rfl rfl 0 (by decide) b_549 rfl dX11_end_24 ?_
      refine lv_iload_n hx hb dX11_end_27 rfl (lv_at hl 1 rfl) ?_
      refine g_putN (C := RX9) (T := TX9) (N := 6) (ci := 9) (v := .int p1) FC hKn hP hD hS i_X9 tyX9 tyX9_ok nmX9 2 rfl rfl 1 (by decide) b_550 rfl rfl rfl (Nat.le_of_ble_eq_true rfl) dX11_end_28 (fun H locs hP hD hS => ?_)
      have hP : va_P g.1 vwCl [(h0, .inr (11, [.ref rd0, .ref d0, .ref im0, .ref ig0, .ref rw0, .ref we0, .ref mi0, .ref re0, .ref pl0, .ref ri0, .ref le0])), (rd0, .inr (1, [.ref ta0, .ref df0, .int yfault, .int yplace, .int yvalue])), (ta0, .inr (9, [.ref by0, .int p1, .int tkind, .int tstart, .int tstop, .int tnumber])), (by0, .inl (g.2 1, 900, .inl tbytes))] H := hP
      have hD : va_D A [(h0, .inr (11, [.ref rd0, .ref d0, .ref im0, .ref ig0, .ref rw0, .ref we0, .ref mi0, .ref re0, .ref pl0, .ref ri0, .ref le0])), (rd0, .inr (1, [.ref ta0, .ref df0, .int yfault, .int yplace, .int yvalue])), (ta0, .inr (9, [.ref by0, .int p1, .int tkind, .int tstart, .int tstop, .int tnumber])), (by0, .inl (g.2 1, 900, .inl tbytes))] := hD
      refine lv_iload_n hx hb dX11_end_31 rfl (lv_at hl 1 rfl) ?_
      exact rt_i FX ((fun k => match k with | 0 => p1 | 1 => p1 | _ => 0), (fun _ => fun _ => 0), (fun _ => fun _ => 0)) rfl (show 0 ≤ p1.toInt ∧ p1.toInt ≤ 900 by omega) (hP.sub [0, 1, 2, 3] rfl) (hD.sub [0, 1, 2, 3] (by decide) rfl) hS (Nat.le_of_ble_eq_true rfl) (Nat.le_of_ble_eq_true rfl) dX11_end_32
    · have c2 := k_nle (a := p1.toInt) (b := tsize.toInt) rfl rfl c2
      refine lv_iconst (v := -1) hx hb dX11_end_18 (by decide) ?_
      exact rt_i FX ((fun k => match k with | 0 => (-1 : Int32) | 1 => tsize | _ => 0), (fun _ => fun _ => 0), (fun _ => fun _ => 0)) rfl (show 0 ≤ tsize.toInt ∧ tsize.toInt ≤ 900 by omega) (hP.sub [0, 1, 2, 3] rfl) (hD.sub [0, 1, 2, 3] (by decide) rfl) hS (Nat.le_of_ble_eq_true rfl) (Nat.le_of_ble_eq_true rfl) dX11_end_19
set_option maxRecDepth 100000 in
set_option maxHeartbeats 4000000 in
theorem k_X11_fault (l : Launch) (g : GG) (h0 : Nat) (rd0 : Nat) (d0 : Nat) (im0 : Nat) (ig0 : Nat) (rw0 : Nat) (we0 : Nat) (mi0 : Nat) (re0 : Nat) (pl0 : Nat) (ri0 : Nat) (le0 : Nat) (ta0 : Nat) (df0 : Nat) (by0 : Nat) (yfault : Int32) (yplace : Int32) (yvalue : Int32) (tsize : Int32) (tkind : Int32) (tstart : Int32) (tstop : Int32) (tnumber : Int32) (tbytes : Nat → Int32) (p1 : Int32) (i_tsize : 0 ≤ tsize.toInt ∧ tsize.toInt ≤ 900) (i_tstart : 0 ≤ tstart.toInt ∧ tstart.toInt ≤ 900) (i_tstop : 0 ≤ tstop.toInt ∧ tstop.toInt ≤ 900) : Ct l g yX11_fault cX11_fault 2 (some .int) { frames := 0, cells := 0, slots := 0, locals := 0 } [.ref h0, .int p1] [(h0, .inr (11, [.ref rd0, .ref d0, .ref im0, .ref ig0, .ref rw0, .ref we0, .ref mi0, .ref re0, .ref pl0, .ref ri0, .ref le0])), (rd0, .inr (1, [.ref ta0, .ref df0, .int yfault, .int yplace, .int yvalue])), (ta0, .inr (9, [.ref by0, .int tsize, .int tkind, .int tstart, .int tstop, .int tnumber])), (by0, .inl (g.2 1, 900, .inl tbytes))] (S := (Nat → Int32) × (Nat → Nat → Int32) × (Nat → Nat → Int64)) (fun u => some (.int (u.1 0))) (fun u => True) (fun u => [(h0, .inr (11, [.ref rd0, .ref d0, .ref im0, .ref ig0, .ref rw0, .ref we0, .ref mi0, .ref re0, .ref pl0, .ref ri0, .ref le0])), (rd0, .inr (1, [.ref ta0, .ref df0, .int yfault, .int yplace, .int yvalue])), (ta0, .inr (9, [.ref by0, .int tsize, .int tkind, .int tstart, .int tstop, .int tnumber])), (by0, .inl (g.2 1, 900, .inl tbytes))]) := by
  refine Ct.of (by decide) (Nat.le_of_ble_eq_true rfl) ?_
  intro p e s m below meth c A ls FX hP hD hS hl
  obtain ⟨FC, hr, hlk, hKn, hA, hnm, hZ⟩ := id FX
  have FC : CallFix p m c cX11_fault 2 s _ BIG RX11 := FC
  obtain ⟨hx, hb, hml, hown, hB⟩ := id FC
  have hl : lv_has ls 2 [(0, .ref h0), (1, .int p1)] := hl
  refine lv_iload_n hx hb dX11_fault_0 rfl (lv_at hl 1 rfl) ?_
  refine lv_if_ne (tgt := 12) hx hb dX11_fault_1 (by decide) (fun c1 => ?_) (fun c1 => ?_)
  · have c1 := k_ne (a := p1.toInt) (b := 0) rfl (by decide) c1
    refine lv_iload_n hx hb dX11_fault_12 rfl (lv_at hl 1 rfl) ?_
    refine lv_iconst (v := 1) hx hb dX11_fault_13 (by decide) ?_
    refine lv_icmp_ne (tgt := 27) hx hb dX11_fault_14 (by decide) (fun c2 => ?_) (fun c2 => ?_)
    · have c2 := k_ne (a := p1.toInt) (b := 1) rfl (by decide) c2
      refine lv_iconst (v := -1) hx hb dX11_fault_27 (by decide) ?_
      exact rt_i FX ((fun k => match k with | 0 => (-1 : Int32) | _ => 0), (fun _ => fun _ => 0), (fun _ => fun _ => 0)) rfl trivial (hP.sub [0, 1, 2, 3] rfl) (hD.sub [0, 1, 2, 3] (by decide) rfl) hS (Nat.le_of_ble_eq_true rfl) (Nat.le_of_ble_eq_true rfl) dX11_fault_28
    · have c2 := k_eq (a := p1.toInt) (b := 1) rfl (by decide) c2
      refine lv_aload_n hx hb dX11_fault_17 rfl (lv_at hl 0 rfl) ?_
      refine g_get (C := RX11) (T := TX11) (N := 11) (ci := 11) (v := .ref rd0) FC hKn hP i_X11 0 rfl rfl 0 (by decide) b_548 rfl dX11_fault_18 ?_
      refine g_getN (C := RX1) (T := TX1) (N := 5) (ci := 1) (v := .int yplace) FC hKn hP i_X1 1 rfl rfl 3 (by decide) b_552 rfl dX11_fault_21 ?_
      refine lv_goto (tgt := 28) hx hb dX11_fault_24 (by decide) ?_
      exact rt_i FX ((fun k => match k with | 0 => yplace | _ => 0), (fun _ => fun _ => 0), (fun _ => fun _ => 0)) rfl trivial (hP.sub [0, 1, 2, 3] rfl) (hD.sub [0, 1, 2, 3] (by decide) rfl) hS (Nat.le_of_ble_eq_true rfl) (Nat.le_of_ble_eq_true rfl) dX11_fault_28
  · have c1 := k_eq (a := p1.toInt) (b := 0) rfl (by decide) c1
    refine lv_aload_n hx hb dX11_fault_4 rfl (lv_at hl 0 rfl) ?_
    refine g_get (C := RX11) (T := TX11) (N := 11) (ci := 11) (v := .ref rd0) FC hKn hP i_X11 0 rfl rfl 0 (by decide) b_548 rfl dX11_fault_5 ?_
    refine g_getN (C := RX1) (T := TX1) (N := 5) (ci := 1) (v := .int yfault) FC hKn hP i_X1 1 rfl rfl 2 (by decide) b_553 rfl dX11_fault_8 ?_
    exact rt_i FX ((fun k => match k with | 0 => yfault | _ => 0), (fun _ => fun _ => 0), (fun _ => fun _ => 0)) rfl trivial (hP.sub [0, 1, 2, 3] rfl) (hD.sub [0, 1, 2, 3] (by decide) rfl) hS (Nat.le_of_ble_eq_true rfl) (Nat.le_of_ble_eq_true rfl) dX11_fault_11
set_option maxRecDepth 100000 in
set_option maxHeartbeats 4000000 in
theorem k_fillJ_60 (l : Launch) (g : GG) (h0 : Nat) (ff : Nat → Int64) (p1 : Int64) : Ct l g yJ7_fill_d0a16 cJ7_fill_d0a16 5 none { frames := 0, cells := 0, slots := 0, locals := 0 } [.ref h0, .long p1] [(h0, .inl (g.2 3, 60, .inr (.inl ff)))] (S := (Nat → Int32) × (Nat → Nat → Int32) × (Nat → Nat → Int64)) (fun _ => none) (fun u => True) (fun u => [(h0, .inl (g.2 3, 60, .inr (.inl (u.2.2 0))))]) := by
  refine Ct.of (by decide) (Nat.le_of_ble_eq_true rfl) ?_
  intro p e s m below meth c A ls FX hP hD hS hl
  obtain ⟨FC, hr, hlk, hKn, hA, hnm, hZ⟩ := id FX
  have FC : CallFix p m c cJ7_fill_d0a16 5 s _ BIG RJ7 := FC
  obtain ⟨hx, hb, hml, hown, hB⟩ := id FC
  have hl : lv_has ls 5 [(0, .ref h0), (1, .long p1)] := hl
  refine lv_iconst (v := 0) hx hb dJ7_fill_d0a16_0 (by decide) ?_
  refine lv_istore_n (lv' := [(3, .int 0), (0, .ref h0), (1, .long p1)]) hx hb dJ7_fill_d0a16_1 rfl hl (by decide) rfl (fun ls hl => ?_)
  refine lv_aload_n hx hb dJ7_fill_d0a16_2 rfl (lv_at hl 1 rfl) ?_
  refine va_alen hx hb hKn.1 hP 0 3 rfl rfl (v := 60) rfl dJ7_fill_d0a16_3 ?_
  refine lv_istore (lv' := [(4, .int 60), (3, .int 0), (0, .ref h0), (1, .long p1)]) hx hb dJ7_fill_d0a16_4 hl (by decide) rfl (fun ls hl => ?_)
  have lp38 : ∀ (n40 : Nat) (x36 : Int32) (x37 : Nat → Int64) (H : Heap) (locs : List Loc) (ls : Array Slot), 0 ≤ x36.toInt ∧ x36.toInt ≤ 60 → (60 - x36.toInt).toNat < n40 → va_P g.1 vwCl [(h0, .inl (g.2 3, 60, .inr (.inl x37)))] H → va_D A [(h0, .inl (g.2 3, 60, .inr (.inl x37)))] → va_S A s.heap H locs → lv_has ls 5 [(4, .int 60), (3, .int x36), (0, .ref h0), (1, .long p1)] → W p l e { frames := 0, cells := 0, slots := 0, locals := 0 } s m ([.ref h0, .long p1].toArray) below meth c H locs 0 0 (MQ below (QX (S := (Nat → Int32) × (Nat → Nat → Int32) × (Nat → Nat → Int64)) (fun _ => none) (fun u => True) g (fun u => [(h0, .inl (g.2 3, 60, .inr (.inl (u.2.2 0))))]) A) ([.ref h0, .long p1].toArray) s 0 0 A) (F0 m 6 ls []) := by
    intro n40
    induction n40 with
    | zero =>
      intro x36 x37 H locs ls h_x36 hn41
      exact absurd hn41 (Nat.not_lt_zero _)
    | succ n40 ih39 =>
      intro x36 x37 H locs ls h_x36 hn41 hP hD hS hl
      refine lv_iload_n hx hb dJ7_fill_d0a16_6 rfl (lv_at hl 1 rfl) ?_
      refine lv_iload hx hb dJ7_fill_d0a16_7 (lv_at hl 0 rfl) ?_
      refine lv_icmp_ge (tgt := 22) hx hb dJ7_fill_d0a16_9 (by decide) (fun c42 => ?_) (fun c42 => ?_)
      · have c42 := k_le (a := 60) (b := x36.toInt) (by decide) rfl c42
        exact rt_v FX ((fun k => match k with | 0 => 0 | _ => 0), (fun _ => fun _ => 0), (fun k => match k with | 0 => x37 | _ => fun _ => 0)) rfl trivial (hP.sub [0] rfl) (hD.sub [0] (by decide) rfl) hS (Nat.le_of_ble_eq_true rfl) (Nat.le_of_ble_eq_true rfl) dJ7_fill_d0a16_22
      · have c42 := k_nle (a := 60) (b := x36.toInt) (by decide) rfl c42
        refine lv_aload_n hx hb dJ7_fill_d0a16_12 rfl (lv_at hl 2 rfl) ?_
        refine lv_iload_n hx hb dJ7_fill_d0a16_13 rfl (lv_at hl 1 rfl) ?_
        refine lv_lload_n hx hb dJ7_fill_d0a16_14 rfl (lv_at hl 3 rfl) ?_
        refine va_last hx hb hKn.1 hP hD hS 0 3 rfl rfl (vp_in_iff.mpr ⟨by omega, by omega⟩) dJ7_fill_d0a16_15 (fun H locs hP hD hS => ?_)
        have hP : va_P g.1 vwCl [(h0, .inl (g.2 3, 60, .inr (.inl (vp_updL x37 (x36.toNatClampNeg) p1))))] H := hP
        have hD : va_D A [(h0, .inl (g.2 3, 60, .inr (.inl (vp_updL x37 (x36.toNatClampNeg) p1))))] := hD
        generalize (vp_updL x37 (x36.toNatClampNeg) p1 : Nat → Int64) = f43 at hP hD
        obtain ⟨z44, e_z44⟩ : ∃ y : Int32, y = x36 + 1 := ⟨_, rfl⟩
        have t_z44 : z44.toInt = x36.toInt + 1 := by rw [e_z44]; exact addk (by decide) (by omega) (by omega)
        refine lv_iinc (v := z44) (lv' := [(3, .int z44), (4, .int 60), (0, .ref h0), (1, .long p1)]) hx hb dJ7_fill_d0a16_16 hl (k := 1) rfl (by rw [e_z44]; rfl) (by decide) rfl (fun ls hl => ?_)
        refine lv_goto (tgt := 6) hx hb dJ7_fill_d0a16_19 (by decide) ?_
        exact ih39 z44 f43 _ _ ls (by omega) (by omega) hP hD hS (lv_sub hl [1, 0, 2, 3] rfl)
  have kc0 : (0 : Int32).toInt = 0 := by decide
  exact lp38 _ (0 : Int32) ff _ _ ls (by decide) (Nat.lt_succ_self _) hP hD hS (lv_sub hl [0, 1, 2, 3] rfl)
set_option maxRecDepth 100000 in
set_option maxHeartbeats 4000000 in
theorem k_X8_begin (l : Launch) (g : GG) (h0 : Nat) (or0 : Nat) (othere : Int32) (owidth : Int32) (osize : Int32) (onumbers : Nat → Int64) (p1 : Int32) (p2 : Int32) (i_othere : 0 ≤ othere.toInt ∧ othere.toInt ≤ 1) (i_owidth : 0 ≤ owidth.toInt ∧ owidth.toInt ≤ 3) (i_osize : 0 ≤ osize.toInt ∧ osize.toInt ≤ 60) (i_p1 : 0 ≤ p1.toInt ∧ p1.toInt ≤ 3) (i_p2 : 0 ≤ p2.toInt ∧ p2.toInt ≤ 60) : Ct l g yX8_begin cX8_begin 3 none { frames := 1, cells := 0, slots := 0, locals := 24 } [.ref h0, .int p1, .int p2] [(h0, .inr (8, [.ref or0, .int othere, .int owidth, .int osize])), (or0, .inl (g.2 3, 60, .inr (.inl onumbers)))] (S := (Nat → Int32) × (Nat → Nat → Int32) × (Nat → Nat → Int64)) (fun _ => none) (fun u => (0 ≤ (u.1 1).toInt ∧ (u.1 1).toInt ≤ 1) ∧ (0 ≤ (u.1 2).toInt ∧ (u.1 2).toInt ≤ 3) ∧ (0 ≤ (u.1 3).toInt ∧ (u.1 3).toInt ≤ 60)) (fun u => [(h0, .inr (8, [.ref or0, .int (u.1 1), .int (u.1 2), .int (u.1 3)])), (or0, .inl (g.2 3, 60, .inr (.inl (u.2.2 0))))]) := by
  refine Ct.of (by decide) (Nat.le_of_ble_eq_true rfl) ?_
  intro p e s m below meth c A ls FX hP hD hS hl
  obtain ⟨FC, hr, hlk, hKn, hA, hnm, hZ⟩ := id FX
  have FC : CallFix p m c cX8_begin 3 s _ BIG RX8 := FC
  obtain ⟨hx, hb, hml, hown, hB⟩ := id FC
  have hl : lv_has ls 3 [(0, .ref h0), (1, .int p1), (2, .int p2)] := hl
  refine lv_aload_n hx hb dX8_begin_0 rfl (lv_at hl 0 rfl) ?_
  refine lv_iconst (v := 1) hx hb dX8_begin_1 (by decide) ?_
  refine g_put (C := RX8) (T := TX8) (N := 4) (ci := 8) (v := .int 1) FC hKn hP hD hS i_X8 tyX8 tyX8_ok nmX8 0 rfl rfl 1 (by decide) b_554 rfl rfl rfl (Nat.le_of_ble_eq_true rfl) dX8_begin_2 (fun H locs hP hD hS => ?_)
  have hP : va_P g.1 vwCl [(h0, .inr (8, [.ref or0, .int 1, .int owidth, .int osize])), (or0, .inl (g.2 3, 60, .inr (.inl onumbers)))] H := hP
  have hD : va_D A [(h0, .inr (8, [.ref or0, .int 1, .int owidth, .int osize])), (or0, .inl (g.2 3, 60, .inr (.inl onumbers)))] := hD
  refine lv_aload_n hx hb dX8_begin_5 rfl (lv_at hl 0 rfl) ?_
  refine lv_iload_n hx hb dX8_begin_6 rfl (lv_at hl 1 rfl) ?_
  refine g_put (C := RX8) (T := TX8) (N := 4) (ci := 8) (v := .int p1) FC hKn hP hD hS i_X8 tyX8 tyX8_ok nmX8 0 rfl rfl 2 (by decide) b_555 rfl rfl rfl (Nat.le_of_ble_eq_true rfl) dX8_begin_7 (fun H locs hP hD hS => ?_)
  have hP : va_P g.1 vwCl [(h0, .inr (8, [.ref or0, .int 1, .int p1, .int osize])), (or0, .inl (g.2 3, 60, .inr (.inl onumbers)))] H := hP
  have hD : va_D A [(h0, .inr (8, [.ref or0, .int 1, .int p1, .int osize])), (or0, .inl (g.2 3, 60, .inr (.inl onumbers)))] := hD
  refine lv_aload_n hx hb dX8_begin_10 rfl (lv_at hl 0 rfl) ?_
  refine lv_iload_n hx hb dX8_begin_11 rfl (lv_at hl 2 rfl) ?_
  refine g_put (C := RX8) (T := TX8) (N := 4) (ci := 8) (v := .int p2) FC hKn hP hD hS i_X8 tyX8 tyX8_ok nmX8 0 rfl rfl 3 (by decide) b_556 rfl rfl rfl (Nat.le_of_ble_eq_true rfl) dX8_begin_12 (fun H locs hP hD hS => ?_)
  have hP : va_P g.1 vwCl [(h0, .inr (8, [.ref or0, .int 1, .int p1, .int p2])), (or0, .inl (g.2 3, 60, .inr (.inl onumbers)))] H := hP
  have hD : va_D A [(h0, .inr (8, [.ref or0, .int 1, .int p1, .int p2])), (or0, .inl (g.2 3, 60, .inr (.inl onumbers)))] := hD
  refine lv_aload_n hx hb dX8_begin_15 rfl (lv_at hl 0 rfl) ?_
  refine g_get (C := RX8) (T := TX8) (N := 4) (ci := 8) (v := .ref or0) FC hKn hP i_X8 0 rfl rfl 0 (by decide) b_557 rfl dX8_begin_16 ?_
  refine lv_lconst (v := 0) hx hb dX8_begin_19 (by decide) ?_
  have kcl0 : (0 : Int64).toInt = 0 := by decide
  refine call_S (As := [.ref or0, .long 0]) (rest := []) (wr := [(h0, .inr (8, [.ref or0, .int 1, .int p1, .int p2]))]) FC hKn hZ (k_fillJ_60 l g or0 onumbers ((0 : Int64))) m_yJ7_fill_d0a16 b_558 hP hD hS hA [1] [0] rfl (by decide) rfl (by decide) (by decide) rfl hl.1 rfl (Nat.le_of_ble_eq_true rfl) dX8_begin_20 ⟨(Nat.le_of_ble_eq_true rfl), (Nat.le_of_ble_eq_true rfl)⟩ ⟨(Nat.le_of_ble_eq_true rfl), (Nat.le_of_ble_eq_true rfl)⟩ (fun u1 H locs q2 hP hD hS => ?_)
  have hP : va_P g.1 vwCl [(h0, .inr (8, [.ref or0, .int 1, .int p1, .int p2])), (or0, .inl (g.2 3, 60, .inr (.inl (u1.2.2 0))))] H := hP
  have hD : va_D A [(h0, .inr (8, [.ref or0, .int 1, .int p1, .int p2])), (or0, .inl (g.2 3, 60, .inr (.inl (u1.2.2 0))))] := hD
  refine W.eq (g2 := F0 m 23 ls []) rfl ?_
  exact rt_v FX ((fun k => match k with | 0 => 0 | 1 => (1 : Int32) | 2 => p1 | 3 => p2 | _ => 0), (fun _ => fun _ => 0), (fun k => match k with | 0 => u1.2.2 0 | _ => fun _ => 0)) rfl ⟨(show 0 ≤ ((1 : Int32)).toInt ∧ ((1 : Int32)).toInt ≤ 1 by decide), (show 0 ≤ p1.toInt ∧ p1.toInt ≤ 3 by omega), (show 0 ≤ p2.toInt ∧ p2.toInt ≤ 60 by omega)⟩ (hP.sub [0, 1] rfl) (hD.sub [0, 1] (by decide) rfl) hS (Nat.le_of_ble_eq_true rfl) (Nat.le_of_ble_eq_true rfl) dX8_begin_23
set_option maxRecDepth 100000 in
set_option maxHeartbeats 4000000 in
theorem k_X11_row (l : Launch) (g : GG) (h0 : Nat) (rd0 : Nat) (d0 : Nat) (im0 : Nat) (ig0 : Nat) (rw0 : Nat) (we0 : Nat) (mi0 : Nat) (re0 : Nat) (pl0 : Nat) (ri0 : Nat) (le0 : Nat) (oa0 : Nat) (ob0 : Nat) (oc0 : Nat) (od0 : Nat) (oar0 : Nat) (obr0 : Nat) (ocr0 : Nat) (odr0 : Nat) (oathere : Int32) (oawidth : Int32) (oasize : Int32) (oanumbers : Nat → Int64) (obthere : Int32) (obwidth : Int32) (obsize : Int32) (obnumbers : Nat → Int64) (octhere : Int32) (ocwidth : Int32) (ocsize : Int32) (ocnumbers : Nat → Int64) (odthere : Int32) (odwidth : Int32) (odsize : Int32) (odnumbers : Nat → Int64) (p1 : Int32) (p2 : Int32) (p3 : Int32) (i_oathere : 0 ≤ oathere.toInt ∧ oathere.toInt ≤ 1) (i_oawidth : 0 ≤ oawidth.toInt ∧ oawidth.toInt ≤ 3) (i_oasize : 0 ≤ oasize.toInt ∧ oasize.toInt ≤ 60) (i_obthere : 0 ≤ obthere.toInt ∧ obthere.toInt ≤ 1) (i_obwidth : 0 ≤ obwidth.toInt ∧ obwidth.toInt ≤ 3) (i_obsize : 0 ≤ obsize.toInt ∧ obsize.toInt ≤ 60) (i_octhere : 0 ≤ octhere.toInt ∧ octhere.toInt ≤ 1) (i_ocwidth : 0 ≤ ocwidth.toInt ∧ ocwidth.toInt ≤ 3) (i_ocsize : 0 ≤ ocsize.toInt ∧ ocsize.toInt ≤ 60) (i_odthere : 0 ≤ odthere.toInt ∧ odthere.toInt ≤ 1) (i_odwidth : 0 ≤ odwidth.toInt ∧ odwidth.toInt ≤ 3) (i_odsize : 0 ≤ odsize.toInt ∧ odsize.toInt ≤ 60) : Ct l g yX11_row cX11_row 5 (some .int) { frames := 2, cells := 0, slots := 0, locals := 46 } [.ref h0, .int p1, .int p2, .int p3] [(h0, .inr (11, [.ref rd0, .ref d0, .ref im0, .ref ig0, .ref rw0, .ref we0, .ref mi0, .ref re0, .ref pl0, .ref ri0, .ref le0])), (rw0, .inl (g.2 5, 4, .inr (.inr (.inr (.inr (va_up (va_up (va_up (va_up (fun _ => none) 0 (some oa0)) 1 (some ob0)) 2 (some oc0)) 3 (some od0))))))), (oa0, .inr (8, [.ref oar0, .int oathere, .int oawidth, .int oasize])), (oar0, .inl (g.2 3, 60, .inr (.inl oanumbers))), (ob0, .inr (8, [.ref obr0, .int obthere, .int obwidth, .int obsize])), (obr0, .inl (g.2 3, 60, .inr (.inl obnumbers))), (oc0, .inr (8, [.ref ocr0, .int octhere, .int ocwidth, .int ocsize])), (ocr0, .inl (g.2 3, 60, .inr (.inl ocnumbers))), (od0, .inr (8, [.ref odr0, .int odthere, .int odwidth, .int odsize])), (odr0, .inl (g.2 3, 60, .inr (.inl odnumbers)))] (S := (Nat → Int32) × (Nat → Nat → Int32) × (Nat → Nat → Int64)) (fun u => some (.int (u.1 0))) (fun u => (0 ≤ (u.1 1).toInt ∧ (u.1 1).toInt ≤ 1) ∧ (0 ≤ (u.1 2).toInt ∧ (u.1 2).toInt ≤ 3) ∧ (0 ≤ (u.1 3).toInt ∧ (u.1 3).toInt ≤ 60) ∧ (0 ≤ (u.1 4).toInt ∧ (u.1 4).toInt ≤ 1) ∧ (0 ≤ (u.1 5).toInt ∧ (u.1 5).toInt ≤ 3) ∧ (0 ≤ (u.1 6).toInt ∧ (u.1 6).toInt ≤ 60) ∧ (0 ≤ (u.1 7).toInt ∧ (u.1 7).toInt ≤ 1) ∧ (0 ≤ (u.1 8).toInt ∧ (u.1 8).toInt ≤ 3) ∧ (0 ≤ (u.1 9).toInt ∧ (u.1 9).toInt ≤ 60) ∧ (0 ≤ (u.1 10).toInt ∧ (u.1 10).toInt ≤ 1) ∧ (0 ≤ (u.1 11).toInt ∧ (u.1 11).toInt ≤ 3) ∧ (0 ≤ (u.1 12).toInt ∧ (u.1 12).toInt ≤ 60)) (fun u => [(h0, .inr (11, [.ref rd0, .ref d0, .ref im0, .ref ig0, .ref rw0, .ref we0, .ref mi0, .ref re0, .ref pl0, .ref ri0, .ref le0])), (rw0, .inl (g.2 5, 4, .inr (.inr (.inr (.inr (va_up (va_up (va_up (va_up (fun _ => none) 0 (some oa0)) 1 (some ob0)) 2 (some oc0)) 3 (some od0))))))), (oa0, .inr (8, [.ref oar0, .int (u.1 1), .int (u.1 2), .int (u.1 3)])), (oar0, .inl (g.2 3, 60, .inr (.inl (u.2.2 0)))), (ob0, .inr (8, [.ref obr0, .int (u.1 4), .int (u.1 5), .int (u.1 6)])), (obr0, .inl (g.2 3, 60, .inr (.inl (u.2.2 1)))), (oc0, .inr (8, [.ref ocr0, .int (u.1 7), .int (u.1 8), .int (u.1 9)])), (ocr0, .inl (g.2 3, 60, .inr (.inl (u.2.2 2)))), (od0, .inr (8, [.ref odr0, .int (u.1 10), .int (u.1 11), .int (u.1 12)])), (odr0, .inl (g.2 3, 60, .inr (.inl (u.2.2 3))))]) := by
  refine Ct.of (by decide) (Nat.le_of_ble_eq_true rfl) ?_
  intro p e s m below meth c A ls FX hP hD hS hl
  obtain ⟨FC, hr, hlk, hKn, hA, hnm, hZ⟩ := id FX
  have FC : CallFix p m c cX11_row 5 s _ BIG RX11 := FC
  obtain ⟨hx, hb, hml, hown, hB⟩ := id FC
  have hl : lv_has ls 5 [(0, .ref h0), (1, .int p1), (2, .int p2), (3, .int p3)] := hl
  refine lv_iload_n hx hb dX11_row_0 rfl (lv_at hl 1 rfl) ?_
  refine call_S (As := [.int p1]) (rest := []) (wr := [(h0, .inr (11, [.ref rd0, .ref d0, .ref im0, .ref ig0, .ref rw0, .ref we0, .ref mi0, .ref re0, .ref pl0, .ref ri0, .ref le0])), (rw0, .inl (g.2 5, 4, .inr (.inr (.inr (.inr (va_up (va_up (va_up (va_up (fun _ => none) 0 (some oa0)) 1 (some ob0)) 2 (some oc0)) 3 (some od0))))))), (oa0, .inr (8, [.ref oar0, .int oathere, .int oawidth, .int oasize])), (oar0, .inl (g.2 3, 60, .inr (.inl oanumbers))), (ob0, .inr (8, [.ref obr0, .int obthere, .int obwidth, .int obsize])), (obr0, .inl (g.2 3, 60, .inr (.inl obnumbers))), (oc0, .inr (8, [.ref ocr0, .int octhere, .int ocwidth, .int ocsize])), (ocr0, .inl (g.2 3, 60, .inr (.inl ocnumbers))), (od0, .inr (8, [.ref odr0, .int odthere, .int odwidth, .int odsize])), (odr0, .inl (g.2 3, 60, .inr (.inl odnumbers)))]) FC hKn hZ (k_X11_isSlot l g p1) m_yX11_isSlot b_307 hP hD hS hA [] [0, 1, 2, 3, 4, 5, 6, 7, 8, 9] rfl (by decide) rfl (by decide) (by decide) rfl hl.1 rfl (Nat.le_of_ble_eq_true rfl) dX11_row_1 ⟨(Nat.le_of_ble_eq_true rfl), (Nat.le_of_ble_eq_true rfl)⟩ ⟨(Nat.le_of_ble_eq_true rfl), (Nat.le_of_ble_eq_true rfl)⟩ (fun u1 H locs q2 hP hD hS => ?_)
  obtain ⟨q2_0, q2_1, q2_2⟩ := q2
  have hP : va_P g.1 vwCl [(h0, .inr (11, [.ref rd0, .ref d0, .ref im0, .ref ig0, .ref rw0, .ref we0, .ref mi0, .ref re0, .ref pl0, .ref ri0, .ref le0])), (rw0, .inl (g.2 5, 4, .inr (.inr (.inr (.inr (va_up (va_up (va_up (va_up (fun _ => none) 0 (some oa0)) 1 (some ob0)) 2 (some oc0)) 3 (some od0))))))), (oa0, .inr (8, [.ref oar0, .int oathere, .int oawidth, .int oasize])), (oar0, .inl (g.2 3, 60, .inr (.inl oanumbers))), (ob0, .inr (8, [.ref obr0, .int obthere, .int obwidth, .int obsize])), (obr0, .inl (g.2 3, 60, .inr (.inl obnumbers))), (oc0, .inr (8, [.ref ocr0, .int octhere, .int ocwidth, .int ocsize])), (ocr0, .inl (g.2 3, 60, .inr (.inl ocnumbers))), (od0, .inr (8, [.ref odr0, .int odthere, .int odwidth, .int odsize])), (odr0, .inl (g.2 3, 60, .inr (.inl odnumbers)))] H := hP
  have hD : va_D A [(h0, .inr (11, [.ref rd0, .ref d0, .ref im0, .ref ig0, .ref rw0, .ref we0, .ref mi0, .ref re0, .ref pl0, .ref ri0, .ref le0])), (rw0, .inl (g.2 5, 4, .inr (.inr (.inr (.inr (va_up (va_up (va_up (va_up (fun _ => none) 0 (some oa0)) 1 (some ob0)) 2 (some oc0)) 3 (some od0))))))), (oa0, .inr (8, [.ref oar0, .int oathere, .int oawidth, .int oasize])), (oar0, .inl (g.2 3, 60, .inr (.inl oanumbers))), (ob0, .inr (8, [.ref obr0, .int obthere, .int obwidth, .int obsize])), (obr0, .inl (g.2 3, 60, .inr (.inl obnumbers))), (oc0, .inr (8, [.ref ocr0, .int octhere, .int ocwidth, .int ocsize])), (ocr0, .inl (g.2 3, 60, .inr (.inl ocnumbers))), (od0, .inr (8, [.ref odr0, .int odthere, .int odwidth, .int odsize])), (odr0, .inl (g.2 3, 60, .inr (.inl odnumbers)))] := hD
  refine W.eq (g2 := F0 m 4 ls [.int (u1.1 0)]) rfl ?_
  rcases (show (u1.1 0).toInt = 0 ∨ (u1.1 0).toInt = 1 by omega) with c3 | c3
  · skip
    refine lv_if_eq (tgt := 22) hx hb dX11_row_4 (by decide) (fun c4 => ?_) (fun c4 => ?_)
    · have c4 := k_eq (a := (u1.1 0).toInt) (b := 0) rfl (by decide) c4
      refine lv_bipush (v := -2) hx hb dX11_row_22 (by decide) ?_
      exact rt_i FX ((fun k => match k with | 0 => (-2 : Int32) | 1 => oathere | 2 => oawidth | 3 => oasize | 4 => obthere | 5 => obwidth | 6 => obsize | 7 => octhere | 8 => ocwidth | 9 => ocsize | 10 => odthere | 11 => odwidth | 12 => odsize | _ => 0), (fun _ => fun _ => 0), (fun k => match k with | 0 => oanumbers | 1 => obnumbers | 2 => ocnumbers | 3 => odnumbers | _ => fun _ => 0)) rfl ⟨(show 0 ≤ oathere.toInt ∧ oathere.toInt ≤ 1 by omega), (show 0 ≤ oawidth.toInt ∧ oawidth.toInt ≤ 3 by omega), (show 0 ≤ oasize.toInt ∧ oasize.toInt ≤ 60 by omega), (show 0 ≤ obthere.toInt ∧ obthere.toInt ≤ 1 by omega), (show 0 ≤ obwidth.toInt ∧ obwidth.toInt ≤ 3 by omega), (show 0 ≤ obsize.toInt ∧ obsize.toInt ≤ 60 by omega), (show 0 ≤ octhere.toInt ∧ octhere.toInt ≤ 1 by omega), (show 0 ≤ ocwidth.toInt ∧ ocwidth.toInt ≤ 3 by omega), (show 0 ≤ ocsize.toInt ∧ ocsize.toInt ≤ 60 by omega), (show 0 ≤ odthere.toInt ∧ odthere.toInt ≤ 1 by omega), (show 0 ≤ odwidth.toInt ∧ odwidth.toInt ≤ 3 by omega), (show 0 ≤ odsize.toInt ∧ odsize.toInt ≤ 60 by omega)⟩ (hP.sub [0, 1, 2, 3, 4, 5, 6, 7, 8, 9] rfl) (hD.sub [0, 1, 2, 3, 4, 5, 6, 7, 8, 9] (by decide) rfl) hS (Nat.le_of_ble_eq_true rfl) (Nat.le_of_ble_eq_true rfl) dX11_row_24
    · have c4 := k_ne (a := (u1.1 0).toInt) (b := 0) rfl (by decide) c4
      exfalso; omega
  · have c3_r := q2_2 c3
    refine lv_if_eq (tgt := 22) hx hb dX11_row_4 (by decide) (fun c5 => ?_) (fun c5 => ?_)
    · have c5 := k_eq (a := (u1.1 0).toInt) (b := 0) rfl (by decide) c5
      exfalso; omega
    · have c5 := k_ne (a := (u1.1 0).toInt) (b := 0) rfl (by decide) c5
      refine lv_iload_n hx hb dX11_row_7 rfl (lv_at hl 2 rfl) ?_
      refine lv_if_lt (tgt := 22) hx hb dX11_row_8 (by decide) (fun c6 => ?_) (fun c6 => ?_)
      · have c6 := k_lt (a := p2.toInt) (b := 0) rfl (by decide) c6
        refine lv_bipush (v := -2) hx hb dX11_row_22 (by decide) ?_
        exact rt_i FX ((fun k => match k with | 0 => (-2 : Int32) | 1 => oathere | 2 => oawidth | 3 => oasize | 4 => obthere | 5 => obwidth | 6 => obsize | 7 => octhere | 8 => ocwidth | 9 => ocsize | 10 => odthere | 11 => odwidth | 12 => odsize | _ => 0), (fun _ => fun _ => 0), (fun k => match k with | 0 => oanumbers | 1 => obnumbers | 2 => ocnumbers | 3 => odnumbers | _ => fun _ => 0)) rfl ⟨(show 0 ≤ oathere.toInt ∧ oathere.toInt ≤ 1 by omega), (show 0 ≤ oawidth.toInt ∧ oawidth.toInt ≤ 3 by omega), (show 0 ≤ oasize.toInt ∧ oasize.toInt ≤ 60 by omega), (show 0 ≤ obthere.toInt ∧ obthere.toInt ≤ 1 by omega), (show 0 ≤ obwidth.toInt ∧ obwidth.toInt ≤ 3 by omega), (show 0 ≤ obsize.toInt ∧ obsize.toInt ≤ 60 by omega), (show 0 ≤ octhere.toInt ∧ octhere.toInt ≤ 1 by omega), (show 0 ≤ ocwidth.toInt ∧ ocwidth.toInt ≤ 3 by omega), (show 0 ≤ ocsize.toInt ∧ ocsize.toInt ≤ 60 by omega), (show 0 ≤ odthere.toInt ∧ odthere.toInt ≤ 1 by omega), (show 0 ≤ odwidth.toInt ∧ odwidth.toInt ≤ 3 by omega), (show 0 ≤ odsize.toInt ∧ odsize.toInt ≤ 60 by omega)⟩ (hP.sub [0, 1, 2, 3, 4, 5, 6, 7, 8, 9] rfl) (hD.sub [0, 1, 2, 3, 4, 5, 6, 7, 8, 9] (by decide) rfl) hS (Nat.le_of_ble_eq_true rfl) (Nat.le_of_ble_eq_true rfl) dX11_row_24
      · have c6 := k_nlt (a := p2.toInt) (b := 0) rfl (by decide) c6
        refine lv_iload_n hx hb dX11_row_11 rfl (lv_at hl 2 rfl) ?_
        refine lv_iconst (v := 4) hx hb dX11_row_12 (by decide) ?_
        refine lv_icmp_ge (tgt := 22) hx hb dX11_row_13 (by decide) (fun c7 => ?_) (fun c7 => ?_)
        · have c7 := k_le (a := 4) (b := p2.toInt) (by decide) rfl c7
          refine lv_bipush (v := -2) hx hb dX11_row_22 (by decide) ?_
          exact rt_i FX ((fun k => match k with | 0 => (-2 : Int32) | 1 => oathere | 2 => oawidth | 3 => oasize | 4 => obthere | 5 => obwidth | 6 => obsize | 7 => octhere | 8 => ocwidth | 9 => ocsize | 10 => odthere | 11 => odwidth | 12 => odsize | _ => 0), (fun _ => fun _ => 0), (fun k => match k with | 0 => oanumbers | 1 => obnumbers | 2 => ocnumbers | 3 => odnumbers | _ => fun _ => 0)) rfl ⟨(show 0 ≤ oathere.toInt ∧ oathere.toInt ≤ 1 by omega), (show 0 ≤ oawidth.toInt ∧ oawidth.toInt ≤ 3 by omega), (show 0 ≤ oasize.toInt ∧ oasize.toInt ≤ 60 by omega), (show 0 ≤ obthere.toInt ∧ obthere.toInt ≤ 1 by omega), (show 0 ≤ obwidth.toInt ∧ obwidth.toInt ≤ 3 by omega), (show 0 ≤ obsize.toInt ∧ obsize.toInt ≤ 60 by omega), (show 0 ≤ octhere.toInt ∧ octhere.toInt ≤ 1 by omega), (show 0 ≤ ocwidth.toInt ∧ ocwidth.toInt ≤ 3 by omega), (show 0 ≤ ocsize.toInt ∧ ocsize.toInt ≤ 60 by omega), (show 0 ≤ odthere.toInt ∧ odthere.toInt ≤ 1 by omega), (show 0 ≤ odwidth.toInt ∧ odwidth.toInt ≤ 3 by omega), (show 0 ≤ odsize.toInt ∧ odsize.toInt ≤ 60 by omega)⟩ (hP.sub [0, 1, 2, 3, 4, 5, 6, 7, 8, 9] rfl) (hD.sub [0, 1, 2, 3, 4, 5, 6, 7, 8, 9] (by decide) rfl) hS (Nat.le_of_ble_eq_true rfl) (Nat.le_of_ble_eq_true rfl) dX11_row_24
        · have c7 := k_nle (a := 4) (b := p2.toInt) (by decide) rfl c7
          refine lv_iload_n hx hb dX11_row_16 rfl (lv_at hl 3 rfl) ?_
          refine lv_bipush (v := 60) hx hb dX11_row_17 (by decide) ?_
          refine lv_icmp_le (tgt := 25) hx hb dX11_row_19 (by decide) (fun c8 => ?_) (fun c8 => ?_)
          · have c8 := k_le (a := p3.toInt) (b := 60) rfl (by decide) c8
            refine lv_iload_n hx hb dX11_row_25 rfl (lv_at hl 3 rfl) ?_
            refine lv_if_ge (tgt := 32) hx hb dX11_row_26 (by decide) (fun c9 => ?_) (fun c9 => ?_)
            · have c9 := k_le (a := 0) (b := p3.toInt) (by decide) rfl c9
              rcases (show p1.toInt = 0 ∨ p1.toInt = 1 ∨ p1.toInt = 2 ∨ p1.toInt = 3 by omega) with hv | hv | hv | hv
              · obtain rfl : p1 = 0 := Int32.toInt_inj.mp (hv.trans (by decide))
                refine lv_aload_n hx hb dX11_row_32 rfl (lv_at hl 0 rfl) ?_
                refine g_get (C := RX11) (T := TX11) (N := 11) (ci := 11) (v := .ref rw0) FC hKn hP i_X11 0 rfl rfl 4 (by decide) b_308 rfl dX11_row_33 ?_
                refine lv_iload_n hx hb dX11_row_36 rfl (lv_at hl 1 rfl) ?_
                refine va_aldq hx hb hKn.1 hP 1 5 rfl rfl (by unfold vp_in; decide) dX11_row_37 ?_
                refine W.eq (g2 := F0 m 38 ls [.ref oa0]) rfl ?_
                refine lv_astore (lv' := [(4, .ref oa0), (0, .ref h0), (1, .int 0), (2, .int p2), (3, .int p3)]) hx hb dX11_row_38 hl (by decide) rfl (fun ls hl => ?_)
                refine lv_aload hx hb dX11_row_40 (lv_at hl 0 rfl) ?_
                refine lv_ifnonnull (tgt := 48) hx hb dX11_row_42 (by decide) ?_
                refine lv_aload hx hb dX11_row_48 (lv_at hl 0 rfl) ?_
                refine lv_iload_n hx hb dX11_row_50 rfl (lv_at hl 3 rfl) ?_
                refine lv_iload_n hx hb dX11_row_51 rfl (lv_at hl 4 rfl) ?_
                refine call_VN (As := [.int p2, .int p3]) (rest := []) (wr := [(h0, .inr (11, [.ref rd0, .ref d0, .ref im0, .ref ig0, .ref rw0, .ref we0, .ref mi0, .ref re0, .ref pl0, .ref ri0, .ref le0])), (rw0, .inl (g.2 5, 4, .inr (.inr (.inr (.inr (va_up (va_up (va_up (va_up (fun _ => none) 0 (some oa0)) 1 (some ob0)) 2 (some oc0)) 3 (some od0))))))), (ob0, .inr (8, [.ref obr0, .int obthere, .int obwidth, .int obsize])), (obr0, .inl (g.2 3, 60, .inr (.inl obnumbers))), (oc0, .inr (8, [.ref ocr0, .int octhere, .int ocwidth, .int ocsize])), (ocr0, .inl (g.2 3, 60, .inr (.inl ocnumbers))), (od0, .inr (8, [.ref odr0, .int odthere, .int odwidth, .int odsize])), (odr0, .inl (g.2 3, 60, .inr (.inl odnumbers)))]) FC hKn hZ (k_X8_begin l g oa0 oar0 oathere oawidth oasize oanumbers p2 p3 (by omega) (by omega) (by omega) (by omega) (by omega)) m_yX8_begin b_559 (ci := 8) rfl rfl rfl hP hD hS hA [2, 3] [0, 1, 4, 5, 6, 7, 8, 9] rfl (by decide) rfl (by decide) (by decide) rfl hl.1 rfl (Nat.le_of_ble_eq_true rfl) dX11_row_52 ⟨(Nat.le_of_ble_eq_true rfl), (Nat.le_of_ble_eq_true rfl)⟩ ⟨(Nat.le_of_ble_eq_true rfl), (Nat.le_of_ble_eq_true rfl)⟩ (fun u10 H locs q11 hP hD hS => ?_)
                obtain ⟨q11_0, q11_1, q11_2⟩ := q11
                have hP : va_P g.1 vwCl [(h0, .inr (11, [.ref rd0, .ref d0, .ref im0, .ref ig0, .ref rw0, .ref we0, .ref mi0, .ref re0, .ref pl0, .ref ri0, .ref le0])), (rw0, .inl (g.2 5, 4, .inr (.inr (.inr (.inr (va_up (va_up (va_up (va_up (fun _ => none) 0 (some oa0)) 1 (some ob0)) 2 (some oc0)) 3 (some od0))))))), (ob0, .inr (8, [.ref obr0, .int obthere, .int obwidth, .int obsize])), (obr0, .inl (g.2 3, 60, .inr (.inl obnumbers))), (oc0, .inr (8, [.ref ocr0, .int octhere, .int ocwidth, .int ocsize])), (ocr0, .inl (g.2 3, 60, .inr (.inl ocnumbers))), (od0, .inr (8, [.ref odr0, .int odthere, .int odwidth, .int odsize])), (odr0, .inl (g.2 3, 60, .inr (.inl odnumbers))), (oa0, .inr (8, [.ref oar0, .int (u10.1 1), .int (u10.1 2), .int (u10.1 3)])), (oar0, .inl (g.2 3, 60, .inr (.inl (u10.2.2 0))))] H := hP
                have hD : va_D A [(h0, .inr (11, [.ref rd0, .ref d0, .ref im0, .ref ig0, .ref rw0, .ref we0, .ref mi0, .ref re0, .ref pl0, .ref ri0, .ref le0])), (rw0, .inl (g.2 5, 4, .inr (.inr (.inr (.inr (va_up (va_up (va_up (va_up (fun _ => none) 0 (some oa0)) 1 (some ob0)) 2 (some oc0)) 3 (some od0))))))), (ob0, .inr (8, [.ref obr0, .int obthere, .int obwidth, .int obsize])), (obr0, .inl (g.2 3, 60, .inr (.inl obnumbers))), (oc0, .inr (8, [.ref ocr0, .int octhere, .int ocwidth, .int ocsize])), (ocr0, .inl (g.2 3, 60, .inr (.inl ocnumbers))), (od0, .inr (8, [.ref odr0, .int odthere, .int odwidth, .int odsize])), (odr0, .inl (g.2 3, 60, .inr (.inl odnumbers))), (oa0, .inr (8, [.ref oar0, .int (u10.1 1), .int (u10.1 2), .int (u10.1 3)])), (oar0, .inl (g.2 3, 60, .inr (.inl (u10.2.2 0))))] := hD
                refine W.eq (g2 := F0 m 55 ls []) rfl ?_
                refine lv_iconst (v := 0) hx hb dX11_row_55 (by decide) ?_
                exact rt_i FX ((fun k => match k with | 0 => (0 : Int32) | 1 => u10.1 1 | 2 => u10.1 2 | 3 => u10.1 3 | 4 => obthere | 5 => obwidth | 6 => obsize | 7 => octhere | 8 => ocwidth | 9 => ocsize | 10 => odthere | 11 => odwidth | 12 => odsize | _ => 0), (fun _ => fun _ => 0), (fun k => match k with | 0 => u10.2.2 0 | 1 => obnumbers | 2 => ocnumbers | 3 => odnumbers | _ => fun _ => 0)) rfl ⟨(show 0 ≤ (u10.1 1).toInt ∧ (u10.1 1).toInt ≤ 1 by omega), (show 0 ≤ (u10.1 2).toInt ∧ (u10.1 2).toInt ≤ 3 by omega), (show 0 ≤ (u10.1 3).toInt ∧ (u10.1 3).toInt ≤ 60 by omega), (show 0 ≤ obthere.toInt ∧ obthere.toInt ≤ 1 by omega), (show 0 ≤ obwidth.toInt ∧ obwidth.toInt ≤ 3 by omega), (show 0 ≤ obsize.toInt ∧ obsize.toInt ≤ 60 by omega), (show 0 ≤ octhere.toInt ∧ octhere.toInt ≤ 1 by omega), (show 0 ≤ ocwidth.toInt ∧ ocwidth.toInt ≤ 3 by omega), (show 0 ≤ ocsize.toInt ∧ ocsize.toInt ≤ 60 by omega), (show 0 ≤ odthere.toInt ∧ odthere.toInt ≤ 1 by omega), (show 0 ≤ odwidth.toInt ∧ odwidth.toInt ≤ 3 by omega), (show 0 ≤ odsize.toInt ∧ odsize.toInt ≤ 60 by omega)⟩ (hP.sub [0, 1, 8, 9, 2, 3, 4, 5, 6, 7] rfl) (hD.sub [0, 1, 8, 9, 2, 3, 4, 5, 6, 7] (by decide) rfl) hS (Nat.le_of_ble_eq_true rfl) (Nat.le_of_ble_eq_true rfl) dX11_row_56
              · obtain rfl : p1 = 1 := Int32.toInt_inj.mp (hv.trans (by decide))
                refine lv_aload_n hx hb dX11_row_32 rfl (lv_at hl 0 rfl) ?_
                refine g_get (C := RX11) (T := TX11) (N := 11) (ci := 11) (v := .ref rw0) FC hKn hP i_X11 0 rfl rfl 4 (by decide) b_308 rfl dX11_row_33 ?_
                refine lv_iload_n hx hb dX11_row_36 rfl (lv_at hl 1 rfl) ?_
                refine va_aldq hx hb hKn.1 hP 1 5 rfl rfl (by unfold vp_in; decide) dX11_row_37 ?_
                refine W.eq (g2 := F0 m 38 ls [.ref ob0]) rfl ?_
                refine lv_astore (lv' := [(4, .ref ob0), (0, .ref h0), (1, .int 1), (2, .int p2), (3, .int p3)]) hx hb dX11_row_38 hl (by decide) rfl (fun ls hl => ?_)
                refine lv_aload hx hb dX11_row_40 (lv_at hl 0 rfl) ?_
                refine lv_ifnonnull (tgt := 48) hx hb dX11_row_42 (by decide) ?_
                refine lv_aload hx hb dX11_row_48 (lv_at hl 0 rfl) ?_
                refine lv_iload_n hx hb dX11_row_50 rfl (lv_at hl 3 rfl) ?_
                refine lv_iload_n hx hb dX11_row_51 rfl (lv_at hl 4 rfl) ?_
                refine call_VN (As := [.int p2, .int p3]) (rest := []) (wr := [(h0, .inr (11, [.ref rd0, .ref d0, .ref im0, .ref ig0, .ref rw0, .ref we0, .ref mi0, .ref re0, .ref pl0, .ref ri0, .ref le0])), (rw0, .inl (g.2 5, 4, .inr (.inr (.inr (.inr (va_up (va_up (va_up (va_up (fun _ => none) 0 (some oa0)) 1 (some ob0)) 2 (some oc0)) 3 (some od0))))))), (oa0, .inr (8, [.ref oar0, .int oathere, .int oawidth, .int oasize])), (oar0, .inl (g.2 3, 60, .inr (.inl oanumbers))), (oc0, .inr (8, [.ref ocr0, .int octhere, .int ocwidth, .int ocsize])), (ocr0, .inl (g.2 3, 60, .inr (.inl ocnumbers))), (od0, .inr (8, [.ref odr0, .int odthere, .int odwidth, .int odsize])), (odr0, .inl (g.2 3, 60, .inr (.inl odnumbers)))]) FC hKn hZ (k_X8_begin l g ob0 obr0 obthere obwidth obsize obnumbers p2 p3 (by omega) (by omega) (by omega) (by omega) (by omega)) m_yX8_begin b_559 (ci := 8) rfl rfl rfl hP hD hS hA [4, 5] [0, 1, 2, 3, 6, 7, 8, 9] rfl (by decide) rfl (by decide) (by decide) rfl hl.1 rfl (Nat.le_of_ble_eq_true rfl) dX11_row_52 ⟨(Nat.le_of_ble_eq_true rfl), (Nat.le_of_ble_eq_true rfl)⟩ ⟨(Nat.le_of_ble_eq_true rfl), (Nat.le_of_ble_eq_true rfl)⟩ (fun u12 H locs q13 hP hD hS => ?_)
                obtain ⟨q13_0, q13_1, q13_2⟩ := q13
                have hP : va_P g.1 vwCl [(h0, .inr (11, [.ref rd0, .ref d0, .ref im0, .ref ig0, .ref rw0, .ref we0, .ref mi0, .ref re0, .ref pl0, .ref ri0, .ref le0])), (rw0, .inl (g.2 5, 4, .inr (.inr (.inr (.inr (va_up (va_up (va_up (va_up (fun _ => none) 0 (some oa0)) 1 (some ob0)) 2 (some oc0)) 3 (some od0))))))), (oa0, .inr (8, [.ref oar0, .int oathere, .int oawidth, .int oasize])), (oar0, .inl (g.2 3, 60, .inr (.inl oanumbers))), (oc0, .inr (8, [.ref ocr0, .int octhere, .int ocwidth, .int ocsize])), (ocr0, .inl (g.2 3, 60, .inr (.inl ocnumbers))), (od0, .inr (8, [.ref odr0, .int odthere, .int odwidth, .int odsize])), (odr0, .inl (g.2 3, 60, .inr (.inl odnumbers))), (ob0, .inr (8, [.ref obr0, .int (u12.1 1), .int (u12.1 2), .int (u12.1 3)])), (obr0, .inl (g.2 3, 60, .inr (.inl (u12.2.2 0))))] H := hP
                have hD : va_D A [(h0, .inr (11, [.ref rd0, .ref d0, .ref im0, .ref ig0, .ref rw0, .ref we0, .ref mi0, .ref re0, .ref pl0, .ref ri0, .ref le0])), (rw0, .inl (g.2 5, 4, .inr (.inr (.inr (.inr (va_up (va_up (va_up (va_up (fun _ => none) 0 (some oa0)) 1 (some ob0)) 2 (some oc0)) 3 (some od0))))))), (oa0, .inr (8, [.ref oar0, .int oathere, .int oawidth, .int oasize])), (oar0, .inl (g.2 3, 60, .inr (.inl oanumbers))), (oc0, .inr (8, [.ref ocr0, .int octhere, .int ocwidth, .int ocsize])), (ocr0, .inl (g.2 3, 60, .inr (.inl ocnumbers))), (od0, .inr (8, [.ref odr0, .int odthere, .int odwidth, .int odsize])), (odr0, .inl (g.2 3, 60, .inr (.inl odnumbers))), (ob0, .inr (8, [.ref obr0, .int (u12.1 1), .int (u12.1 2), .int (u12.1 3)])), (obr0, .inl (g.2 3, 60, .inr (.inl (u12.2.2 0))))] := hD
                refine W.eq (g2 := F0 m 55 ls []) rfl ?_
                refine lv_iconst (v := 0) hx hb dX11_row_55 (by decide) ?_
                exact rt_i FX ((fun k => match k with | 0 => (0 : Int32) | 1 => oathere | 2 => oawidth | 3 => oasize | 4 => u12.1 1 | 5 => u12.1 2 | 6 => u12.1 3 | 7 => octhere | 8 => ocwidth | 9 => ocsize | 10 => odthere | 11 => odwidth | 12 => odsize | _ => 0), (fun _ => fun _ => 0), (fun k => match k with | 0 => oanumbers | 1 => u12.2.2 0 | 2 => ocnumbers | 3 => odnumbers | _ => fun _ => 0)) rfl ⟨(show 0 ≤ oathere.toInt ∧ oathere.toInt ≤ 1 by omega), (show 0 ≤ oawidth.toInt ∧ oawidth.toInt ≤ 3 by omega), (show 0 ≤ oasize.toInt ∧ oasize.toInt ≤ 60 by omega), (show 0 ≤ (u12.1 1).toInt ∧ (u12.1 1).toInt ≤ 1 by omega), (show 0 ≤ (u12.1 2).toInt ∧ (u12.1 2).toInt ≤ 3 by omega), (show 0 ≤ (u12.1 3).toInt ∧ (u12.1 3).toInt ≤ 60 by omega), (show 0 ≤ octhere.toInt ∧ octhere.toInt ≤ 1 by omega), (show 0 ≤ ocwidth.toInt ∧ ocwidth.toInt ≤ 3 by omega), (show 0 ≤ ocsize.toInt ∧ ocsize.toInt ≤ 60 by omega), (show 0 ≤ odthere.toInt ∧ odthere.toInt ≤ 1 by omega), (show 0 ≤ odwidth.toInt ∧ odwidth.toInt ≤ 3 by omega), (show 0 ≤ odsize.toInt ∧ odsize.toInt ≤ 60 by omega)⟩ (hP.sub [0, 1, 2, 3, 8, 9, 4, 5, 6, 7] rfl) (hD.sub [0, 1, 2, 3, 8, 9, 4, 5, 6, 7] (by decide) rfl) hS (Nat.le_of_ble_eq_true rfl) (Nat.le_of_ble_eq_true rfl) dX11_row_56
              · obtain rfl : p1 = 2 := Int32.toInt_inj.mp (hv.trans (by decide))
                refine lv_aload_n hx hb dX11_row_32 rfl (lv_at hl 0 rfl) ?_
                refine g_get (C := RX11) (T := TX11) (N := 11) (ci := 11) (v := .ref rw0) FC hKn hP i_X11 0 rfl rfl 4 (by decide) b_308 rfl dX11_row_33 ?_
                refine lv_iload_n hx hb dX11_row_36 rfl (lv_at hl 1 rfl) ?_
                refine va_aldq hx hb hKn.1 hP 1 5 rfl rfl (by unfold vp_in; decide) dX11_row_37 ?_
                refine W.eq (g2 := F0 m 38 ls [.ref oc0]) rfl ?_
                refine lv_astore (lv' := [(4, .ref oc0), (0, .ref h0), (1, .int 2), (2, .int p2), (3, .int p3)]) hx hb dX11_row_38 hl (by decide) rfl (fun ls hl => ?_)
                refine lv_aload hx hb dX11_row_40 (lv_at hl 0 rfl) ?_
                refine lv_ifnonnull (tgt := 48) hx hb dX11_row_42 (by decide) ?_
                refine lv_aload hx hb dX11_row_48 (lv_at hl 0 rfl) ?_
                refine lv_iload_n hx hb dX11_row_50 rfl (lv_at hl 3 rfl) ?_
                refine lv_iload_n hx hb dX11_row_51 rfl (lv_at hl 4 rfl) ?_
                refine call_VN (As := [.int p2, .int p3]) (rest := []) (wr := [(h0, .inr (11, [.ref rd0, .ref d0, .ref im0, .ref ig0, .ref rw0, .ref we0, .ref mi0, .ref re0, .ref pl0, .ref ri0, .ref le0])), (rw0, .inl (g.2 5, 4, .inr (.inr (.inr (.inr (va_up (va_up (va_up (va_up (fun _ => none) 0 (some oa0)) 1 (some ob0)) 2 (some oc0)) 3 (some od0))))))), (oa0, .inr (8, [.ref oar0, .int oathere, .int oawidth, .int oasize])), (oar0, .inl (g.2 3, 60, .inr (.inl oanumbers))), (ob0, .inr (8, [.ref obr0, .int obthere, .int obwidth, .int obsize])), (obr0, .inl (g.2 3, 60, .inr (.inl obnumbers))), (od0, .inr (8, [.ref odr0, .int odthere, .int odwidth, .int odsize])), (odr0, .inl (g.2 3, 60, .inr (.inl odnumbers)))]) FC hKn hZ (k_X8_begin l g oc0 ocr0 octhere ocwidth ocsize ocnumbers p2 p3 (by omega) (by omega) (by omega) (by omega) (by omega)) m_yX8_begin b_559 (ci := 8) rfl rfl rfl hP hD hS hA [6, 7] [0, 1, 2, 3, 4, 5, 8, 9] rfl (by decide) rfl (by decide) (by decide) rfl hl.1 rfl (Nat.le_of_ble_eq_true rfl) dX11_row_52 ⟨(Nat.le_of_ble_eq_true rfl), (Nat.le_of_ble_eq_true rfl)⟩ ⟨(Nat.le_of_ble_eq_true rfl), (Nat.le_of_ble_eq_true rfl)⟩ (fun u14 H locs q15 hP hD hS => ?_)
                obtain ⟨q15_0, q15_1, q15_2⟩ := q15
                have hP : va_P g.1 vwCl [(h0, .inr (11, [.ref rd0, .ref d0, .ref im0, .ref ig0, .ref rw0, .ref we0, .ref mi0, .ref re0, .ref pl0, .ref ri0, .ref le0])), (rw0, .inl (g.2 5, 4, .inr (.inr (.inr (.inr (va_up (va_up (va_up (va_up (fun _ => none) 0 (some oa0)) 1 (some ob0)) 2 (some oc0)) 3 (some od0))))))), (oa0, .inr (8, [.ref oar0, .int oathere, .int oawidth, .int oasize])), (oar0, .inl (g.2 3, 60, .inr (.inl oanumbers))), (ob0, .inr (8, [.ref obr0, .int obthere, .int obwidth, .int obsize])), (obr0, .inl (g.2 3, 60, .inr (.inl obnumbers))), (od0, .inr (8, [.ref odr0, .int odthere, .int odwidth, .int odsize])), (odr0, .inl (g.2 3, 60, .inr (.inl odnumbers))), (oc0, .inr (8, [.ref ocr0, .int (u14.1 1), .int (u14.1 2), .int (u14.1 3)])), (ocr0, .inl (g.2 3, 60, .inr (.inl (u14.2.2 0))))] H := hP
                have hD : va_D A [(h0, .inr (11, [.ref rd0, .ref d0, .ref im0, .ref ig0, .ref rw0, .ref we0, .ref mi0, .ref re0, .ref pl0, .ref ri0, .ref le0])), (rw0, .inl (g.2 5, 4, .inr (.inr (.inr (.inr (va_up (va_up (va_up (va_up (fun _ => none) 0 (some oa0)) 1 (some ob0)) 2 (some oc0)) 3 (some od0))))))), (oa0, .inr (8, [.ref oar0, .int oathere, .int oawidth, .int oasize])), (oar0, .inl (g.2 3, 60, .inr (.inl oanumbers))), (ob0, .inr (8, [.ref obr0, .int obthere, .int obwidth, .int obsize])), (obr0, .inl (g.2 3, 60, .inr (.inl obnumbers))), (od0, .inr (8, [.ref odr0, .int odthere, .int odwidth, .int odsize])), (odr0, .inl (g.2 3, 60, .inr (.inl odnumbers))), (oc0, .inr (8, [.ref ocr0, .int (u14.1 1), .int (u14.1 2), .int (u14.1 3)])), (ocr0, .inl (g.2 3, 60, .inr (.inl (u14.2.2 0))))] := hD
                refine W.eq (g2 := F0 m 55 ls []) rfl ?_
                refine lv_iconst (v := 0) hx hb dX11_row_55 (by decide) ?_
                exact rt_i FX ((fun k => match k with | 0 => (0 : Int32) | 1 => oathere | 2 => oawidth | 3 => oasize | 4 => obthere | 5 => obwidth | 6 => obsize | 7 => u14.1 1 | 8 => u14.1 2 | 9 => u14.1 3 | 10 => odthere | 11 => odwidth | 12 => odsize | _ => 0), (fun _ => fun _ => 0), (fun k => match k with | 0 => oanumbers | 1 => obnumbers | 2 => u14.2.2 0 | 3 => odnumbers | _ => fun _ => 0)) rfl ⟨(show 0 ≤ oathere.toInt ∧ oathere.toInt ≤ 1 by omega), (show 0 ≤ oawidth.toInt ∧ oawidth.toInt ≤ 3 by omega), (show 0 ≤ oasize.toInt ∧ oasize.toInt ≤ 60 by omega), (show 0 ≤ obthere.toInt ∧ obthere.toInt ≤ 1 by omega), (show 0 ≤ obwidth.toInt ∧ obwidth.toInt ≤ 3 by omega), (show 0 ≤ obsize.toInt ∧ obsize.toInt ≤ 60 by omega), (show 0 ≤ (u14.1 1).toInt ∧ (u14.1 1).toInt ≤ 1 by omega), (show 0 ≤ (u14.1 2).toInt ∧ (u14.1 2).toInt ≤ 3 by omega), (show 0 ≤ (u14.1 3).toInt ∧ (u14.1 3).toInt ≤ 60 by omega), (show 0 ≤ odthere.toInt ∧ odthere.toInt ≤ 1 by omega), (show 0 ≤ odwidth.toInt ∧ odwidth.toInt ≤ 3 by omega), (show 0 ≤ odsize.toInt ∧ odsize.toInt ≤ 60 by omega)⟩ (hP.sub [0, 1, 2, 3, 4, 5, 8, 9, 6, 7] rfl) (hD.sub [0, 1, 2, 3, 4, 5, 8, 9, 6, 7] (by decide) rfl) hS (Nat.le_of_ble_eq_true rfl) (Nat.le_of_ble_eq_true rfl) dX11_row_56
              · obtain rfl : p1 = 3 := Int32.toInt_inj.mp (hv.trans (by decide))
                refine lv_aload_n hx hb dX11_row_32 rfl (lv_at hl 0 rfl) ?_
                refine g_get (C := RX11) (T := TX11) (N := 11) (ci := 11) (v := .ref rw0) FC hKn hP i_X11 0 rfl rfl 4 (by decide) b_308 rfl dX11_row_33 ?_
                refine lv_iload_n hx hb dX11_row_36 rfl (lv_at hl 1 rfl) ?_
                refine va_aldq hx hb hKn.1 hP 1 5 rfl rfl (by unfold vp_in; decide) dX11_row_37 ?_
                refine W.eq (g2 := F0 m 38 ls [.ref od0]) rfl ?_
                refine lv_astore (lv' := [(4, .ref od0), (0, .ref h0), (1, .int 3), (2, .int p2), (3, .int p3)]) hx hb dX11_row_38 hl (by decide) rfl (fun ls hl => ?_)
                refine lv_aload hx hb dX11_row_40 (lv_at hl 0 rfl) ?_
                refine lv_ifnonnull (tgt := 48) hx hb dX11_row_42 (by decide) ?_
                refine lv_aload hx hb dX11_row_48 (lv_at hl 0 rfl) ?_
                refine lv_iload_n hx hb dX11_row_50 rfl (lv_at hl 3 rfl) ?_
                refine lv_iload_n hx hb dX11_row_51 rfl (lv_at hl 4 rfl) ?_
                refine call_VN (As := [.int p2, .int p3]) (rest := []) (wr := [(h0, .inr (11, [.ref rd0, .ref d0, .ref im0, .ref ig0, .ref rw0, .ref we0, .ref mi0, .ref re0, .ref pl0, .ref ri0, .ref le0])), (rw0, .inl (g.2 5, 4, .inr (.inr (.inr (.inr (va_up (va_up (va_up (va_up (fun _ => none) 0 (some oa0)) 1 (some ob0)) 2 (some oc0)) 3 (some od0))))))), (oa0, .inr (8, [.ref oar0, .int oathere, .int oawidth, .int oasize])), (oar0, .inl (g.2 3, 60, .inr (.inl oanumbers))), (ob0, .inr (8, [.ref obr0, .int obthere, .int obwidth, .int obsize])), (obr0, .inl (g.2 3, 60, .inr (.inl obnumbers))), (oc0, .inr (8, [.ref ocr0, .int octhere, .int ocwidth, .int ocsize])), (ocr0, .inl (g.2 3, 60, .inr (.inl ocnumbers)))]) FC hKn hZ (k_X8_begin l g od0 odr0 odthere odwidth odsize odnumbers p2 p3 (by omega) (by omega) (by omega) (by omega) (by omega)) m_yX8_begin b_559 (ci := 8) rfl rfl rfl hP hD hS hA [8, 9] [0, 1, 2, 3, 4, 5, 6, 7] rfl (by decide) rfl (by decide) (by decide) rfl hl.1 rfl (Nat.le_of_ble_eq_true rfl) dX11_row_52 ⟨(Nat.le_of_ble_eq_true rfl), (Nat.le_of_ble_eq_true rfl)⟩ ⟨(Nat.le_of_ble_eq_true rfl), (Nat.le_of_ble_eq_true rfl)⟩ (fun u16 H locs q17 hP hD hS => ?_)
                obtain ⟨q17_0, q17_1, q17_2⟩ := q17
                have hP : va_P g.1 vwCl [(h0, .inr (11, [.ref rd0, .ref d0, .ref im0, .ref ig0, .ref rw0, .ref we0, .ref mi0, .ref re0, .ref pl0, .ref ri0, .ref le0])), (rw0, .inl (g.2 5, 4, .inr (.inr (.inr (.inr (va_up (va_up (va_up (va_up (fun _ => none) 0 (some oa0)) 1 (some ob0)) 2 (some oc0)) 3 (some od0))))))), (oa0, .inr (8, [.ref oar0, .int oathere, .int oawidth, .int oasize])), (oar0, .inl (g.2 3, 60, .inr (.inl oanumbers))), (ob0, .inr (8, [.ref obr0, .int obthere, .int obwidth, .int obsize])), (obr0, .inl (g.2 3, 60, .inr (.inl obnumbers))), (oc0, .inr (8, [.ref ocr0, .int octhere, .int ocwidth, .int ocsize])), (ocr0, .inl (g.2 3, 60, .inr (.inl ocnumbers))), (od0, .inr (8, [.ref odr0, .int (u16.1 1), .int (u16.1 2), .int (u16.1 3)])), (odr0, .inl (g.2 3, 60, .inr (.inl (u16.2.2 0))))] H := hP
                have hD : va_D A [(h0, .inr (11, [.ref rd0, .ref d0, .ref im0, .ref ig0, .ref rw0, .ref we0, .ref mi0, .ref re0, .ref pl0, .ref ri0, .ref le0])), (rw0, .inl (g.2 5, 4, .inr (.inr (.inr (.inr (va_up (va_up (va_up (va_up (fun _ => none) 0 (some oa0)) 1 (some ob0)) 2 (some oc0)) 3 (some od0))))))), (oa0, .inr (8, [.ref oar0, .int oathere, .int oawidth, .int oasize])), (oar0, .inl (g.2 3, 60, .inr (.inl oanumbers))), (ob0, .inr (8, [.ref obr0, .int obthere, .int obwidth, .int obsize])), (obr0, .inl (g.2 3, 60, .inr (.inl obnumbers))), (oc0, .inr (8, [.ref ocr0, .int octhere, .int ocwidth, .int ocsize])), (ocr0, .inl (g.2 3, 60, .inr (.inl ocnumbers))), (od0, .inr (8, [.ref odr0, .int (u16.1 1), .int (u16.1 2), .int (u16.1 3)])), (odr0, .inl (g.2 3, 60, .inr (.inl (u16.2.2 0))))] := hD
                refine W.eq (g2 := F0 m 55 ls []) rfl ?_
                refine lv_iconst (v := 0) hx hb dX11_row_55 (by decide) ?_
                exact rt_i FX ((fun k => match k with | 0 => (0 : Int32) | 1 => oathere | 2 => oawidth | 3 => oasize | 4 => obthere | 5 => obwidth | 6 => obsize | 7 => octhere | 8 => ocwidth | 9 => ocsize | 10 => u16.1 1 | 11 => u16.1 2 | 12 => u16.1 3 | _ => 0), (fun _ => fun _ => 0), (fun k => match k with | 0 => oanumbers | 1 => obnumbers | 2 => ocnumbers | 3 => u16.2.2 0 | _ => fun _ => 0)) rfl ⟨(show 0 ≤ oathere.toInt ∧ oathere.toInt ≤ 1 by omega), (show 0 ≤ oawidth.toInt ∧ oawidth.toInt ≤ 3 by omega), (show 0 ≤ oasize.toInt ∧ oasize.toInt ≤ 60 by omega), (show 0 ≤ obthere.toInt ∧ obthere.toInt ≤ 1 by omega), (show 0 ≤ obwidth.toInt ∧ obwidth.toInt ≤ 3 by omega), (show 0 ≤ obsize.toInt ∧ obsize.toInt ≤ 60 by omega), (show 0 ≤ octhere.toInt ∧ octhere.toInt ≤ 1 by omega), (show 0 ≤ ocwidth.toInt ∧ ocwidth.toInt ≤ 3 by omega), (show 0 ≤ ocsize.toInt ∧ ocsize.toInt ≤ 60 by omega), (show 0 ≤ (u16.1 1).toInt ∧ (u16.1 1).toInt ≤ 1 by omega), (show 0 ≤ (u16.1 2).toInt ∧ (u16.1 2).toInt ≤ 3 by omega), (show 0 ≤ (u16.1 3).toInt ∧ (u16.1 3).toInt ≤ 60 by omega)⟩ (hP.sub [0, 1, 2, 3, 4, 5, 6, 7, 8, 9] rfl) (hD.sub [0, 1, 2, 3, 4, 5, 6, 7, 8, 9] (by decide) rfl) hS (Nat.le_of_ble_eq_true rfl) (Nat.le_of_ble_eq_true rfl) dX11_row_56
            · have c9 := k_nle (a := 0) (b := p3.toInt) (by decide) rfl c9
              refine lv_bipush (v := -3) hx hb dX11_row_29 (by decide) ?_
              exact rt_i FX ((fun k => match k with | 0 => (-3 : Int32) | 1 => oathere | 2 => oawidth | 3 => oasize | 4 => obthere | 5 => obwidth | 6 => obsize | 7 => octhere | 8 => ocwidth | 9 => ocsize | 10 => odthere | 11 => odwidth | 12 => odsize | _ => 0), (fun _ => fun _ => 0), (fun k => match k with | 0 => oanumbers | 1 => obnumbers | 2 => ocnumbers | 3 => odnumbers | _ => fun _ => 0)) rfl ⟨(show 0 ≤ oathere.toInt ∧ oathere.toInt ≤ 1 by omega), (show 0 ≤ oawidth.toInt ∧ oawidth.toInt ≤ 3 by omega), (show 0 ≤ oasize.toInt ∧ oasize.toInt ≤ 60 by omega), (show 0 ≤ obthere.toInt ∧ obthere.toInt ≤ 1 by omega), (show 0 ≤ obwidth.toInt ∧ obwidth.toInt ≤ 3 by omega), (show 0 ≤ obsize.toInt ∧ obsize.toInt ≤ 60 by omega), (show 0 ≤ octhere.toInt ∧ octhere.toInt ≤ 1 by omega), (show 0 ≤ ocwidth.toInt ∧ ocwidth.toInt ≤ 3 by omega), (show 0 ≤ ocsize.toInt ∧ ocsize.toInt ≤ 60 by omega), (show 0 ≤ odthere.toInt ∧ odthere.toInt ≤ 1 by omega), (show 0 ≤ odwidth.toInt ∧ odwidth.toInt ≤ 3 by omega), (show 0 ≤ odsize.toInt ∧ odsize.toInt ≤ 60 by omega)⟩ (hP.sub [0, 1, 2, 3, 4, 5, 6, 7, 8, 9] rfl) (hD.sub [0, 1, 2, 3, 4, 5, 6, 7, 8, 9] (by decide) rfl) hS (Nat.le_of_ble_eq_true rfl) (Nat.le_of_ble_eq_true rfl) dX11_row_31
          · have c8 := k_nle (a := p3.toInt) (b := 60) rfl (by decide) c8
            refine lv_bipush (v := -2) hx hb dX11_row_22 (by decide) ?_
            exact rt_i FX ((fun k => match k with | 0 => (-2 : Int32) | 1 => oathere | 2 => oawidth | 3 => oasize | 4 => obthere | 5 => obwidth | 6 => obsize | 7 => octhere | 8 => ocwidth | 9 => ocsize | 10 => odthere | 11 => odwidth | 12 => odsize | _ => 0), (fun _ => fun _ => 0), (fun k => match k with | 0 => oanumbers | 1 => obnumbers | 2 => ocnumbers | 3 => odnumbers | _ => fun _ => 0)) rfl ⟨(show 0 ≤ oathere.toInt ∧ oathere.toInt ≤ 1 by omega), (show 0 ≤ oawidth.toInt ∧ oawidth.toInt ≤ 3 by omega), (show 0 ≤ oasize.toInt ∧ oasize.toInt ≤ 60 by omega), (show 0 ≤ obthere.toInt ∧ obthere.toInt ≤ 1 by omega), (show 0 ≤ obwidth.toInt ∧ obwidth.toInt ≤ 3 by omega), (show 0 ≤ obsize.toInt ∧ obsize.toInt ≤ 60 by omega), (show 0 ≤ octhere.toInt ∧ octhere.toInt ≤ 1 by omega), (show 0 ≤ ocwidth.toInt ∧ ocwidth.toInt ≤ 3 by omega), (show 0 ≤ ocsize.toInt ∧ ocsize.toInt ≤ 60 by omega), (show 0 ≤ odthere.toInt ∧ odthere.toInt ≤ 1 by omega), (show 0 ≤ odwidth.toInt ∧ odwidth.toInt ≤ 3 by omega), (show 0 ≤ odsize.toInt ∧ odsize.toInt ≤ 60 by omega)⟩ (hP.sub [0, 1, 2, 3, 4, 5, 6, 7, 8, 9] rfl) (hD.sub [0, 1, 2, 3, 4, 5, 6, 7, 8, 9] (by decide) rfl) hS (Nat.le_of_ble_eq_true rfl) (Nat.le_of_ble_eq_true rfl) dX11_row_24
