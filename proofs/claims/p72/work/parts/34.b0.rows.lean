set_option maxRecDepth 100000 in
set_option maxHeartbeats 4000000 in
theorem k_X11_countRows (l : Launch) (g : GG) (h0 : Nat) (rd0 : Nat) (d0 : Nat) (im0 : Nat) (ig0 : Nat) (rw0 : Nat) (we0 : Nat) (mi0 : Nat) (re0 : Nat) (pl0 : Nat) (ri0 : Nat) (le0 : Nat) (oa0 : Nat) (ob0 : Nat) (oc0 : Nat) (od0 : Nat) (oar0 : Nat) (obr0 : Nat) (ocr0 : Nat) (odr0 : Nat) (oathere : Int32) (oawidth : Int32) (oasize : Int32) (obthere : Int32) (obwidth : Int32) (obsize : Int32) (octhere : Int32) (ocwidth : Int32) (ocsize : Int32) (odthere : Int32) (odwidth : Int32) (odsize : Int32) (i_oathere : 0 ≤ oathere.toInt ∧ oathere.toInt ≤ 1) (i_oawidth : 0 ≤ oawidth.toInt ∧ oawidth.toInt ≤ 3) (i_oasize : 0 ≤ oasize.toInt ∧ oasize.toInt ≤ 60) (i_obthere : 0 ≤ obthere.toInt ∧ obthere.toInt ≤ 1) (i_obwidth : 0 ≤ obwidth.toInt ∧ obwidth.toInt ≤ 3) (i_obsize : 0 ≤ obsize.toInt ∧ obsize.toInt ≤ 60) (i_octhere : 0 ≤ octhere.toInt ∧ octhere.toInt ≤ 1) (i_ocwidth : 0 ≤ ocwidth.toInt ∧ ocwidth.toInt ≤ 3) (i_ocsize : 0 ≤ ocsize.toInt ∧ ocsize.toInt ≤ 60) (i_odthere : 0 ≤ odthere.toInt ∧ odthere.toInt ≤ 1) (i_odwidth : 0 ≤ odwidth.toInt ∧ odwidth.toInt ≤ 3) (i_odsize : 0 ≤ odsize.toInt ∧ odsize.toInt ≤ 60) : Ct l g yX11_countRows cX11_countRows 3 (some .int) { frames := 2, cells := 0, slots := 0, locals := 42 } [.ref h0] [(h0, .inr (11, [.ref rd0, .ref d0, .ref im0, .ref ig0, .ref rw0, .ref we0, .ref mi0, .ref re0, .ref pl0, .ref ri0, .ref le0])), (rw0, .inl (g.2 5, 4, .inr (.inr (.inr (.inr (va_up (va_up (va_up (va_up (fun _ => none) 0 (some oa0)) 1 (some ob0)) 2 (some oc0)) 3 (some od0))))))), (oa0, .inr (8, [.ref oar0, .int oathere, .int oawidth, .int oasize])), (ob0, .inr (8, [.ref obr0, .int obthere, .int obwidth, .int obsize])), (oc0, .inr (8, [.ref ocr0, .int octhere, .int ocwidth, .int ocsize])), (od0, .inr (8, [.ref odr0, .int odthere, .int odwidth, .int odsize]))] (S := (Nat → Int32) × (Nat → Nat → Int32) × (Nat → Nat → Int64)) (fun u => some (.int (u.1 0))) (fun u => (0 ≤ (u.1 0).toInt ∧ (u.1 0).toInt ≤ 4)) (fun u => [(h0, .inr (11, [.ref rd0, .ref d0, .ref im0, .ref ig0, .ref rw0, .ref we0, .ref mi0, .ref re0, .ref pl0, .ref ri0, .ref le0])), (rw0, .inl (g.2 5, 4, .inr (.inr (.inr (.inr (va_up (va_up (va_up (va_up (fun _ => none) 0 (some oa0)) 1 (some ob0)) 2 (some oc0)) 3 (some od0))))))), (oa0, .inr (8, [.ref oar0, .int oathere, .int oawidth, .int oasize])), (ob0, .inr (8, [.ref obr0, .int obthere, .int obwidth, .int obsize])), (oc0, .inr (8, [.ref ocr0, .int octhere, .int ocwidth, .int ocsize])), (od0, .inr (8, [.ref odr0, .int odthere, .int odwidth, .int odsize]))]) := by
  refine Ct.of (by decide) (Nat.le_of_ble_eq_true rfl) ?_
  intro p e s m below meth c A ls FX hP hD hS hl
  obtain ⟨FC, hr, hlk, hKn, hA, hnm, hZ⟩ := id FX
  have FC : CallFix p m c cX11_countRows 3 s _ BIG RX11 := FC
  obtain ⟨hx, hb, hml, hown, hB⟩ := id FC
  have hl : lv_has ls 3 [(0, .ref h0)] := hl
  refine lv_iconst (v := 0) hx hb dX11_countRows_0 (by decide) ?_
  refine lv_istore_n (lv' := [(1, .int 0), (0, .ref h0)]) hx hb dX11_countRows_1 rfl hl (by decide) rfl (fun ls hl => ?_)
  refine lv_iconst (v := 0) hx hb dX11_countRows_2 (by decide) ?_
  refine lv_istore_n (lv' := [(2, .int 0), (1, .int 0), (0, .ref h0)]) hx hb dX11_countRows_3 rfl hl (by decide) rfl (fun ls hl => ?_)
  refine lv_iload_n hx hb dX11_countRows_4 rfl (lv_at hl 0 rfl) ?_
  refine lv_iconst (v := 4) hx hb dX11_countRows_5 (by decide) ?_
  refine lv_icmp_ge (tgt := 26) hx hb dX11_countRows_6 (by decide) (fun h => absurd h (by decide)) (fun _ => ?_)
  refine lv_aload_n hx hb dX11_countRows_9 rfl (lv_at hl 2 rfl) ?_
  refine lv_iload_n hx hb dX11_countRows_10 rfl (lv_at hl 0 rfl) ?_
  have kc0 : (0 : Int32).toInt = 0 := by decide
  refine call_V (As := [.int 0]) (rest := []) (wr := [(ob0, .inr (8, [.ref obr0, .int obthere, .int obwidth, .int obsize])), (oc0, .inr (8, [.ref ocr0, .int octhere, .int ocwidth, .int ocsize])), (od0, .inr (8, [.ref odr0, .int odthere, .int odwidth, .int odsize]))]) FC hKn hZ (k_rowOf_0 l g h0 rd0 d0 im0 ig0 rw0 we0 mi0 re0 pl0 ri0 le0 oa0 ob0 oc0 od0 oar0 oathere oawidth oasize (by omega) (by omega) (by omega)) m_yX11_rowOf b_312 (ci := 11) rfl rfl rfl hP hD hS hA [0, 1, 2] [3, 4, 5] rfl (by decide) rfl (by decide) (by decide) rfl hl.1 rfl (Nat.le_of_ble_eq_true rfl) dX11_countRows_11 ⟨(Nat.le_of_ble_eq_true rfl), (Nat.le_of_ble_eq_true rfl)⟩ ⟨(Nat.le_of_ble_eq_true rfl), (Nat.le_of_ble_eq_true rfl)⟩ (fun u1 H locs q2 hP hD hS => ?_)
  have hP : va_P g.1 vwCl [(ob0, .inr (8, [.ref obr0, .int obthere, .int obwidth, .int obsize])), (oc0, .inr (8, [.ref ocr0, .int octhere, .int ocwidth, .int ocsize])), (od0, .inr (8, [.ref odr0, .int odthere, .int odwidth, .int odsize])), (h0, .inr (11, [.ref rd0, .ref d0, .ref im0, .ref ig0, .ref rw0, .ref we0, .ref mi0, .ref re0, .ref pl0, .ref ri0, .ref le0])), (rw0, .inl (g.2 5, 4, .inr (.inr (.inr (.inr (va_up (va_up (va_up (va_up (fun _ => none) 0 (some oa0)) 1 (some ob0)) 2 (some oc0)) 3 (some od0))))))), (oa0, .inr (8, [.ref oar0, .int oathere, .int oawidth, .int oasize]))] H := hP
  have hD : va_D A [(ob0, .inr (8, [.ref obr0, .int obthere, .int obwidth, .int obsize])), (oc0, .inr (8, [.ref ocr0, .int octhere, .int ocwidth, .int ocsize])), (od0, .inr (8, [.ref odr0, .int odthere, .int odwidth, .int odsize])), (h0, .inr (11, [.ref rd0, .ref d0, .ref im0, .ref ig0, .ref rw0, .ref we0, .ref mi0, .ref re0, .ref pl0, .ref ri0, .ref le0])), (rw0, .inl (g.2 5, 4, .inr (.inr (.inr (.inr (va_up (va_up (va_up (va_up (fun _ => none) 0 (some oa0)) 1 (some ob0)) 2 (some oc0)) 3 (some od0))))))), (oa0, .inr (8, [.ref oar0, .int oathere, .int oawidth, .int oasize]))] := hD
  by_cases c3 : oathere.toInt = 0
  · refine W.eq (g2 := F0 m 14 ls [.null]) (by rw [if_pos (i0 c3)]; rfl) ?_
    refine lv_ifnullN (tgt := 20) hx hb dX11_countRows_14 (by decide) ?_
    refine lv_iinc (v := 1) (lv' := [(2, .int 1), (1, .int 0), (0, .ref h0)]) hx hb dX11_countRows_20 hl (k := 0) rfl (by decide) (by decide) rfl (fun ls hl => ?_)
    refine lv_goto (tgt := 4) hx hb dX11_countRows_23 (by decide) ?_
    refine lv_iload_n hx hb dX11_countRows_4 rfl (lv_at hl 0 rfl) ?_
    refine lv_iconst (v := 4) hx hb dX11_countRows_5 (by decide) ?_
    refine lv_icmp_ge (tgt := 26) hx hb dX11_countRows_6 (by decide) (fun h => absurd h (by decide)) (fun _ => ?_)
    refine lv_aload_n hx hb dX11_countRows_9 rfl (lv_at hl 2 rfl) ?_
    refine lv_iload_n hx hb dX11_countRows_10 rfl (lv_at hl 0 rfl) ?_
    have kc1 : (1 : Int32).toInt = 1 := by decide
    refine call_V (As := [.int 1]) (rest := []) (wr := [(oc0, .inr (8, [.ref ocr0, .int octhere, .int ocwidth, .int ocsize])), (od0, .inr (8, [.ref odr0, .int odthere, .int odwidth, .int odsize])), (oa0, .inr (8, [.ref oar0, .int oathere, .int oawidth, .int oasize]))]) FC hKn hZ (k_rowOf_1 l g h0 rd0 d0 im0 ig0 rw0 we0 mi0 re0 pl0 ri0 le0 oa0 ob0 oc0 od0 obr0 obthere obwidth obsize (by omega) (by omega) (by omega)) m_yX11_rowOf b_312 (ci := 11) rfl rfl rfl hP hD hS hA [3, 4, 0] [1, 2, 5] rfl (by decide) rfl (by decide) (by decide) rfl hl.1 rfl (Nat.le_of_ble_eq_true rfl) dX11_countRows_11 ⟨(Nat.le_of_ble_eq_true rfl), (Nat.le_of_ble_eq_true rfl)⟩ ⟨(Nat.le_of_ble_eq_true rfl), (Nat.le_of_ble_eq_true rfl)⟩ (fun u4 H locs q5 hP hD hS => ?_)
    have hP : va_P g.1 vwCl [(oc0, .inr (8, [.ref ocr0, .int octhere, .int ocwidth, .int ocsize])), (od0, .inr (8, [.ref odr0, .int odthere, .int odwidth, .int odsize])), (oa0, .inr (8, [.ref oar0, .int oathere, .int oawidth, .int oasize])), (h0, .inr (11, [.ref rd0, .ref d0, .ref im0, .ref ig0, .ref rw0, .ref we0, .ref mi0, .ref re0, .ref pl0, .ref ri0, .ref le0])), (rw0, .inl (g.2 5, 4, .inr (.inr (.inr (.inr (va_up (va_up (va_up (va_up (fun _ => none) 0 (some oa0)) 1 (some ob0)) 2 (some oc0)) 3 (some od0))))))), (ob0, .inr (8, [.ref obr0, .int obthere, .int obwidth, .int obsize]))] H := hP
    have hD : va_D A [(oc0, .inr (8, [.ref ocr0, .int octhere, .int ocwidth, .int ocsize])), (od0, .inr (8, [.ref odr0, .int odthere, .int odwidth, .int odsize])), (oa0, .inr (8, [.ref oar0, .int oathere, .int oawidth, .int oasize])), (h0, .inr (11, [.ref rd0, .ref d0, .ref im0, .ref ig0, .ref rw0, .ref we0, .ref mi0, .ref re0, .ref pl0, .ref ri0, .ref le0])), (rw0, .inl (g.2 5, 4, .inr (.inr (.inr (.inr (va_up (va_up (va_up (va_up (fun _ => none) 0 (some oa0)) 1 (some ob0)) 2 (some oc0)) 3 (some od0))))))), (ob0, .inr (8, [.ref obr0, .int obthere, .int obwidth, .int obsize]))] := hD
    by_cases c6 : obthere.toInt = 0
    · refine W.eq (g2 := F0 m 14 ls [.null]) (by rw [if_pos (i0 c6)]; rfl) ?_
      refine lv_ifnullN (tgt := 20) hx hb dX11_countRows_14 (by decide) ?_
      refine lv_iinc (v := 2) (lv' := [(2, .int 2), (1, .int 0), (0, .ref h0)]) hx hb dX11_countRows_20 hl (k := 0) rfl (by decide) (by decide) rfl (fun ls hl => ?_)
      refine lv_goto (tgt := 4) hx hb dX11_countRows_23 (by decide) ?_
      refine lv_iload_n hx hb dX11_countRows_4 rfl (lv_at hl 0 rfl) ?_
      refine lv_iconst (v := 4) hx hb dX11_countRows_5 (by decide) ?_
      refine lv_icmp_ge (tgt := 26) hx hb dX11_countRows_6 (by decide) (fun h => absurd h (by decide)) (fun _ => ?_)
      refine lv_aload_n hx hb dX11_countRows_9 rfl (lv_at hl 2 rfl) ?_
      refine lv_iload_n hx hb dX11_countRows_10 rfl (lv_at hl 0 rfl) ?_
      have kc2 : (2 : Int32).toInt = 2 := by decide
      refine call_V (As := [.int 2]) (rest := []) (wr := [(od0, .inr (8, [.ref odr0, .int odthere, .int odwidth, .int odsize])), (oa0, .inr (8, [.ref oar0, .int oathere, .int oawidth, .int oasize])), (ob0, .inr (8, [.ref obr0, .int obthere, .int obwidth, .int obsize]))]) FC hKn hZ (k_rowOf_2 l g h0 rd0 d0 im0 ig0 rw0 we0 mi0 re0 pl0 ri0 le0 oa0 ob0 oc0 od0 ocr0 octhere ocwidth ocsize (by omega) (by omega) (by omega)) m_yX11_rowOf b_312 (ci := 11) rfl rfl rfl hP hD hS hA [3, 4, 0] [1, 2, 5] rfl (by decide) rfl (by decide) (by decide) rfl hl.1 rfl (Nat.le_of_ble_eq_true rfl) dX11_countRows_11 ⟨(Nat.le_of_ble_eq_true rfl), (Nat.le_of_ble_eq_true rfl)⟩ ⟨(Nat.le_of_ble_eq_true rfl), (Nat.le_of_ble_eq_true rfl)⟩ (fun u7 H locs q8 hP hD hS => ?_)
      have hP : va_P g.1 vwCl [(od0, .inr (8, [.ref odr0, .int odthere, .int odwidth, .int odsize])), (oa0, .inr (8, [.ref oar0, .int oathere, .int oawidth, .int oasize])), (ob0, .inr (8, [.ref obr0, .int obthere, .int obwidth, .int obsize])), (h0, .inr (11, [.ref rd0, .ref d0, .ref im0, .ref ig0, .ref rw0, .ref we0, .ref mi0, .ref re0, .ref pl0, .ref ri0, .ref le0])), (rw0, .inl (g.2 5, 4, .inr (.inr (.inr (.inr (va_up (va_up (va_up (va_up (fun _ => none) 0 (some oa0)) 1 (some ob0)) 2 (some oc0)) 3 (some od0))))))), (oc0, .inr (8, [.ref ocr0, .int octhere, .int ocwidth, .int ocsize]))] H := hP
      have hD : va_D A [(od0, .inr (8, [.ref odr0, .int odthere, .int odwidth, .int odsize])), (oa0, .inr (8, [.ref oar0, .int oathere, .int oawidth, .int oasize])), (ob0, .inr (8, [.ref obr0, .int obthere, .int obwidth, .int obsize])), (h0, .inr (11, [.ref rd0, .ref d0, .ref im0, .ref ig0, .ref rw0, .ref we0, .ref mi0, .ref re0, .ref pl0, .ref ri0, .ref le0])), (rw0, .inl (g.2 5, 4, .inr (.inr (.inr (.inr (va_up (va_up (va_up (va_up (fun _ => none) 0 (some oa0)) 1 (some ob0)) 2 (some oc0)) 3 (some od0))))))), (oc0, .inr (8, [.ref ocr0, .int octhere, .int ocwidth, .int ocsize]))] := hD
      by_cases c9 : octhere.toInt = 0
      · refine W.eq (g2 := F0 m 14 ls [.null]) (by rw [if_pos (i0 c9)]; rfl) ?_
        refine lv_ifnullN (tgt := 20) hx hb dX11_countRows_14 (by decide) ?_
        refine lv_iinc (v := 3) (lv' := [(2, .int 3), (1, .int 0), (0, .ref h0)]) hx hb dX11_countRows_20 hl (k := 0) rfl (by decide) (by decide) rfl (fun ls hl => ?_)
        refine lv_goto (tgt := 4) hx hb dX11_countRows_23 (by decide) ?_
        refine lv_iload_n hx hb dX11_countRows_4 rfl (lv_at hl 0 rfl) ?_
        refine lv_iconst (v := 4) hx hb dX11_countRows_5 (by decide) ?_
        refine lv_icmp_ge (tgt := 26) hx hb dX11_countRows_6 (by decide) (fun h => absurd h (by decide)) (fun _ => ?_)
        refine lv_aload_n hx hb dX11_countRows_9 rfl (lv_at hl 2 rfl) ?_
        refine lv_iload_n hx hb dX11_countRows_10 rfl (lv_at hl 0 rfl) ?_
        have kc3 : (3 : Int32).toInt = 3 := by decide
        refine call_V (As := [.int 3]) (rest := []) (wr := [(oa0, .inr (8, [.ref oar0, .int oathere, .int oawidth, .int oasize])), (ob0, .inr (8, [.ref obr0, .int obthere, .int obwidth, .int obsize])), (oc0, .inr (8, [.ref ocr0, .int octhere, .int ocwidth, .int ocsize]))]) FC hKn hZ (k_rowOf_3 l g h0 rd0 d0 im0 ig0 rw0 we0 mi0 re0 pl0 ri0 le0 oa0 ob0 oc0 od0 odr0 odthere odwidth odsize (by omega) (by omega) (by omega)) m_yX11_rowOf b_312 (ci := 11) rfl rfl rfl hP hD hS hA [3, 4, 0] [1, 2, 5] rfl (by decide) rfl (by decide) (by decide) rfl hl.1 rfl (Nat.le_of_ble_eq_true rfl) dX11_countRows_11 ⟨(Nat.le_of_ble_eq_true rfl), (Nat.le_of_ble_eq_true rfl)⟩ ⟨(Nat.le_of_ble_eq_true rfl), (Nat.le_of_ble_eq_true rfl)⟩ (fun u10 H locs q11 hP hD hS => ?_)
        have hP : va_P g.1 vwCl [(oa0, .inr (8, [.ref oar0, .int oathere, .int oawidth, .int oasize])), (ob0, .inr (8, [.ref obr0, .int obthere, .int obwidth, .int obsize])), (oc0, .inr (8, [.ref ocr0, .int octhere, .int ocwidth, .int ocsize])), (h0, .inr (11, [.ref rd0, .ref d0, .ref im0, .ref ig0, .ref rw0, .ref we0, .ref mi0, .ref re0, .ref pl0, .ref ri0, .ref le0])), (rw0, .inl (g.2 5, 4, .inr (.inr (.inr (.inr (va_up (va_up (va_up (va_up (fun _ => none) 0 (some oa0)) 1 (some ob0)) 2 (some oc0)) 3 (some od0))))))), (od0, .inr (8, [.ref odr0, .int odthere, .int odwidth, .int odsize]))] H := hP
        have hD : va_D A [(oa0, .inr (8, [.ref oar0, .int oathere, .int oawidth, .int oasize])), (ob0, .inr (8, [.ref obr0, .int obthere, .int obwidth, .int obsize])), (oc0, .inr (8, [.ref ocr0, .int octhere, .int ocwidth, .int ocsize])), (h0, .inr (11, [.ref rd0, .ref d0, .ref im0, .ref ig0, .ref rw0, .ref we0, .ref mi0, .ref re0, .ref pl0, .ref ri0, .ref le0])), (rw0, .inl (g.2 5, 4, .inr (.inr (.inr (.inr (va_up (va_up (va_up (va_up (fun _ => none) 0 (some oa0)) 1 (some ob0)) 2 (some oc0)) 3 (some od0))))))), (od0, .inr (8, [.ref odr0, .int odthere, .int odwidth, .int odsize]))] := hD
        by_cases c12 : odthere.toInt = 0
        · refine W.eq (g2 := F0 m 14 ls [.null]) (by rw [if_pos (i0 c12)]; rfl) ?_
          refine lv_ifnullN (tgt := 20) hx hb dX11_countRows_14 (by decide) ?_
          refine lv_iinc (v := 4) (lv' := [(2, .int 4), (1, .int 0), (0, .ref h0)]) hx hb dX11_countRows_20 hl (k := 0) rfl (by decide) (by decide) rfl (fun ls hl => ?_)
          refine lv_goto (tgt := 4) hx hb dX11_countRows_23 (by decide) ?_
          refine lv_iload_n hx hb dX11_countRows_4 rfl (lv_at hl 0 rfl) ?_
          refine lv_iconst (v := 4) hx hb dX11_countRows_5 (by decide) ?_
          refine lv_icmp_ge (tgt := 26) hx hb dX11_countRows_6 (by decide) (fun _ => ?_) (fun h => absurd h (by decide))
          refine lv_iload_n hx hb dX11_countRows_26 rfl (lv_at hl 1 rfl) ?_
          exact rt_i FX ((fun k => match k with | 0 => (0 : Int32) | _ => 0), (fun _ => fun _ => 0), (fun _ => fun _ => 0)) rfl (show 0 ≤ ((0 : Int32)).toInt ∧ ((0 : Int32)).toInt ≤ 4 by decide) (hP.sub [3, 4, 0, 1, 2, 5] rfl) (hD.sub [3, 4, 0, 1, 2, 5] (by decide) rfl) hS (Nat.le_of_ble_eq_true rfl) (Nat.le_of_ble_eq_true rfl) dX11_countRows_27
        · refine W.eq (g2 := F0 m 14 ls [.ref od0]) (by rw [if_neg (in0 c12)]; rfl) ?_
          refine lv_ifnull hx hb dX11_countRows_14 ?_
          refine lv_iinc (v := 1) (lv' := [(1, .int 1), (2, .int 3), (0, .ref h0)]) hx hb dX11_countRows_17 hl (k := 1) rfl (by decide) (by decide) rfl (fun ls hl => ?_)
          refine lv_iinc (v := 4) (lv' := [(2, .int 4), (1, .int 1), (0, .ref h0)]) hx hb dX11_countRows_20 hl (k := 1) rfl (by decide) (by decide) rfl (fun ls hl => ?_)
          refine lv_goto (tgt := 4) hx hb dX11_countRows_23 (by decide) ?_
          refine lv_iload_n hx hb dX11_countRows_4 rfl (lv_at hl 0 rfl) ?_
          refine lv_iconst (v := 4) hx hb dX11_countRows_5 (by decide) ?_
          refine lv_icmp_ge (tgt := 26) hx hb dX11_countRows_6 (by decide) (fun _ => ?_) (fun h => absurd h (by decide))
          refine lv_iload_n hx hb dX11_countRows_26 rfl (lv_at hl 1 rfl) ?_
          exact rt_i FX ((fun k => match k with | 0 => (1 : Int32) | _ => 0), (fun _ => fun _ => 0), (fun _ => fun _ => 0)) rfl (show 0 ≤ ((1 : Int32)).toInt ∧ ((1 : Int32)).toInt ≤ 4 by decide) (hP.sub [3, 4, 0, 1, 2, 5] rfl) (hD.sub [3, 4, 0, 1, 2, 5] (by decide) rfl) hS (Nat.le_of_ble_eq_true rfl) (Nat.le_of_ble_eq_true rfl) dX11_countRows_27
      · refine W.eq (g2 := F0 m 14 ls [.ref oc0]) (by rw [if_neg (in0 c9)]; rfl) ?_
        refine lv_ifnull hx hb dX11_countRows_14 ?_
        refine lv_iinc (v := 1) (lv' := [(1, .int 1), (2, .int 2), (0, .ref h0)]) hx hb dX11_countRows_17 hl (k := 1) rfl (by decide) (by decide) rfl (fun ls hl => ?_)
        refine lv_iinc (v := 3) (lv' := [(2, .int 3), (1, .int 1), (0, .ref h0)]) hx hb dX11_countRows_20 hl (k := 1) rfl (by decide) (by decide) rfl (fun ls hl => ?_)
        refine lv_goto (tgt := 4) hx hb dX11_countRows_23 (by decide) ?_
        refine lv_iload_n hx hb dX11_countRows_4 rfl (lv_at hl 0 rfl) ?_
        refine lv_iconst (v := 4) hx hb dX11_countRows_5 (by decide) ?_
        refine lv_icmp_ge (tgt := 26) hx hb dX11_countRows_6 (by decide) (fun h => absurd h (by decide)) (fun _ => ?_)
        refine lv_aload_n hx hb dX11_countRows_9 rfl (lv_at hl 2 rfl) ?_
        refine lv_iload_n hx hb dX11_countRows_10 rfl (lv_at hl 0 rfl) ?_
        have kc3 : (3 : Int32).toInt = 3 := by decide
        refine call_V (As := [.int 3]) (rest := []) (wr := [(oa0, .inr (8, [.ref oar0, .int oathere, .int oawidth, .int oasize])), (ob0, .inr (8, [.ref obr0, .int obthere, .int obwidth, .int obsize])), (oc0, .inr (8, [.ref ocr0, .int octhere, .int ocwidth, .int ocsize]))]) FC hKn hZ (k_rowOf_3 l g h0 rd0 d0 im0 ig0 rw0 we0 mi0 re0 pl0 ri0 le0 oa0 ob0 oc0 od0 odr0 odthere odwidth odsize (by omega) (by omega) (by omega)) m_yX11_rowOf b_312 (ci := 11) rfl rfl rfl hP hD hS hA [3, 4, 0] [1, 2, 5] rfl (by decide) rfl (by decide) (by decide) rfl hl.1 rfl (Nat.le_of_ble_eq_true rfl) dX11_countRows_11 ⟨(Nat.le_of_ble_eq_true rfl), (Nat.le_of_ble_eq_true rfl)⟩ ⟨(Nat.le_of_ble_eq_true rfl), (Nat.le_of_ble_eq_true rfl)⟩ (fun u13 H locs q14 hP hD hS => ?_)
        have hP : va_P g.1 vwCl [(oa0, .inr (8, [.ref oar0, .int oathere, .int oawidth, .int oasize])), (ob0, .inr (8, [.ref obr0, .int obthere, .int obwidth, .int obsize])), (oc0, .inr (8, [.ref ocr0, .int octhere, .int ocwidth, .int ocsize])), (h0, .inr (11, [.ref rd0, .ref d0, .ref im0, .ref ig0, .ref rw0, .ref we0, .ref mi0, .ref re0, .ref pl0, .ref ri0, .ref le0])), (rw0, .inl (g.2 5, 4, .inr (.inr (.inr (.inr (va_up (va_up (va_up (va_up (fun _ => none) 0 (some oa0)) 1 (some ob0)) 2 (some oc0)) 3 (some od0))))))), (od0, .inr (8, [.ref odr0, .int odthere, .int odwidth, .int odsize]))] H := hP
        have hD : va_D A [(oa0, .inr (8, [.ref oar0, .int oathere, .int oawidth, .int oasize])), (ob0, .inr (8, [.ref obr0, .int obthere, .int obwidth, .int obsize])), (oc0, .inr (8, [.ref ocr0, .int octhere, .int ocwidth, .int ocsize])), (h0, .inr (11, [.ref rd0, .ref d0, .ref im0, .ref ig0, .ref rw0, .ref we0, .ref mi0, .ref re0, .ref pl0, .ref ri0, .ref le0])), (rw0, .inl (g.2 5, 4, .inr (.inr (.inr (.inr (va_up (va_up (va_up (va_up (fun _ => none) 0 (some oa0)) 1 (some ob0)) 2 (some oc0)) 3 (some od0))))))), (od0, .inr (8, [.ref odr0, .int odthere, .int odwidth, .int odsize]))] := hD
        by_cases c15 : odthere.toInt = 0
        · refine W.eq (g2 := F0 m 14 ls [.null]) (by rw [if_pos (i0 c15)]; rfl) ?_
          refine lv_ifnullN (tgt := 20) hx hb dX11_countRows_14 (by decide) ?_
          refine lv_iinc (v := 4) (lv' := [(2, .int 4), (1, .int 1), (0, .ref h0)]) hx hb dX11_countRows_20 hl (k := 0) rfl (by decide) (by decide) rfl (fun ls hl => ?_)
          refine lv_goto (tgt := 4) hx hb dX11_countRows_23 (by decide) ?_
          refine lv_iload_n hx hb dX11_countRows_4 rfl (lv_at hl 0 rfl) ?_
          refine lv_iconst (v := 4) hx hb dX11_countRows_5 (by decide) ?_
          refine lv_icmp_ge (tgt := 26) hx hb dX11_countRows_6 (by decide) (fun _ => ?_) (fun h => absurd h (by decide))
          refine lv_iload_n hx hb dX11_countRows_26 rfl (lv_at hl 1 rfl) ?_
          exact rt_i FX ((fun k => match k with | 0 => (1 : Int32) | _ => 0), (fun _ => fun _ => 0), (fun _ => fun _ => 0)) rfl (show 0 ≤ ((1 : Int32)).toInt ∧ ((1 : Int32)).toInt ≤ 4 by decide) (hP.sub [3, 4, 0, 1, 2, 5] rfl) (hD.sub [3, 4, 0, 1, 2, 5] (by decide) rfl) hS (Nat.le_of_ble_eq_true rfl) (Nat.le_of_ble_eq_true rfl) dX11_countRows_27
        · refine W.eq (g2 := F0 m 14 ls [.ref od0]) (by rw [if_neg (in0 c15)]; rfl) ?_
          refine lv_ifnull hx hb dX11_countRows_14 ?_
          refine lv_iinc (v := 2) (lv' := [(1, .int 2), (2, .int 3), (0, .ref h0)]) hx hb dX11_countRows_17 hl (k := 1) rfl (by decide) (by decide) rfl (fun ls hl => ?_)
          refine lv_iinc (v := 4) (lv' := [(2, .int 4), (1, .int 2), (0, .ref h0)]) hx hb dX11_countRows_20 hl (k := 1) rfl (by decide) (by decide) rfl (fun ls hl => ?_)
          refine lv_goto (tgt := 4) hx hb dX11_countRows_23 (by decide) ?_
          refine lv_iload_n hx hb dX11_countRows_4 rfl (lv_at hl 0 rfl) ?_
          refine lv_iconst (v := 4) hx hb dX11_countRows_5 (by decide) ?_
          refine lv_icmp_ge (tgt := 26) hx hb dX11_countRows_6 (by decide) (fun _ => ?_) (fun h => absurd h (by decide))
          refine lv_iload_n hx hb dX11_countRows_26 rfl (lv_at hl 1 rfl) ?_
          exact rt_i FX ((fun k => match k with | 0 => (2 : Int32) | _ => 0), (fun _ => fun _ => 0), (fun _ => fun _ => 0)) rfl (show 0 ≤ ((2 : Int32)).toInt ∧ ((2 : Int32)).toInt ≤ 4 by decide) (hP.sub [3, 4, 0, 1, 2, 5] rfl) (hD.sub [3, 4, 0, 1, 2, 5] (by decide) rfl) hS (Nat.le_of_ble_eq_true rfl) (Nat.le_of_ble_eq_true rfl) dX11_countRows_27
    · refine W.eq (g2 := F0 m 14 ls [.ref ob0]) (by rw [if_neg (in0 c6)]; rfl) ?_
      refine lv_ifnull hx hb dX11_countRows_14 ?_
      refine lv_iinc (v := 1) (lv' := [(1, .int 1), (2, .int 1), (0, .ref h0)]) hx hb dX11_countRows_17 hl (k := 1) rfl (by decide) (by decide) rfl (fun ls hl => ?_)
      refine lv_iinc (v := 2) (lv' := [(2, .int 2), (1, .int 1), (0, .ref h0)]) hx hb dX11_countRows_20 hl (k := 1) rfl (by decide) (by decide) rfl (fun ls hl => ?_)
      refine lv_goto (tgt := 4) hx hb dX11_countRows_23 (by decide) ?_
      refine lv_iload_n hx hb dX11_countRows_4 rfl (lv_at hl 0 rfl) ?_
      refine lv_iconst (v := 4) hx hb dX11_countRows_5 (by decide) ?_
      refine lv_icmp_ge (tgt := 26) hx hb dX11_countRows_6 (by decide) (fun h => absurd h (by decide)) (fun _ => ?_)
      refine lv_aload_n hx hb dX11_countRows_9 rfl (lv_at hl 2 rfl) ?_
      refine lv_iload_n hx hb dX11_countRows_10 rfl (lv_at hl 0 rfl) ?_
      have kc2 : (2 : Int32).toInt = 2 := by decide
      refine call_V (As := [.int 2]) (rest := []) (wr := [(od0, .inr (8, [.ref odr0, .int odthere, .int odwidth, .int odsize])), (oa0, .inr (8, [.ref oar0, .int oathere, .int oawidth, .int oasize])), (ob0, .inr (8, [.ref obr0, .int obthere, .int obwidth, .int obsize]))]) FC hKn hZ (k_rowOf_2 l g h0 rd0 d0 im0 ig0 rw0 we0 mi0 re0 pl0 ri0 le0 oa0 ob0 oc0 od0 ocr0 octhere ocwidth ocsize (by omega) (by omega) (by omega)) m_yX11_rowOf b_312 (ci := 11) rfl rfl rfl hP hD hS hA [3, 4, 0] [1, 2, 5] rfl (by decide) rfl (by decide) (by decide) rfl hl.1 rfl (Nat.le_of_ble_eq_true rfl) dX11_countRows_11 ⟨(Nat.le_of_ble_eq_true rfl), (Nat.le_of_ble_eq_true rfl)⟩ ⟨(Nat.le_of_ble_eq_true rfl), (Nat.le_of_ble_eq_true rfl)⟩ (fun u16 H locs q17 hP hD hS => ?_)
      have hP : va_P g.1 vwCl [(od0, .inr (8, [.ref odr0, .int odthere, .int odwidth, .int odsize])), (oa0, .inr (8, [.ref oar0, .int oathere, .int oawidth, .int oasize])), (ob0, .inr (8, [.ref obr0, .int obthere, .int obwidth, .int obsize])), (h0, .inr (11, [.ref rd0, .ref d0, .ref im0, .ref ig0, .ref rw0, .ref we0, .ref mi0, .ref re0, .ref pl0, .ref ri0, .ref le0])), (rw0, .inl (g.2 5, 4, .inr (.inr (.inr (.inr (va_up (va_up (va_up (va_up (fun _ => none) 0 (some oa0)) 1 (some ob0)) 2 (some oc0)) 3 (some od0))))))), (oc0, .inr (8, [.ref ocr0, .int octhere, .int ocwidth, .int ocsize]))] H := hP
      have hD : va_D A [(od0, .inr (8, [.ref odr0, .int odthere, .int odwidth, .int odsize])), (oa0, .inr (8, [.ref oar0, .int oathere, .int oawidth, .int oasize])), (ob0, .inr (8, [.ref obr0, .int obthere, .int obwidth, .int obsize])), (h0, .inr (11, [.ref rd0, .ref d0, .ref im0, .ref ig0, .ref rw0, .ref we0, .ref mi0, .ref re0, .ref pl0, .ref ri0, .ref le0])), (rw0, .inl (g.2 5, 4, .inr (.inr (.inr (.inr (va_up (va_up (va_up (va_up (fun _ => none) 0 (some oa0)) 1 (some ob0)) 2 (some oc0)) 3 (some od0))))))), (oc0, .inr (8, [.ref ocr0, .int octhere, .int ocwidth, .int ocsize]))] := hD
      by_cases c18 : octhere.toInt = 0
      · refine W.eq (g2 := F0 m 14 ls [.null]) (by rw [if_pos (i0 c18)]; rfl) ?_
        refine lv_ifnullN (tgt := 20) hx hb dX11_countRows_14 (by decide) ?_
        refine lv_iinc (v := 3) (lv' := [(2, .int 3), (1, .int 1), (0, .ref h0)]) hx hb dX11_countRows_20 hl (k := 0) rfl (by decide) (by decide) rfl (fun ls hl => ?_)
        refine lv_goto (tgt := 4) hx hb dX11_countRows_23 (by decide) ?_
        refine lv_iload_n hx hb dX11_countRows_4 rfl (lv_at hl 0 rfl) ?_
        refine lv_iconst (v := 4) hx hb dX11_countRows_5 (by decide) ?_
        refine lv_icmp_ge (tgt := 26) hx hb dX11_countRows_6 (by decide) (fun h => absurd h (by decide)) (fun _ => ?_)
        refine lv_aload_n hx hb dX11_countRows_9 rfl (lv_at hl 2 rfl) ?_
        refine lv_iload_n hx hb dX11_countRows_10 rfl (lv_at hl 0 rfl) ?_
        have kc3 : (3 : Int32).toInt = 3 := by decide
        refine call_V (As := [.int 3]) (rest := []) (wr := [(oa0, .inr (8, [.ref oar0, .int oathere, .int oawidth, .int oasize])), (ob0, .inr (8, [.ref obr0, .int obthere, .int obwidth, .int obsize])), (oc0, .inr (8, [.ref ocr0, .int octhere, .int ocwidth, .int ocsize]))]) FC hKn hZ (k_rowOf_3 l g h0 rd0 d0 im0 ig0 rw0 we0 mi0 re0 pl0 ri0 le0 oa0 ob0 oc0 od0 odr0 odthere odwidth odsize (by omega) (by omega) (by omega)) m_yX11_rowOf b_312 (ci := 11) rfl rfl rfl hP hD hS hA [3, 4, 0] [1, 2, 5] rfl (by decide) rfl (by decide) (by decide) rfl hl.1 rfl (Nat.le_of_ble_eq_true rfl) dX11_countRows_11 ⟨(Nat.le_of_ble_eq_true rfl), (Nat.le_of_ble_eq_true rfl)⟩ ⟨(Nat.le_of_ble_eq_true rfl), (Nat.le_of_ble_eq_true rfl)⟩ (fun u19 H locs q20 hP hD hS => ?_)
        have hP : va_P g.1 vwCl [(oa0, .inr (8, [.ref oar0, .int oathere, .int oawidth, .int oasize])), (ob0, .inr (8, [.ref obr0, .int obthere, .int obwidth, .int obsize])), (oc0, .inr (8, [.ref ocr0, .int octhere, .int ocwidth, .int ocsize])), (h0, .inr (11, [.ref rd0, .ref d0, .ref im0, .ref ig0, .ref rw0, .ref we0, .ref mi0, .ref re0, .ref pl0, .ref ri0, .ref le0])), (rw0, .inl (g.2 5, 4, .inr (.inr (.inr (.inr (va_up (va_up (va_up (va_up (fun _ => none) 0 (some oa0)) 1 (some ob0)) 2 (some oc0)) 3 (some od0))))))), (od0, .inr (8, [.ref odr0, .int odthere, .int odwidth, .int odsize]))] H := hP
        have hD : va_D A [(oa0, .inr (8, [.ref oar0, .int oathere, .int oawidth, .int oasize])), (ob0, .inr (8, [.ref obr0, .int obthere, .int obwidth, .int obsize])), (oc0, .inr (8, [.ref ocr0, .int octhere, .int ocwidth, .int ocsize])), (h0, .inr (11, [.ref rd0, .ref d0, .ref im0, .ref ig0, .ref rw0, .ref we0, .ref mi0, .ref re0, .ref pl0, .ref ri0, .ref le0])), (rw0, .inl (g.2 5, 4, .inr (.inr (.inr (.inr (va_up (va_up (va_up (va_up (fun _ => none) 0 (some oa0)) 1 (some ob0)) 2 (some oc0)) 3 (some od0))))))), (od0, .inr (8, [.ref odr0, .int odthere, .int odwidth, .int odsize]))] := hD
        by_cases c21 : odthere.toInt = 0
        · refine W.eq (g2 := F0 m 14 ls [.null]) (by rw [if_pos (i0 c21)]; rfl) ?_
          refine lv_ifnullN (tgt := 20) hx hb dX11_countRows_14 (by decide) ?_
          refine lv_iinc (v := 4) (lv' := [(2, .int 4), (1, .int 1), (0, .ref h0)]) hx hb dX11_countRows_20 hl (k := 0) rfl (by decide) (by decide) rfl (fun ls hl => ?_)
          refine lv_goto (tgt := 4) hx hb dX11_countRows_23 (by decide) ?_
          refine lv_iload_n hx hb dX11_countRows_4 rfl (lv_at hl 0 rfl) ?_
          refine lv_iconst (v := 4) hx hb dX11_countRows_5 (by decide) ?_
          refine lv_icmp_ge (tgt := 26) hx hb dX11_countRows_6 (by decide) (fun _ => ?_) (fun h => absurd h (by decide))
          refine lv_iload_n hx hb dX11_countRows_26 rfl (lv_at hl 1 rfl) ?_
          exact rt_i FX ((fun k => match k with | 0 => (1 : Int32) | _ => 0), (fun _ => fun _ => 0), (fun _ => fun _ => 0)) rfl (show 0 ≤ ((1 : Int32)).toInt ∧ ((1 : Int32)).toInt ≤ 4 by decide) (hP.sub [3, 4, 0, 1, 2, 5] rfl) (hD.sub [3, 4, 0, 1, 2, 5] (by decide) rfl) hS (Nat.le_of_ble_eq_true rfl) (Nat.le_of_ble_eq_true rfl) dX11_countRows_27
        · refine W.eq (g2 := F0 m 14 ls [.ref od0]) (by rw [if_neg (in0 c21)]; rfl) ?_
          refine lv_ifnull hx hb dX11_countRows_14 ?_
          refine lv_iinc (v := 2) (lv' := [(1, .int 2), (2, .int 3), (0, .ref h0)]) hx hb dX11_countRows_17 hl (k := 1) rfl (by decide) (by decide) rfl (fun ls hl => ?_)
          refine lv_iinc (v := 4) (lv' := [(2, .int 4), (1, .int 2), (0, .ref h0)]) hx hb dX11_countRows_20 hl (k := 1) rfl (by decide) (by decide) rfl (fun ls hl => ?_)
          refine lv_goto (tgt := 4) hx hb dX11_countRows_23 (by decide) ?_
          refine lv_iload_n hx hb dX11_countRows_4 rfl (lv_at hl 0 rfl) ?_
          refine lv_iconst (v := 4) hx hb dX11_countRows_5 (by decide) ?_
          refine lv_icmp_ge (tgt := 26) hx hb dX11_countRows_6 (by decide) (fun _ => ?_) (fun h => absurd h (by decide))
          refine lv_iload_n hx hb dX11_countRows_26 rfl (lv_at hl 1 rfl) ?_
          exact rt_i FX ((fun k => match k with | 0 => (2 : Int32) | _ => 0), (fun _ => fun _ => 0), (fun _ => fun _ => 0)) rfl (show 0 ≤ ((2 : Int32)).toInt ∧ ((2 : Int32)).toInt ≤ 4 by decide) (hP.sub [3, 4, 0, 1, 2, 5] rfl) (hD.sub [3, 4, 0, 1, 2, 5] (by decide) rfl) hS (Nat.le_of_ble_eq_true rfl) (Nat.le_of_ble_eq_true rfl) dX11_countRows_27
      · refine W.eq (g2 := F0 m 14 ls [.ref oc0]) (by rw [if_neg (in0 c18)]; rfl) ?_
        refine lv_ifnull hx hb dX11_countRows_14 ?_
        refine lv_iinc (v := 2) (lv' := [(1, .int 2), (2, .int 2), (0, .ref h0)]) hx hb dX11_countRows_17 hl (k := 1) rfl (by decide) (by decide) rfl (fun ls hl => ?_)
        refine lv_iinc (v := 3) (lv' := [(2, .int 3), (1, .int 2), (0, .ref h0)]) hx hb dX11_countRows_20 hl (k := 1) rfl (by decide) (by decide) rfl (fun ls hl => ?_)
        refine lv_goto (tgt := 4) hx hb dX11_countRows_23 (by decide) ?_
        refine lv_iload_n hx hb dX11_countRows_4 rfl (lv_at hl 0 rfl) ?_
        refine lv_iconst (v := 4) hx hb dX11_countRows_5 (by decide) ?_
        refine lv_icmp_ge (tgt := 26) hx hb dX11_countRows_6 (by decide) (fun h => absurd h (by decide)) (fun _ => ?_)
        refine lv_aload_n hx hb dX11_countRows_9 rfl (lv_at hl 2 rfl) ?_
        refine lv_iload_n hx hb dX11_countRows_10 rfl (lv_at hl 0 rfl) ?_
        have kc3 : (3 : Int32).toInt = 3 := by decide
        refine call_V (As := [.int 3]) (rest := []) (wr := [(oa0, .inr (8, [.ref oar0, .int oathere, .int oawidth, .int oasize])), (ob0, .inr (8, [.ref obr0, .int obthere, .int obwidth, .int obsize])), (oc0, .inr (8, [.ref ocr0, .int octhere, .int ocwidth, .int ocsize]))]) FC hKn hZ (k_rowOf_3 l g h0 rd0 d0 im0 ig0 rw0 we0 mi0 re0 pl0 ri0 le0 oa0 ob0 oc0 od0 odr0 odthere odwidth odsize (by omega) (by omega) (by omega)) m_yX11_rowOf b_312 (ci := 11) rfl rfl rfl hP hD hS hA [3, 4, 0] [1, 2, 5] rfl (by decide) rfl (by decide) (by decide) rfl hl.1 rfl (Nat.le_of_ble_eq_true rfl) dX11_countRows_11 ⟨(Nat.le_of_ble_eq_true rfl), (Nat.le_of_ble_eq_true rfl)⟩ ⟨(Nat.le_of_ble_eq_true rfl), (Nat.le_of_ble_eq_true rfl)⟩ (fun u22 H locs q23 hP hD hS => ?_)
        have hP : va_P g.1 vwCl [(oa0, .inr (8, [.ref oar0, .int oathere, .int oawidth, .int oasize])), (ob0, .inr (8, [.ref obr0, .int obthere, .int obwidth, .int obsize])), (oc0, .inr (8, [.ref ocr0, .int octhere, .int ocwidth, .int ocsize])), (h0, .inr (11, [.ref rd0, .ref d0, .ref im0, .ref ig0, .ref rw0, .ref we0, .ref mi0, .ref re0, .ref pl0, .ref ri0, .ref le0])), (rw0, .inl (g.2 5, 4, .inr (.inr (.inr (.inr (va_up (va_up (va_up (va_up (fun _ => none) 0 (some oa0)) 1 (some ob0)) 2 (some oc0)) 3 (some od0))))))), (od0, .inr (8, [.ref odr0, .int odthere, .int odwidth, .int odsize]))] H := hP
        have hD : va_D A [(oa0, .inr (8, [.ref oar0, .int oathere, .int oawidth, .int oasize])), (ob0, .inr (8, [.ref obr0, .int obthere, .int obwidth, .int obsize])), (oc0, .inr (8, [.ref ocr0, .int octhere, .int ocwidth, .int ocsize])), (h0, .inr (11, [.ref rd0, .ref d0, .ref im0, .ref ig0, .ref rw0, .ref we0, .ref mi0, .ref re0, .ref pl0, .ref ri0, .ref le0])), (rw0, .inl (g.2 5, 4, .inr (.inr (.inr (.inr (va_up (va_up (va_up (va_up (fun _ => none) 0 (some oa0)) 1 (some ob0)) 2 (some oc0)) 3 (some od0))))))), (od0, .inr (8, [.ref odr0, .int odthere, .int odwidth, .int odsize]))] := hD
        by_cases c24 : odthere.toInt = 0
        · refine W.eq (g2 := F0 m 14 ls [.null]) (by rw [if_pos (i0 c24)]; rfl) ?_
          refine lv_ifnullN (tgt := 20) hx hb dX11_countRows_14 (by decide) ?_
          refine lv_iinc (v := 4) (lv' := [(2, .int 4), (1, .int 2), (0, .ref h0)]) hx hb dX11_countRows_20 hl (k := 0) rfl (by decide) (by decide) rfl (fun ls hl => ?_)
          refine lv_goto (tgt := 4) hx hb dX11_countRows_23 (by decide) ?_
          refine lv_iload_n hx hb dX11_countRows_4 rfl (lv_at hl 0 rfl) ?_
          refine lv_iconst (v := 4) hx hb dX11_countRows_5 (by decide) ?_
          refine lv_icmp_ge (tgt := 26) hx hb dX11_countRows_6 (by decide) (fun _ => ?_) (fun h => absurd h (by decide))
          refine lv_iload_n hx hb dX11_countRows_26 rfl (lv_at hl 1 rfl) ?_
          exact rt_i FX ((fun k => match k with | 0 => (2 : Int32) | _ => 0), (fun _ => fun _ => 0), (fun _ => fun _ => 0)) rfl (show 0 ≤ ((2 : Int32)).toInt ∧ ((2 : Int32)).toInt ≤ 4 by decide) (hP.sub [3, 4, 0, 1, 2, 5] rfl) (hD.sub [3, 4, 0, 1, 2, 5] (by decide) rfl) hS (Nat.le_of_ble_eq_true rfl) (Nat.le_of_ble_eq_true rfl) dX11_countRows_27
        · refine W.eq (g2 := F0 m 14 ls [.ref od0]) (by rw [if_neg (in0 c24)]; rfl) ?_
          refine lv_ifnull hx hb dX11_countRows_14 ?_
          refine lv_iinc (v := 3) (lv' := [(1, .int 3), (2, .int 3), (0, .ref h0)]) hx hb dX11_countRows_17 hl (k := 1) rfl (by decide) (by decide) rfl (fun ls hl => ?_)
          refine lv_iinc (v := 4) (lv' := [(2, .int 4), (1, .int 3), (0, .ref h0)]) hx hb dX11_countRows_20 hl (k := 1) rfl (by decide) (by decide) rfl (fun ls hl => ?_)
          refine lv_goto (tgt := 4) hx hb dX11_countRows_23 (by decide) ?_
          refine lv_iload_n hx hb dX11_countRows_4 rfl (lv_at hl 0 rfl) ?_
          refine lv_iconst (v := 4) hx hb dX11_countRows_5 (by decide) ?_
          refine lv_icmp_ge (tgt := 26) hx hb dX11_countRows_6 (by decide) (fun _ => ?_) (fun h => absurd h (by decide))
          refine lv_iload_n hx hb dX11_countRows_26 rfl (lv_at hl 1 rfl) ?_
          exact rt_i FX ((fun k => match k with | 0 => (3 : Int32) | _ => 0), (fun _ => fun _ => 0), (fun _ => fun _ => 0)) rfl (show 0 ≤ ((3 : Int32)).toInt ∧ ((3 : Int32)).toInt ≤ 4 by decide) (hP.sub [3, 4, 0, 1, 2, 5] rfl) (hD.sub [3, 4, 0, 1, 2, 5] (by decide) rfl) hS (Nat.le_of_ble_eq_true rfl) (Nat.le_of_ble_eq_true rfl) dX11_countRows_27
  · refine W.eq (g2 := F0 m 14 ls [.ref oa0]) (by rw [if_neg (in0 c3)]; rfl) ?_
    refine lv_ifnull hx hb dX11_countRows_14 ?_
    refine lv_iinc (v := 1) (lv' := [(1, .int 1), (2, .int 0), (0, .ref h0)]) hx hb dX11_countRows_17 hl (k := 1) rfl (by decide) (by decide) rfl (fun ls hl => ?_)
    refine lv_iinc (v := 1) (lv' := [(2, .int 1), (1, .int 1), (0, .ref h0)]) hx hb dX11_countRows_20 hl (k := 1) rfl (by decide) (by decide) rfl (fun ls hl => ?_)
    refine lv_goto (tgt := 4) hx hb dX11_countRows_23 (by decide) ?_
    refine lv_iload_n hx hb dX11_countRows_4 rfl (lv_at hl 0 rfl) ?_
    refine lv_iconst (v := 4) hx hb dX11_countRows_5 (by decide) ?_
    refine lv_icmp_ge (tgt := 26) hx hb dX11_countRows_6 (by decide) (fun h => absurd h (by decide)) (fun _ => ?_)
    refine lv_aload_n hx hb dX11_countRows_9 rfl (lv_at hl 2 rfl) ?_
    refine lv_iload_n hx hb dX11_countRows_10 rfl (lv_at hl 0 rfl) ?_
    have kc1 : (1 : Int32).toInt = 1 := by decide
    refine call_V (As := [.int 1]) (rest := []) (wr := [(oc0, .inr (8, [.ref ocr0, .int octhere, .int ocwidth, .int ocsize])), (od0, .inr (8, [.ref odr0, .int odthere, .int odwidth, .int odsize])), (oa0, .inr (8, [.ref oar0, .int oathere, .int oawidth, .int oasize]))]) FC hKn hZ (k_rowOf_1 l g h0 rd0 d0 im0 ig0 rw0 we0 mi0 re0 pl0 ri0 le0 oa0 ob0 oc0 od0 obr0 obthere obwidth obsize (by omega) (by omega) (by omega)) m_yX11_rowOf b_312 (ci := 11) rfl rfl rfl hP hD hS hA [3, 4, 0] [1, 2, 5] rfl (by decide) rfl (by decide) (by decide) rfl hl.1 rfl (Nat.le_of_ble_eq_true rfl) dX11_countRows_11 ⟨(Nat.le_of_ble_eq_true rfl), (Nat.le_of_ble_eq_true rfl)⟩ ⟨(Nat.le_of_ble_eq_true rfl), (Nat.le_of_ble_eq_true rfl)⟩ (fun u25 H locs q26 hP hD hS => ?_)
    have hP : va_P g.1 vwCl [(oc0, .inr (8, [.ref ocr0, .int octhere, .int ocwidth, .int ocsize])), (od0, .inr (8, [.ref odr0, .int odthere, .int odwidth, .int odsize])), (oa0, .inr (8, [.ref oar0, .int oathere, .int oawidth, .int oasize])), (h0, .inr (11, [.ref rd0, .ref d0, .ref im0, .ref ig0, .ref rw0, .ref we0, .ref mi0, .ref re0, .ref pl0, .ref ri0, .ref le0])), (rw0, .inl (g.2 5, 4, .inr (.inr (.inr (.inr (va_up (va_up (va_up (va_up (fun _ => none) 0 (some oa0)) 1 (some ob0)) 2 (some oc0)) 3 (some od0))))))), (ob0, .inr (8, [.ref obr0, .int obthere, .int obwidth, .int obsize]))] H := hP
    have hD : va_D A [(oc0, .inr (8, [.ref ocr0, .int octhere, .int ocwidth, .int ocsize])), (od0, .inr (8, [.ref odr0, .int odthere, .int odwidth, .int odsize])), (oa0, .inr (8, [.ref oar0, .int oathere, .int oawidth, .int oasize])), (h0, .inr (11, [.ref rd0, .ref d0, .ref im0, .ref ig0, .ref rw0, .ref we0, .ref mi0, .ref re0, .ref pl0, .ref ri0, .ref le0])), (rw0, .inl (g.2 5, 4, .inr (.inr (.inr (.inr (va_up (va_up (va_up (va_up (fun _ => none) 0 (some oa0)) 1 (some ob0)) 2 (some oc0)) 3 (some od0))))))), (ob0, .inr (8, [.ref obr0, .int obthere, .int obwidth, .int obsize]))] := hD
    by_cases c27 : obthere.toInt = 0
    · refine W.eq (g2 := F0 m 14 ls [.null]) (by rw [if_pos (i0 c27)]; rfl) ?_
      refine lv_ifnullN (tgt := 20) hx hb dX11_countRows_14 (by decide) ?_
      refine lv_iinc (v := 2) (lv' := [(2, .int 2), (1, .int 1), (0, .ref h0)]) hx hb dX11_countRows_20 hl (k := 0) rfl (by decide) (by decide) rfl (fun ls hl => ?_)
      refine lv_goto (tgt := 4) hx hb dX11_countRows_23 (by decide) ?_
      refine lv_iload_n hx hb dX11_countRows_4 rfl (lv_at hl 0 rfl) ?_
      refine lv_iconst (v := 4) hx hb dX11_countRows_5 (by decide) ?_
      refine lv_icmp_ge (tgt := 26) hx hb dX11_countRows_6 (by decide) (fun h => absurd h (by decide)) (fun _ => ?_)
      refine lv_aload_n hx hb dX11_countRows_9 rfl (lv_at hl 2 rfl) ?_
      refine lv_iload_n hx hb dX11_countRows_10 rfl (lv_at hl 0 rfl) ?_
      have kc2 : (2 : Int32).toInt = 2 := by decide
      refine call_V (As := [.int 2]) (rest := []) (wr := [(od0, .inr (8, [.ref odr0, .int odthere, .int odwidth, .int odsize])), (oa0, .inr (8, [.ref oar0, .int oathere, .int oawidth, .int oasize])), (ob0, .inr (8, [.ref obr0, .int obthere, .int obwidth, .int obsize]))]) FC hKn hZ (k_rowOf_2 l g h0 rd0 d0 im0 ig0 rw0 we0 mi0 re0 pl0 ri0 le0 oa0 ob0 oc0 od0 ocr0 octhere ocwidth ocsize (by omega) (by omega) (by omega)) m_yX11_rowOf b_312 (ci := 11) rfl rfl rfl hP hD hS hA [3, 4, 0] [1, 2, 5] rfl (by decide) rfl (by decide) (by decide) rfl hl.1 rfl (Nat.le_of_ble_eq_true rfl) dX11_countRows_11 ⟨(Nat.le_of_ble_eq_true rfl), (Nat.le_of_ble_eq_true rfl)⟩ ⟨(Nat.le_of_ble_eq_true rfl), (Nat.le_of_ble_eq_true rfl)⟩ (fun u28 H locs q29 hP hD hS => ?_)
      have hP : va_P g.1 vwCl [(od0, .inr (8, [.ref odr0, .int odthere, .int odwidth, .int odsize])), (oa0, .inr (8, [.ref oar0, .int oathere, .int oawidth, .int oasize])), (ob0, .inr (8, [.ref obr0, .int obthere, .int obwidth, .int obsize])), (h0, .inr (11, [.ref rd0, .ref d0, .ref im0, .ref ig0, .ref rw0, .ref we0, .ref mi0, .ref re0, .ref pl0, .ref ri0, .ref le0])), (rw0, .inl (g.2 5, 4, .inr (.inr (.inr (.inr (va_up (va_up (va_up (va_up (fun _ => none) 0 (some oa0)) 1 (some ob0)) 2 (some oc0)) 3 (some od0))))))), (oc0, .inr (8, [.ref ocr0, .int octhere, .int ocwidth, .int ocsize]))] H := hP
      have hD : va_D A [(od0, .inr (8, [.ref odr0, .int odthere, .int odwidth, .int odsize])), (oa0, .inr (8, [.ref oar0, .int oathere, .int oawidth, .int oasize])), (ob0, .inr (8, [.ref obr0, .int obthere, .int obwidth, .int obsize])), (h0, .inr (11, [.ref rd0, .ref d0, .ref im0, .ref ig0, .ref rw0, .ref we0, .ref mi0, .ref re0, .ref pl0, .ref ri0, .ref le0])), (rw0, .inl (g.2 5, 4, .inr (.inr (.inr (.inr (va_up (va_up (va_up (va_up (fun _ => none) 0 (some oa0)) 1 (some ob0)) 2 (some oc0)) 3 (some od0))))))), (oc0, .inr (8, [.ref ocr0, .int octhere, .int ocwidth, .int ocsize]))] := hD
      by_cases c30 : octhere.toInt = 0
      · refine W.eq (g2 := F0 m 14 ls [.null]) (by rw [if_pos (i0 c30)]; rfl) ?_
        refine lv_ifnullN (tgt := 20) hx hb dX11_countRows_14 (by decide) ?_
        refine lv_iinc (v := 3) (lv' := [(2, .int 3), (1, .int 1), (0, .ref h0)]) hx hb dX11_countRows_20 hl (k := 0) rfl (by decide) (by decide) rfl (fun ls hl => ?_)
        refine lv_goto (tgt := 4) hx hb dX11_countRows_23 (by decide) ?_
        refine lv_iload_n hx hb dX11_countRows_4 rfl (lv_at hl 0 rfl) ?_
        refine lv_iconst (v := 4) hx hb dX11_countRows_5 (by decide) ?_
        refine lv_icmp_ge (tgt := 26) hx hb dX11_countRows_6 (by decide) (fun h => absurd h (by decide)) (fun _ => ?_)
        refine lv_aload_n hx hb dX11_countRows_9 rfl (lv_at hl 2 rfl) ?_
        refine lv_iload_n hx hb dX11_countRows_10 rfl (lv_at hl 0 rfl) ?_
        have kc3 : (3 : Int32).toInt = 3 := by decide
        refine call_V (As := [.int 3]) (rest := []) (wr := [(oa0, .inr (8, [.ref oar0, .int oathere, .int oawidth, .int oasize])), (ob0, .inr (8, [.ref obr0, .int obthere, .int obwidth, .int obsize])), (oc0, .inr (8, [.ref ocr0, .int octhere, .int ocwidth, .int ocsize]))]) FC hKn hZ (k_rowOf_3 l g h0 rd0 d0 im0 ig0 rw0 we0 mi0 re0 pl0 ri0 le0 oa0 ob0 oc0 od0 odr0 odthere odwidth odsize (by omega) (by omega) (by omega)) m_yX11_rowOf b_312 (ci := 11) rfl rfl rfl hP hD hS hA [3, 4, 0] [1, 2, 5] rfl (by decide) rfl (by decide) (by decide) rfl hl.1 rfl (Nat.le_of_ble_eq_true rfl) dX11_countRows_11 ⟨(Nat.le_of_ble_eq_true rfl), (Nat.le_of_ble_eq_true rfl)⟩ ⟨(Nat.le_of_ble_eq_true rfl), (Nat.le_of_ble_eq_true rfl)⟩ (fun u31 H locs q32 hP hD hS => ?_)
        have hP : va_P g.1 vwCl [(oa0, .inr (8, [.ref oar0, .int oathere, .int oawidth, .int oasize])), (ob0, .inr (8, [.ref obr0, .int obthere, .int obwidth, .int obsize])), (oc0, .inr (8, [.ref ocr0, .int octhere, .int ocwidth, .int ocsize])), (h0, .inr (11, [.ref rd0, .ref d0, .ref im0, .ref ig0, .ref rw0, .ref we0, .ref mi0, .ref re0, .ref pl0, .ref ri0, .ref le0])), (rw0, .inl (g.2 5, 4, .inr (.inr (.inr (.inr (va_up (va_up (va_up (va_up (fun _ => none) 0 (some oa0)) 1 (some ob0)) 2 (some oc0)) 3 (some od0))))))), (od0, .inr (8, [.ref odr0, .int odthere, .int odwidth, .int odsize]))] H := hP
        have hD : va_D A [(oa0, .inr (8, [.ref oar0, .int oathere, .int oawidth, .int oasize])), (ob0, .inr (8, [.ref obr0, .int obthere, .int obwidth, .int obsize])), (oc0, .inr (8, [.ref ocr0, .int octhere, .int ocwidth, .int ocsize])), (h0, .inr (11, [.ref rd0, .ref d0, .ref im0, .ref ig0, .ref rw0, .ref we0, .ref mi0, .ref re0, .ref pl0, .ref ri0, .ref le0])), (rw0, .inl (g.2 5, 4, .inr (.inr (.inr (.inr (va_up (va_up (va_up (va_up (fun _ => none) 0 (some oa0)) 1 (some ob0)) 2 (some oc0)) 3 (some od0))))))), (od0, .inr (8, [.ref odr0, .int odthere, .int odwidth, .int odsize]))] := hD
        by_cases c33 : odthere.toInt = 0
        · refine W.eq (g2 := F0 m 14 ls [.null]) (by rw [if_pos (i0 c33)]; rfl) ?_
          refine lv_ifnullN (tgt := 20) hx hb dX11_countRows_14 (by decide) ?_
          refine lv_iinc (v := 4) (lv' := [(2, .int 4), (1, .int 1), (0, .ref h0)]) hx hb dX11_countRows_20 hl (k := 0) rfl (by decide) (by decide) rfl (fun ls hl => ?_)
          refine lv_goto (tgt := 4) hx hb dX11_countRows_23 (by decide) ?_
          refine lv_iload_n hx hb dX11_countRows_4 rfl (lv_at hl 0 rfl) ?_
          refine lv_iconst (v := 4) hx hb dX11_countRows_5 (by decide) ?_
          refine lv_icmp_ge (tgt := 26) hx hb dX11_countRows_6 (by decide) (fun _ => ?_) (fun h => absurd h (by decide))
          refine lv_iload_n hx hb dX11_countRows_26 rfl (lv_at hl 1 rfl) ?_
          exact rt_i FX ((fun k => match k with | 0 => (1 : Int32) | _ => 0), (fun _ => fun _ => 0), (fun _ => fun _ => 0)) rfl (show 0 ≤ ((1 : Int32)).toInt ∧ ((1 : Int32)).toInt ≤ 4 by decide) (hP.sub [3, 4, 0, 1, 2, 5] rfl) (hD.sub [3, 4, 0, 1, 2, 5] (by decide) rfl) hS (Nat.le_of_ble_eq_true rfl) (Nat.le_of_ble_eq_true rfl) dX11_countRows_27
        · refine W.eq (g2 := F0 m 14 ls [.ref od0]) (by rw [if_neg (in0 c33)]; rfl) ?_
          refine lv_ifnull hx hb dX11_countRows_14 ?_
          refine lv_iinc (v := 2) (lv' := [(1, .int 2), (2, .int 3), (0, .ref h0)]) hx hb dX11_countRows_17 hl (k := 1) rfl (by decide) (by decide) rfl (fun ls hl => ?_)
          refine lv_iinc (v := 4) (lv' := [(2, .int 4), (1, .int 2), (0, .ref h0)]) hx hb dX11_countRows_20 hl (k := 1) rfl (by decide) (by decide) rfl (fun ls hl => ?_)
          refine lv_goto (tgt := 4) hx hb dX11_countRows_23 (by decide) ?_
          refine lv_iload_n hx hb dX11_countRows_4 rfl (lv_at hl 0 rfl) ?_
          refine lv_iconst (v := 4) hx hb dX11_countRows_5 (by decide) ?_
          refine lv_icmp_ge (tgt := 26) hx hb dX11_countRows_6 (by decide) (fun _ => ?_) (fun h => absurd h (by decide))
          refine lv_iload_n hx hb dX11_countRows_26 rfl (lv_at hl 1 rfl) ?_
          exact rt_i FX ((fun k => match k with | 0 => (2 : Int32) | _ => 0), (fun _ => fun _ => 0), (fun _ => fun _ => 0)) rfl (show 0 ≤ ((2 : Int32)).toInt ∧ ((2 : Int32)).toInt ≤ 4 by decide) (hP.sub [3, 4, 0, 1, 2, 5] rfl) (hD.sub [3, 4, 0, 1, 2, 5] (by decide) rfl) hS (Nat.le_of_ble_eq_true rfl) (Nat.le_of_ble_eq_true rfl) dX11_countRows_27
      · refine W.eq (g2 := F0 m 14 ls [.ref oc0]) (by rw [if_neg (in0 c30)]; rfl) ?_
        refine lv_ifnull hx hb dX11_countRows_14 ?_
        refine lv_iinc (v := 2) (lv' := [(1, .int 2), (2, .int 2), (0, .ref h0)]) hx hb dX11_countRows_17 hl (k := 1) rfl (by decide) (by decide) rfl (fun ls hl => ?_)
        refine lv_iinc (v := 3) (lv' := [(2, .int 3), (1, .int 2), (0, .ref h0)]) hx hb dX11_countRows_20 hl (k := 1) rfl (by decide) (by decide) rfl (fun ls hl => ?_)
        refine lv_goto (tgt := 4) hx hb dX11_countRows_23 (by decide) ?_
        refine lv_iload_n hx hb dX11_countRows_4 rfl (lv_at hl 0 rfl) ?_
        refine lv_iconst (v := 4) hx hb dX11_countRows_5 (by decide) ?_
        refine lv_icmp_ge (tgt := 26) hx hb dX11_countRows_6 (by decide) (fun h => absurd h (by decide)) (fun _ => ?_)
        refine lv_aload_n hx hb dX11_countRows_9 rfl (lv_at hl 2 rfl) ?_
        refine lv_iload_n hx hb dX11_countRows_10 rfl (lv_at hl 0 rfl) ?_
        have kc3 : (3 : Int32).toInt = 3 := by decide
        refine call_V (As := [.int 3]) (rest := []) (wr := [(oa0, .inr (8, [.ref oar0, .int oathere, .int oawidth, .int oasize])), (ob0, .inr (8, [.ref obr0, .int obthere, .int obwidth, .int obsize])), (oc0, .inr (8, [.ref ocr0, .int octhere, .int ocwidth, .int ocsize]))]) FC hKn hZ (k_rowOf_3 l g h0 rd0 d0 im0 ig0 rw0 we0 mi0 re0 pl0 ri0 le0 oa0 ob0 oc0 od0 odr0 odthere odwidth odsize (by omega) (by omega) (by omega)) m_yX11_rowOf b_312 (ci := 11) rfl rfl rfl hP hD hS hA [3, 4, 0] [1, 2, 5] rfl (by decide) rfl (by decide) (by decide) rfl hl.1 rfl (Nat.le_of_ble_eq_true rfl) dX11_countRows_11 ⟨(Nat.le_of_ble_eq_true rfl), (Nat.le_of_ble_eq_true rfl)⟩ ⟨(Nat.le_of_ble_eq_true rfl), (Nat.le_of_ble_eq_true rfl)⟩ (fun u34 H locs q35 hP hD hS => ?_)
        have hP : va_P g.1 vwCl [(oa0, .inr (8, [.ref oar0, .int oathere, .int oawidth, .int oasize])), (ob0, .inr (8, [.ref obr0, .int obthere, .int obwidth, .int obsize])), (oc0, .inr (8, [.ref ocr0, .int octhere, .int ocwidth, .int ocsize])), (h0, .inr (11, [.ref rd0, .ref d0, .ref im0, .ref ig0, .ref rw0, .ref we0, .ref mi0, .ref re0, .ref pl0, .ref ri0, .ref le0])), (rw0, .inl (g.2 5, 4, .inr (.inr (.inr (.inr (va_up (va_up (va_up (va_up (fun _ => none) 0 (some oa0)) 1 (some ob0)) 2 (some oc0)) 3 (some od0))))))), (od0, .inr (8, [.ref odr0, .int odthere, .int odwidth, .int odsize]))] H := hP
        have hD : va_D A [(oa0, .inr (8, [.ref oar0, .int oathere, .int oawidth, .int oasize])), (ob0, .inr (8, [.ref obr0, .int obthere, .int obwidth, .int obsize])), (oc0, .inr (8, [.ref ocr0, .int octhere, .int ocwidth, .int ocsize])), (h0, .inr (11, [.ref rd0, .ref d0, .ref im0, .ref ig0, .ref rw0, .ref we0, .ref mi0, .ref re0, .ref pl0, .ref ri0, .ref le0])), (rw0, .inl (g.2 5, 4, .inr (.inr (.inr (.inr (va_up (va_up (va_up (va_up (fun _ => none) 0 (some oa0)) 1 (some ob0)) 2 (some oc0)) 3 (some od0))))))), (od0, .inr (8, [.ref odr0, .int odthere, .int odwidth, .int odsize]))] := hD
        by_cases c36 : odthere.toInt = 0
        · refine W.eq (g2 := F0 m 14 ls [.null]) (by rw [if_pos (i0 c36)]; rfl) ?_
          refine lv_ifnullN (tgt := 20) hx hb dX11_countRows_14 (by decide) ?_
          refine lv_iinc (v := 4) (lv' := [(2, .int 4), (1, .int 2), (0, .ref h0)]) hx hb dX11_countRows_20 hl (k := 0) rfl (by decide) (by decide) rfl (fun ls hl => ?_)
          refine lv_goto (tgt := 4) hx hb dX11_countRows_23 (by decide) ?_
          refine lv_iload_n hx hb dX11_countRows_4 rfl (lv_at hl 0 rfl) ?_
          refine lv_iconst (v := 4) hx hb dX11_countRows_5 (by decide) ?_
          refine lv_icmp_ge (tgt := 26) hx hb dX11_countRows_6 (by decide) (fun _ => ?_) (fun h => absurd h (by decide))
          refine lv_iload_n hx hb dX11_countRows_26 rfl (lv_at hl 1 rfl) ?_
          exact rt_i FX ((fun k => match k with | 0 => (2 : Int32) | _ => 0), (fun _ => fun _ => 0), (fun _ => fun _ => 0)) rfl (show 0 ≤ ((2 : Int32)).toInt ∧ ((2 : Int32)).toInt ≤ 4 by decide) (hP.sub [3, 4, 0, 1, 2, 5] rfl) (hD.sub [3, 4, 0, 1, 2, 5] (by decide) rfl) hS (Nat.le_of_ble_eq_true rfl) (Nat.le_of_ble_eq_true rfl) dX11_countRows_27
        · refine W.eq (g2 := F0 m 14 ls [.ref od0]) (by rw [if_neg (in0 c36)]; rfl) ?_
          refine lv_ifnull hx hb dX11_countRows_14 ?_
          refine lv_iinc (v := 3) (lv' := [(1, .int 3), (2, .int 3), (0, .ref h0)]) hx hb dX11_countRows_17 hl (k := 1) rfl (by decide) (by decide) rfl (fun ls hl => ?_)
          refine lv_iinc (v := 4) (lv' := [(2, .int 4), (1, .int 3), (0, .ref h0)]) hx hb dX11_countRows_20 hl (k := 1) rfl (by decide) (by decide) rfl (fun ls hl => ?_)
          refine lv_goto (tgt := 4) hx hb dX11_countRows_23 (by decide) ?_
          refine lv_iload_n hx hb dX11_countRows_4 rfl (lv_at hl 0 rfl) ?_
          refine lv_iconst (v := 4) hx hb dX11_countRows_5 (by decide) ?_
          refine lv_icmp_ge (tgt := 26) hx hb dX11_countRows_6 (by decide) (fun _ => ?_) (fun h => absurd h (by decide))
          refine lv_iload_n hx hb dX11_countRows_26 rfl (lv_at hl 1 rfl) ?_
          exact rt_i FX ((fun k => match k with | 0 => (3 : Int32) | _ => 0), (fun _ => fun _ => 0), (fun _ => fun _ => 0)) rfl (show 0 ≤ ((3 : Int32)).toInt ∧ ((3 : Int32)).toInt ≤ 4 by decide) (hP.sub [3, 4, 0, 1, 2, 5] rfl) (hD.sub [3, 4, 0, 1, 2, 5] (by decide) rfl) hS (Nat.le_of_ble_eq_true rfl) (Nat.le_of_ble_eq_true rfl) dX11_countRows_27
    · refine W.eq (g2 := F0 m 14 ls [.ref ob0]) (by rw [if_neg (in0 c27)]; rfl) ?_
      refine lv_ifnull hx hb dX11_countRows_14 ?_
      refine lv_iinc (v := 2) (lv' := [(1, .int 2), (2, .int 1), (0, .ref h0)]) hx hb dX11_countRows_17 hl (k := 1) rfl (by decide) (by decide) rfl (fun ls hl => ?_)
      refine lv_iinc (v := 2) (lv' := [(2, .int 2), (1, .int 2), (0, .ref h0)]) hx hb dX11_countRows_20 hl (k := 1) rfl (by decide) (by decide) rfl (fun ls hl => ?_)
      refine lv_goto (tgt := 4) hx hb dX11_countRows_23 (by decide) ?_
      refine lv_iload_n hx hb dX11_countRows_4 rfl (lv_at hl 0 rfl) ?_
      refine lv_iconst (v := 4) hx hb dX11_countRows_5 (by decide) ?_
      refine lv_icmp_ge (tgt := 26) hx hb dX11_countRows_6 (by decide) (fun h => absurd h (by decide)) (fun _ => ?_)
      refine lv_aload_n hx hb dX11_countRows_9 rfl (lv_at hl 2 rfl) ?_
      refine lv_iload_n hx hb dX11_countRows_10 rfl (lv_at hl 0 rfl) ?_
      have kc2 : (2 : Int32).toInt = 2 := by decide
      refine call_V (As := [.int 2]) (rest := []) (wr := [(od0, .inr (8, [.ref odr0, .int odthere, .int odwidth, .int odsize])), (oa0, .inr (8, [.ref oar0, .int oathere, .int oawidth, .int oasize])), (ob0, .inr (8, [.ref obr0, .int obthere, .int obwidth, .int obsize]))]) FC hKn hZ (k_rowOf_2 l g h0 rd0 d0 im0 ig0 rw0 we0 mi0 re0 pl0 ri0 le0 oa0 ob0 oc0 od0 ocr0 octhere ocwidth ocsize (by omega) (by omega) (by omega)) m_yX11_rowOf b_312 (ci := 11) rfl rfl rfl hP hD hS hA [3, 4, 0] [1, 2, 5] rfl (by decide) rfl (by decide) (by decide) rfl hl.1 rfl (Nat.le_of_ble_eq_true rfl) dX11_countRows_11 ⟨(Nat.le_of_ble_eq_true rfl), (Nat.le_of_ble_eq_true rfl)⟩ ⟨(Nat.le_of_ble_eq_true rfl), (Nat.le_of_ble_eq_true rfl)⟩ (fun u37 H locs q38 hP hD hS => ?_)
      have hP : va_P g.1 vwCl [(od0, .inr (8, [.ref odr0, .int odthere, .int odwidth, .int odsize])), (oa0, .inr (8, [.ref oar0, .int oathere, .int oawidth, .int oasize])), (ob0, .inr (8, [.ref obr0, .int obthere, .int obwidth, .int obsize])), (h0, .inr (11, [.ref rd0, .ref d0, .ref im0, .ref ig0, .ref rw0, .ref we0, .ref mi0, .ref re0, .ref pl0, .ref ri0, .ref le0])), (rw0, .inl (g.2 5, 4, .inr (.inr (.inr (.inr (va_up (va_up (va_up (va_up (fun _ => none) 0 (some oa0)) 1 (some ob0)) 2 (some oc0)) 3 (some od0))))))), (oc0, .inr (8, [.ref ocr0, .int octhere, .int ocwidth, .int ocsize]))] H := hP
      have hD : va_D A [(od0, .inr (8, [.ref odr0, .int odthere, .int odwidth, .int odsize])), (oa0, .inr (8, [.ref oar0, .int oathere, .int oawidth, .int oasize])), (ob0, .inr (8, [.ref obr0, .int obthere, .int obwidth, .int obsize])), (h0, .inr (11, [.ref rd0, .ref d0, .ref im0, .ref ig0, .ref rw0, .ref we0, .ref mi0, .ref re0, .ref pl0, .ref ri0, .ref le0])), (rw0, .inl (g.2 5, 4, .inr (.inr (.inr (.inr (va_up (va_up (va_up (va_up (fun _ => none) 0 (some oa0)) 1 (some ob0)) 2 (some oc0)) 3 (some od0))))))), (oc0, .inr (8, [.ref ocr0, .int octhere, .int ocwidth, .int ocsize]))] := hD
      by_cases c39 : octhere.toInt = 0
      · refine W.eq (g2 := F0 m 14 ls [.null]) (by rw [if_pos (i0 c39)]; rfl) ?_
        refine lv_ifnullN (tgt := 20) hx hb dX11_countRows_14 (by decide) ?_
        refine lv_iinc (v := 3) (lv' := [(2, .int 3), (1, .int 2), (0, .ref h0)]) hx hb dX11_countRows_20 hl (k := 0) rfl (by decide) (by decide) rfl (fun ls hl => ?_)
        refine lv_goto (tgt := 4) hx hb dX11_countRows_23 (by decide) ?_
        refine lv_iload_n hx hb dX11_countRows_4 rfl (lv_at hl 0 rfl) ?_
        refine lv_iconst (v := 4) hx hb dX11_countRows_5 (by decide) ?_
        refine lv_icmp_ge (tgt := 26) hx hb dX11_countRows_6 (by decide) (fun h => absurd h (by decide)) (fun _ => ?_)
        refine lv_aload_n hx hb dX11_countRows_9 rfl (lv_at hl 2 rfl) ?_
        refine lv_iload_n hx hb dX11_countRows_10 rfl (lv_at hl 0 rfl) ?_
        have kc3 : (3 : Int32).toInt = 3 := by decide
        refine call_V (As := [.int 3]) (rest := []) (wr := [(oa0, .inr (8, [.ref oar0, .int oathere, .int oawidth, .int oasize])), (ob0, .inr (8, [.ref obr0, .int obthere, .int obwidth, .int obsize])), (oc0, .inr (8, [.ref ocr0, .int octhere, .int ocwidth, .int ocsize]))]) FC hKn hZ (k_rowOf_3 l g h0 rd0 d0 im0 ig0 rw0 we0 mi0 re0 pl0 ri0 le0 oa0 ob0 oc0 od0 odr0 odthere odwidth odsize (by omega) (by omega) (by omega)) m_yX11_rowOf b_312 (ci := 11) rfl rfl rfl hP hD hS hA [3, 4, 0] [1, 2, 5] rfl (by decide) rfl (by decide) (by decide) rfl hl.1 rfl (Nat.le_of_ble_eq_true rfl) dX11_countRows_11 ⟨(Nat.le_of_ble_eq_true rfl), (Nat.le_of_ble_eq_true rfl)⟩ ⟨(Nat.le_of_ble_eq_true rfl), (Nat.le_of_ble_eq_true rfl)⟩ (fun u40 H locs q41 hP hD hS => ?_)
        have hP : va_P g.1 vwCl [(oa0, .inr (8, [.ref oar0, .int oathere, .int oawidth, .int oasize])), (ob0, .inr (8, [.ref obr0, .int obthere, .int obwidth, .int obsize])), (oc0, .inr (8, [.ref ocr0, .int octhere, .int ocwidth, .int ocsize])), (h0, .inr (11, [.ref rd0, .ref d0, .ref im0, .ref ig0, .ref rw0, .ref we0, .ref mi0, .ref re0, .ref pl0, .ref ri0, .ref le0])), (rw0, .inl (g.2 5, 4, .inr (.inr (.inr (.inr (va_up (va_up (va_up (va_up (fun _ => none) 0 (some oa0)) 1 (some ob0)) 2 (some oc0)) 3 (some od0))))))), (od0, .inr (8, [.ref odr0, .int odthere, .int odwidth, .int odsize]))] H := hP
        have hD : va_D A [(oa0, .inr (8, [.ref oar0, .int oathere, .int oawidth, .int oasize])), (ob0, .inr (8, [.ref obr0, .int obthere, .int obwidth, .int obsize])), (oc0, .inr (8, [.ref ocr0, .int octhere, .int ocwidth, .int ocsize])), (h0, .inr (11, [.ref rd0, .ref d0, .ref im0, .ref ig0, .ref rw0, .ref we0, .ref mi0, .ref re0, .ref pl0, .ref ri0, .ref le0])), (rw0, .inl (g.2 5, 4, .inr (.inr (.inr (.inr (va_up (va_up (va_up (va_up (fun _ => none) 0 (some oa0)) 1 (some ob0)) 2 (some oc0)) 3 (some od0))))))), (od0, .inr (8, [.ref odr0, .int odthere, .int odwidth, .int odsize]))] := hD
        by_cases c42 : odthere.toInt = 0
        · refine W.eq (g2 := F0 m 14 ls [.null]) (by rw [if_pos (i0 c42)]; rfl) ?_
          refine lv_ifnullN (tgt := 20) hx hb dX11_countRows_14 (by decide) ?_
          refine lv_iinc (v := 4) (lv' := [(2, .int 4), (1, .int 2), (0, .ref h0)]) hx hb dX11_countRows_20 hl (k := 0) rfl (by decide) (by decide) rfl (fun ls hl => ?_)
          refine lv_goto (tgt := 4) hx hb dX11_countRows_23 (by decide) ?_
          refine lv_iload_n hx hb dX11_countRows_4 rfl (lv_at hl 0 rfl) ?_
          refine lv_iconst (v := 4) hx hb dX11_countRows_5 (by decide) ?_
          refine lv_icmp_ge (tgt := 26) hx hb dX11_countRows_6 (by decide) (fun _ => ?_) (fun h => absurd h (by decide))
          refine lv_iload_n hx hb dX11_countRows_26 rfl (lv_at hl 1 rfl) ?_
          exact rt_i FX ((fun k => match k with | 0 => (2 : Int32) | _ => 0), (fun _ => fun _ => 0), (fun _ => fun _ => 0)) rfl (show 0 ≤ ((2 : Int32)).toInt ∧ ((2 : Int32)).toInt ≤ 4 by decide) (hP.sub [3, 4, 0, 1, 2, 5] rfl) (hD.sub [3, 4, 0, 1, 2, 5] (by decide) rfl) hS (Nat.le_of_ble_eq_true rfl) (Nat.le_of_ble_eq_true rfl) dX11_countRows_27
        · refine W.eq (g2 := F0 m 14 ls [.ref od0]) (by rw [if_neg (in0 c42)]; rfl) ?_
          refine lv_ifnull hx hb dX11_countRows_14 ?_
          refine lv_iinc (v := 3) (lv' := [(1, .int 3), (2, .int 3), (0, .ref h0)]) hx hb dX11_countRows_17 hl (k := 1) rfl (by decide) (by decide) rfl (fun ls hl => ?_)
          refine lv_iinc (v := 4) (lv' := [(2, .int 4), (1, .int 3), (0, .ref h0)]) hx hb dX11_countRows_20 hl (k := 1) rfl (by decide) (by decide) rfl (fun ls hl => ?_)
          refine lv_goto (tgt := 4) hx hb dX11_countRows_23 (by decide) ?_
          refine lv_iload_n hx hb dX11_countRows_4 rfl (lv_at hl 0 rfl) ?_
          refine lv_iconst (v := 4) hx hb dX11_countRows_5 (by decide) ?_
          refine lv_icmp_ge (tgt := 26) hx hb dX11_countRows_6 (by decide) (fun _ => ?_) (fun h => absurd h (by decide))
          refine lv_iload_n hx hb dX11_countRows_26 rfl (lv_at hl 1 rfl) ?_
          exact rt_i FX ((fun k => match k with | 0 => (3 : Int32) | _ => 0), (fun _ => fun _ => 0), (fun _ => fun _ => 0)) rfl (show 0 ≤ ((3 : Int32)).toInt ∧ ((3 : Int32)).toInt ≤ 4 by decide) (hP.sub [3, 4, 0, 1, 2, 5] rfl) (hD.sub [3, 4, 0, 1, 2, 5] (by decide) rfl) hS (Nat.le_of_ble_eq_true rfl) (Nat.le_of_ble_eq_true rfl) dX11_countRows_27
      · refine W.eq (g2 := F0 m 14 ls [.ref oc0]) (by rw [if_neg (in0 c39)]; rfl) ?_
        refine lv_ifnull hx hb dX11_countRows_14 ?_
        refine lv_iinc (v := 3) (lv' := [(1, .int 3), (2, .int 2), (0, .ref h0)]) hx hb dX11_countRows_17 hl (k := 1) rfl (by decide) (by decide) rfl (fun ls hl => ?_)
        refine lv_iinc (v := 3) (lv' := [(2, .int 3), (1, .int 3), (0, .ref h0)]) hx hb dX11_countRows_20 hl (k := 1) rfl (by decide) (by decide) rfl (fun ls hl => ?_)
        refine lv_goto (tgt := 4) hx hb dX11_countRows_23 (by decide) ?_
        refine lv_iload_n hx hb dX11_countRows_4 rfl (lv_at hl 0 rfl) ?_
        refine lv_iconst (v := 4) hx hb dX11_countRows_5 (by decide) ?_
        refine lv_icmp_ge (tgt := 26) hx hb dX11_countRows_6 (by decide) (fun h => absurd h (by decide)) (fun _ => ?_)
        refine lv_aload_n hx hb dX11_countRows_9 rfl (lv_at hl 2 rfl) ?_
        refine lv_iload_n hx hb dX11_countRows_10 rfl (lv_at hl 0 rfl) ?_
        have kc3 : (3 : Int32).toInt = 3 := by decide
        refine call_V (As := [.int 3]) (rest := []) (wr := [(oa0, .inr (8, [.ref oar0, .int oathere, .int oawidth, .int oasize])), (ob0, .inr (8, [.ref obr0, .int obthere, .int obwidth, .int obsize])), (oc0, .inr (8, [.ref ocr0, .int octhere, .int ocwidth, .int ocsize]))]) FC hKn hZ (k_rowOf_3 l g h0 rd0 d0 im0 ig0 rw0 we0 mi0 re0 pl0 ri0 le0 oa0 ob0 oc0 od0 odr0 odthere odwidth odsize (by omega) (by omega) (by omega)) m_yX11_rowOf b_312 (ci := 11) rfl rfl rfl hP hD hS hA [3, 4, 0] [1, 2, 5] rfl (by decide) rfl (by decide) (by decide) rfl hl.1 rfl (Nat.le_of_ble_eq_true rfl) dX11_countRows_11 ⟨(Nat.le_of_ble_eq_true rfl), (Nat.le_of_ble_eq_true rfl)⟩ ⟨(Nat.le_of_ble_eq_true rfl), (Nat.le_of_ble_eq_true rfl)⟩ (fun u43 H locs q44 hP hD hS => ?_)
        have hP : va_P g.1 vwCl [(oa0, .inr (8, [.ref oar0, .int oathere, .int oawidth, .int oasize])), (ob0, .inr (8, [.ref obr0, .int obthere, .int obwidth, .int obsize])), (oc0, .inr (8, [.ref ocr0, .int octhere, .int ocwidth, .int ocsize])), (h0, .inr (11, [.ref rd0, .ref d0, .ref im0, .ref ig0, .ref rw0, .ref we0, .ref mi0, .ref re0, .ref pl0, .ref ri0, .ref le0])), (rw0, .inl (g.2 5, 4, .inr (.inr (.inr (.inr (va_up (va_up (va_up (va_up (fun _ => none) 0 (some oa0)) 1 (some ob0)) 2 (some oc0)) 3 (some od0))))))), (od0, .inr (8, [.ref odr0, .int odthere, .int odwidth, .int odsize]))] H := hP
        have hD : va_D A [(oa0, .inr (8, [.ref oar0, .int oathere, .int oawidth, .int oasize])), (ob0, .inr (8, [.ref obr0, .int obthere, .int obwidth, .int obsize])), (oc0, .inr (8, [.ref ocr0, .int octhere, .int ocwidth, .int ocsize])), (h0, .inr (11, [.ref rd0, .ref d0, .ref im0, .ref ig0, .ref rw0, .ref we0, .ref mi0, .ref re0, .ref pl0, .ref ri0, .ref le0])), (rw0, .inl (g.2 5, 4, .inr (.inr (.inr (.inr (va_up (va_up (va_up (va_up (fun _ => none) 0 (some oa0)) 1 (some ob0)) 2 (some oc0)) 3 (some od0))))))), (od0, .inr (8, [.ref odr0, .int odthere, .int odwidth, .int odsize]))] := hD
        by_cases c45 : odthere.toInt = 0
        · refine W.eq (g2 := F0 m 14 ls [.null]) (by rw [if_pos (i0 c45)]; rfl) ?_
          refine lv_ifnullN (tgt := 20) hx hb dX11_countRows_14 (by decide) ?_
          refine lv_iinc (v := 4) (lv' := [(2, .int 4), (1, .int 3), (0, .ref h0)]) hx hb dX11_countRows_20 hl (k := 0) rfl (by decide) (by decide) rfl (fun ls hl => ?_)
          refine lv_goto (tgt := 4) hx hb dX11_countRows_23 (by decide) ?_
          refine lv_iload_n hx hb dX11_countRows_4 rfl (lv_at hl 0 rfl) ?_
          refine lv_iconst (v := 4) hx hb dX11_countRows_5 (by decide) ?_
          refine lv_icmp_ge (tgt := 26) hx hb dX11_countRows_6 (by decide) (fun _ => ?_) (fun h => absurd h (by decide))
          refine lv_iload_n hx hb dX11_countRows_26 rfl (lv_at hl 1 rfl) ?_
          exact rt_i FX ((fun k => match k with | 0 => (3 : Int32) | _ => 0), (fun _ => fun _ => 0), (fun _ => fun _ => 0)) rfl (show 0 ≤ ((3 : Int32)).toInt ∧ ((3 : Int32)).toInt ≤ 4 by decide) (hP.sub [3, 4, 0, 1, 2, 5] rfl) (hD.sub [3, 4, 0, 1, 2, 5] (by decide) rfl) hS (Nat.le_of_ble_eq_true rfl) (Nat.le_of_ble_eq_true rfl) dX11_countRows_27
        · refine W.eq (g2 := F0 m 14 ls [.ref od0]) (by rw [if_neg (in0 c45)]; rfl) ?_
          refine lv_ifnull hx hb dX11_countRows_14 ?_
          refine lv_iinc (v := 4) (lv' := [(1, .int 4), (2, .int 3), (0, .ref h0)]) hx hb dX11_countRows_17 hl (k := 1) rfl (by decide) (by decide) rfl (fun ls hl => ?_)
          refine lv_iinc (v := 4) (lv' := [(2, .int 4), (1, .int 4), (0, .ref h0)]) hx hb dX11_countRows_20 hl (k := 1) rfl (by decide) (by decide) rfl (fun ls hl => ?_)
          refine lv_goto (tgt := 4) hx hb dX11_countRows_23 (by decide) ?_
          refine lv_iload_n hx hb dX11_countRows_4 rfl (lv_at hl 0 rfl) ?_
          refine lv_iconst (v := 4) hx hb dX11_countRows_5 (by decide) ?_
          refine lv_icmp_ge (tgt := 26) hx hb dX11_countRows_6 (by decide) (fun _ => ?_) (fun h => absurd h (by decide))
          refine lv_iload_n hx hb dX11_countRows_26 rfl (lv_at hl 1 rfl) ?_
          exact rt_i FX ((fun k => match k with | 0 => (4 : Int32) | _ => 0), (fun _ => fun _ => 0), (fun _ => fun _ => 0)) rfl (show 0 ≤ ((4 : Int32)).toInt ∧ ((4 : Int32)).toInt ≤ 4 by decide) (hP.sub [3, 4, 0, 1, 2, 5] rfl) (hD.sub [3, 4, 0, 1, 2, 5] (by decide) rfl) hS (Nat.le_of_ble_eq_true rfl) (Nat.le_of_ble_eq_true rfl) dX11_countRows_27
set_option maxRecDepth 100000 in
set_option maxHeartbeats 4000000 in
theorem k_X11_count (l : Launch) (g : GG) (h0 : Nat) (rd0 : Nat) (d0 : Nat) (im0 : Nat) (ig0 : Nat) (rw0 : Nat) (we0 : Nat) (mi0 : Nat) (re0 : Nat) (pl0 : Nat) (ri0 : Nat) (le0 : Nat) (dr0 : Nat) (dr1 : Nat) (dr2 : Nat) (dr3 : Nat) (dr4 : Nat) (dr5 : Nat) (dr6 : Nat) (dr7 : Nat) (dr8 : Nat) (dr9 : Nat) (oa0 : Nat) (ob0 : Nat) (oc0 : Nat) (od0 : Nat) (oar0 : Nat) (obr0 : Nat) (ocr0 : Nat) (odr0 : Nat) (gr0 : Nat) (gr1 : Nat) (gr2 : Nat) (ta0 : Nat) (df0 : Nat) (by0 : Nat) (dstates : Int32) (dreally : Int32) (ddays : Int32) (dheal : Int32) (dleak : Int32) (dlines : Int32) (dhearers : Int32) (dwords : Int32) (dplans : Int32) (dnews : Int32) (oathere : Int32) (oawidth : Int32) (oasize : Int32) (obthere : Int32) (obwidth : Int32) (obsize : Int32) (octhere : Int32) (ocwidth : Int32) (ocsize : Int32) (odthere : Int32) (odwidth : Int32) (odsize : Int32) (gsize : Int32) (yfault : Int32) (yplace : Int32) (yvalue : Int32) (tsize : Int32) (tkind : Int32) (tstart : Int32) (tstop : Int32) (tnumber : Int32) (tbytes : Nat → Int32) (p1 : Int32) (i_dstates : 0 ≤ dstates.toInt ∧ dstates.toInt ≤ 8) (i_dreally : 0 ≤ dreally.toInt ∧ dreally.toInt ≤ 7) (i_ddays : 0 ≤ ddays.toInt ∧ ddays.toInt ≤ 10) (i_dhearers : 0 ≤ dhearers.toInt ∧ dhearers.toInt ≤ 4) (i_dwords : 0 ≤ dwords.toInt ∧ dwords.toInt ≤ 8) (i_dplans : 0 ≤ dplans.toInt ∧ dplans.toInt ≤ 4) (i_dnews : 0 ≤ dnews.toInt ∧ dnews.toInt ≤ 6) (i_oathere : 0 ≤ oathere.toInt ∧ oathere.toInt ≤ 1) (i_oawidth : 0 ≤ oawidth.toInt ∧ oawidth.toInt ≤ 3) (i_oasize : 0 ≤ oasize.toInt ∧ oasize.toInt ≤ 60) (i_obthere : 0 ≤ obthere.toInt ∧ obthere.toInt ≤ 1) (i_obwidth : 0 ≤ obwidth.toInt ∧ obwidth.toInt ≤ 3) (i_obsize : 0 ≤ obsize.toInt ∧ obsize.toInt ≤ 60) (i_octhere : 0 ≤ octhere.toInt ∧ octhere.toInt ≤ 1) (i_ocwidth : 0 ≤ ocwidth.toInt ∧ ocwidth.toInt ≤ 3) (i_ocsize : 0 ≤ ocsize.toInt ∧ ocsize.toInt ≤ 60) (i_odthere : 0 ≤ odthere.toInt ∧ odthere.toInt ≤ 1) (i_odwidth : 0 ≤ odwidth.toInt ∧ odwidth.toInt ≤ 3) (i_odsize : 0 ≤ odsize.toInt ∧ odsize.toInt ≤ 60) (i_gsize : 0 ≤ gsize.toInt ∧ gsize.toInt ≤ 60) (i_tsize : 0 ≤ tsize.toInt ∧ tsize.toInt ≤ 900) (i_tstart : 0 ≤ tstart.toInt ∧ tstart.toInt ≤ 900) (i_tstop : 0 ≤ tstop.toInt ∧ tstop.toInt ≤ 900) : Ct l g yX11_count cX11_count 2 (some .int) { frames := 3, cells := 0, slots := 0, locals := 64 } [.ref h0, .int p1] [(h0, .inr (11, [.ref rd0, .ref d0, .ref im0, .ref ig0, .ref rw0, .ref we0, .ref mi0, .ref re0, .ref pl0, .ref ri0, .ref le0])), (d0, .inr (0, [.int dstates, .int dreally, .int ddays, .int dheal, .int dleak, .int dlines, .int dhearers, .int dwords, .int dplans, .int dnews, .ref dr0, .ref dr1, .ref dr2, .ref dr3, .ref dr4, .ref dr5, .ref dr6, .ref dr7, .ref dr8, .ref dr9])), (rw0, .inl (g.2 5, 4, .inr (.inr (.inr (.inr (va_up (va_up (va_up (va_up (fun _ => none) 0 (some oa0)) 1 (some ob0)) 2 (some oc0)) 3 (some od0))))))), (oa0, .inr (8, [.ref oar0, .int oathere, .int oawidth, .int oasize])), (ob0, .inr (8, [.ref obr0, .int obthere, .int obwidth, .int obsize])), (oc0, .inr (8, [.ref ocr0, .int octhere, .int ocwidth, .int ocsize])), (od0, .inr (8, [.ref odr0, .int odthere, .int odwidth, .int odsize])), (dr9, .inr (3, [.ref gr0, .ref gr1, .ref gr2, .int gsize])), (rd0, .inr (1, [.ref ta0, .ref df0, .int yfault, .int yplace, .int yvalue])), (ta0, .inr (9, [.ref by0, .int tsize, .int tkind, .int tstart, .int tstop, .int tnumber])), (by0, .inl (g.2 1, 900, .inl tbytes))] (S := (Nat → Int32) × (Nat → Nat → Int32) × (Nat → Nat → Int64)) (fun u => some (.int (u.1 0))) (fun u => True) (fun u => [(h0, .inr (11, [.ref rd0, .ref d0, .ref im0, .ref ig0, .ref rw0, .ref we0, .ref mi0, .ref re0, .ref pl0, .ref ri0, .ref le0])), (d0, .inr (0, [.int dstates, .int dreally, .int ddays, .int dheal, .int dleak, .int dlines, .int dhearers, .int dwords, .int dplans, .int dnews, .ref dr0, .ref dr1, .ref dr2, .ref dr3, .ref dr4, .ref dr5, .ref dr6, .ref dr7, .ref dr8, .ref dr9])), (rw0, .inl (g.2 5, 4, .inr (.inr (.inr (.inr (va_up (va_up (va_up (va_up (fun _ => none) 0 (some oa0)) 1 (some ob0)) 2 (some oc0)) 3 (some od0))))))), (oa0, .inr (8, [.ref oar0, .int oathere, .int oawidth, .int oasize])), (ob0, .inr (8, [.ref obr0, .int obthere, .int obwidth, .int obsize])), (oc0, .inr (8, [.ref ocr0, .int octhere, .int ocwidth, .int ocsize])), (od0, .inr (8, [.ref odr0, .int odthere, .int odwidth, .int odsize])), (dr9, .inr (3, [.ref gr0, .ref gr1, .ref gr2, .int gsize])), (rd0, .inr (1, [.ref ta0, .ref df0, .int yfault, .int yplace, .int yvalue])), (ta0, .inr (9, [.ref by0, .int tsize, .int tkind, .int tstart, .int tstop, .int tnumber])), (by0, .inl (g.2 1, 900, .inl tbytes))]) := by
  refine Ct.of (by decide) (Nat.le_of_ble_eq_true rfl) ?_
  intro p e s m below meth c A ls FX hP hD hS hl
  obtain ⟨FC, hr, hlk, hKn, hA, hnm, hZ⟩ := id FX
  have FC : CallFix p m c cX11_count 2 s _ BIG RX11 := FC
  obtain ⟨hx, hb, hml, hown, hB⟩ := id FC
  have hl : lv_has ls 2 [(0, .ref h0), (1, .int p1)] := hl
  refine lv_iload_n hx hb dX11_count_0 rfl (lv_at hl 1 rfl) ?_
  by_cases c1 : p1.toInt < 0 ∨ 12 < p1.toInt
  · refine lv_tableOut (tgt := 175) hx hb dX11_count_1 c1 (by decide) ?_
    refine lv_iconst (v := -1) hx hb dX11_count_175 (by decide) ?_
    exact rt_i FX ((fun k => match k with | 0 => (-1 : Int32) | _ => 0), (fun _ => fun _ => 0), (fun _ => fun _ => 0)) rfl trivial (hP.sub [0, 1, 2, 3, 4, 5, 6, 7, 8, 9, 10] rfl) (hD.sub [0, 1, 2, 3, 4, 5, 6, 7, 8, 9, 10] (by decide +kernel) rfl) hS (Nat.le_of_ble_eq_true rfl) (Nat.le_of_ble_eq_true rfl) dX11_count_176
  · skip
    rcases (show p1.toInt = 0 ∨ p1.toInt = 1 ∨ p1.toInt = 2 ∨ p1.toInt = 3 ∨ p1.toInt = 4 ∨ p1.toInt = 5 ∨ p1.toInt = 6 ∨ p1.toInt = 7 ∨ p1.toInt = 8 ∨ p1.toInt = 9 ∨ p1.toInt = 10 ∨ p1.toInt = 11 ∨ p1.toInt = 12 by omega) with hv | hv | hv | hv | hv | hv | hv | hv | hv | hv | hv | hv | hv
    · obtain rfl : p1 = 0 := Int32.toInt_inj.mp (hv.trans (by decide))
      refine lv_tableIn (tgt := 68) (off := 67) hx hb dX11_count_1 (by decide) (by decide) (by decide) (by decide) ?_
      refine lv_aload_n hx hb dX11_count_68 rfl (lv_at hl 0 rfl) ?_
      refine g_get (C := RX11) (T := TX11) (N := 11) (ci := 11) (v := .ref d0) FC hKn hP i_X11 0 rfl rfl 1 (by decide) b_310 rfl dX11_count_69 ?_
      refine g_getN (C := RX0) (T := TX0) (N := 20) (ci := 0) (v := .int dstates) FC hKn hP i_X0 1 rfl rfl 0 (by decide) b_412 rfl dX11_count_72 ?_
      exact rt_i FX ((fun k => match k with | 0 => dstates | _ => 0), (fun _ => fun _ => 0), (fun _ => fun _ => 0)) rfl trivial (hP.sub [0, 1, 2, 3, 4, 5, 6, 7, 8, 9, 10] rfl) (hD.sub [0, 1, 2, 3, 4, 5, 6, 7, 8, 9, 10] (by decide +kernel) rfl) hS (Nat.le_of_ble_eq_true rfl) (Nat.le_of_ble_eq_true rfl) dX11_count_75
    · obtain rfl : p1 = 1 := Int32.toInt_inj.mp (hv.trans (by decide))
      refine lv_tableIn (tgt := 76) (off := 75) hx hb dX11_count_1 (by decide) (by decide) (by decide) (by decide) ?_
      refine lv_aload_n hx hb dX11_count_76 rfl (lv_at hl 0 rfl) ?_
      refine g_get (C := RX11) (T := TX11) (N := 11) (ci := 11) (v := .ref d0) FC hKn hP i_X11 0 rfl rfl 1 (by decide) b_310 rfl dX11_count_77 ?_
      refine g_getN (C := RX0) (T := TX0) (N := 20) (ci := 0) (v := .int dreally) FC hKn hP i_X0 1 rfl rfl 1 (by decide) b_597 rfl dX11_count_80 ?_
      exact rt_i FX ((fun k => match k with | 0 => dreally | _ => 0), (fun _ => fun _ => 0), (fun _ => fun _ => 0)) rfl trivial (hP.sub [0, 1, 2, 3, 4, 5, 6, 7, 8, 9, 10] rfl) (hD.sub [0, 1, 2, 3, 4, 5, 6, 7, 8, 9, 10] (by decide +kernel) rfl) hS (Nat.le_of_ble_eq_true rfl) (Nat.le_of_ble_eq_true rfl) dX11_count_83
    · obtain rfl : p1 = 2 := Int32.toInt_inj.mp (hv.trans (by decide))
      refine lv_tableIn (tgt := 84) (off := 83) hx hb dX11_count_1 (by decide) (by decide) (by decide) (by decide) ?_
      refine lv_aload_n hx hb dX11_count_84 rfl (lv_at hl 0 rfl) ?_
      refine g_get (C := RX11) (T := TX11) (N := 11) (ci := 11) (v := .ref d0) FC hKn hP i_X11 0 rfl rfl 1 (by decide) b_310 rfl dX11_count_85 ?_
      refine g_getN (C := RX0) (T := TX0) (N := 20) (ci := 0) (v := .int ddays) FC hKn hP i_X0 1 rfl rfl 2 (by decide) b_410 rfl dX11_count_88 ?_
      exact rt_i FX ((fun k => match k with | 0 => ddays | _ => 0), (fun _ => fun _ => 0), (fun _ => fun _ => 0)) rfl trivial (hP.sub [0, 1, 2, 3, 4, 5, 6, 7, 8, 9, 10] rfl) (hD.sub [0, 1, 2, 3, 4, 5, 6, 7, 8, 9, 10] (by decide +kernel) rfl) hS (Nat.le_of_ble_eq_true rfl) (Nat.le_of_ble_eq_true rfl) dX11_count_91
    · obtain rfl : p1 = 3 := Int32.toInt_inj.mp (hv.trans (by decide))
      refine lv_tableIn (tgt := 92) (off := 91) hx hb dX11_count_1 (by decide) (by decide) (by decide) (by decide) ?_
      refine lv_aload_n hx hb dX11_count_92 rfl (lv_at hl 0 rfl) ?_
      refine g_get (C := RX11) (T := TX11) (N := 11) (ci := 11) (v := .ref d0) FC hKn hP i_X11 0 rfl rfl 1 (by decide) b_310 rfl dX11_count_93 ?_
      refine g_getN (C := RX0) (T := TX0) (N := 20) (ci := 0) (v := .int dheal) FC hKn hP i_X0 1 rfl rfl 3 (by decide) b_598 rfl dX11_count_96 ?_
      exact rt_i FX ((fun k => match k with | 0 => dheal | _ => 0), (fun _ => fun _ => 0), (fun _ => fun _ => 0)) rfl trivial (hP.sub [0, 1, 2, 3, 4, 5, 6, 7, 8, 9, 10] rfl) (hD.sub [0, 1, 2, 3, 4, 5, 6, 7, 8, 9, 10] (by decide +kernel) rfl) hS (Nat.le_of_ble_eq_true rfl) (Nat.le_of_ble_eq_true rfl) dX11_count_99
    · obtain rfl : p1 = 4 := Int32.toInt_inj.mp (hv.trans (by decide))
      refine lv_tableIn (tgt := 100) (off := 99) hx hb dX11_count_1 (by decide) (by decide) (by decide) (by decide) ?_
      refine lv_aload_n hx hb dX11_count_100 rfl (lv_at hl 0 rfl) ?_
      refine g_get (C := RX11) (T := TX11) (N := 11) (ci := 11) (v := .ref d0) FC hKn hP i_X11 0 rfl rfl 1 (by decide) b_310 rfl dX11_count_101 ?_
      refine g_getN (C := RX0) (T := TX0) (N := 20) (ci := 0) (v := .int dleak) FC hKn hP i_X0 1 rfl rfl 4 (by decide) b_599 rfl dX11_count_104 ?_
      exact rt_i FX ((fun k => match k with | 0 => dleak | _ => 0), (fun _ => fun _ => 0), (fun _ => fun _ => 0)) rfl trivial (hP.sub [0, 1, 2, 3, 4, 5, 6, 7, 8, 9, 10] rfl) (hD.sub [0, 1, 2, 3, 4, 5, 6, 7, 8, 9, 10] (by decide +kernel) rfl) hS (Nat.le_of_ble_eq_true rfl) (Nat.le_of_ble_eq_true rfl) dX11_count_107
    · obtain rfl : p1 = 5 := Int32.toInt_inj.mp (hv.trans (by decide))
      refine lv_tableIn (tgt := 108) (off := 107) hx hb dX11_count_1 (by decide) (by decide) (by decide) (by decide) ?_
      refine lv_aload_n hx hb dX11_count_108 rfl (lv_at hl 0 rfl) ?_
      refine g_get (C := RX11) (T := TX11) (N := 11) (ci := 11) (v := .ref d0) FC hKn hP i_X11 0 rfl rfl 1 (by decide) b_310 rfl dX11_count_109 ?_
      refine g_getN (C := RX0) (T := TX0) (N := 20) (ci := 0) (v := .int dhearers) FC hKn hP i_X0 1 rfl rfl 6 (by decide) b_473 rfl dX11_count_112 ?_
      exact rt_i FX ((fun k => match k with | 0 => dhearers | _ => 0), (fun _ => fun _ => 0), (fun _ => fun _ => 0)) rfl trivial (hP.sub [0, 1, 2, 3, 4, 5, 6, 7, 8, 9, 10] rfl) (hD.sub [0, 1, 2, 3, 4, 5, 6, 7, 8, 9, 10] (by decide +kernel) rfl) hS (Nat.le_of_ble_eq_true rfl) (Nat.le_of_ble_eq_true rfl) dX11_count_115
    · obtain rfl : p1 = 6 := Int32.toInt_inj.mp (hv.trans (by decide))
      refine lv_tableIn (tgt := 116) (off := 115) hx hb dX11_count_1 (by decide) (by decide) (by decide) (by decide) ?_
      refine lv_aload_n hx hb dX11_count_116 rfl (lv_at hl 0 rfl) ?_
      refine g_get (C := RX11) (T := TX11) (N := 11) (ci := 11) (v := .ref d0) FC hKn hP i_X11 0 rfl rfl 1 (by decide) b_310 rfl dX11_count_117 ?_
      refine g_getN (C := RX0) (T := TX0) (N := 20) (ci := 0) (v := .int dwords) FC hKn hP i_X0 1 rfl rfl 7 (by decide) b_408 rfl dX11_count_120 ?_
      exact rt_i FX ((fun k => match k with | 0 => dwords | _ => 0), (fun _ => fun _ => 0), (fun _ => fun _ => 0)) rfl trivial (hP.sub [0, 1, 2, 3, 4, 5, 6, 7, 8, 9, 10] rfl) (hD.sub [0, 1, 2, 3, 4, 5, 6, 7, 8, 9, 10] (by decide +kernel) rfl) hS (Nat.le_of_ble_eq_true rfl) (Nat.le_of_ble_eq_true rfl) dX11_count_123
    · obtain rfl : p1 = 7 := Int32.toInt_inj.mp (hv.trans (by decide))
      refine lv_tableIn (tgt := 124) (off := 123) hx hb dX11_count_1 (by decide) (by decide) (by decide) (by decide) ?_
      refine lv_aload_n hx hb dX11_count_124 rfl (lv_at hl 0 rfl) ?_
      refine g_get (C := RX11) (T := TX11) (N := 11) (ci := 11) (v := .ref d0) FC hKn hP i_X11 0 rfl rfl 1 (by decide) b_310 rfl dX11_count_125 ?_
      refine g_getN (C := RX0) (T := TX0) (N := 20) (ci := 0) (v := .int dplans) FC hKn hP i_X0 1 rfl rfl 8 (by decide) b_600 rfl dX11_count_128 ?_
      exact rt_i FX ((fun k => match k with | 0 => dplans | _ => 0), (fun _ => fun _ => 0), (fun _ => fun _ => 0)) rfl trivial (hP.sub [0, 1, 2, 3, 4, 5, 6, 7, 8, 9, 10] rfl) (hD.sub [0, 1, 2, 3, 4, 5, 6, 7, 8, 9, 10] (by decide +kernel) rfl) hS (Nat.le_of_ble_eq_true rfl) (Nat.le_of_ble_eq_true rfl) dX11_count_131
    · obtain rfl : p1 = 8 := Int32.toInt_inj.mp (hv.trans (by decide))
      refine lv_tableIn (tgt := 132) (off := 131) hx hb dX11_count_1 (by decide) (by decide) (by decide) (by decide) ?_
      refine lv_aload_n hx hb dX11_count_132 rfl (lv_at hl 0 rfl) ?_
      refine g_get (C := RX11) (T := TX11) (N := 11) (ci := 11) (v := .ref d0) FC hKn hP i_X11 0 rfl rfl 1 (by decide) b_310 rfl dX11_count_133 ?_
      refine g_getN (C := RX0) (T := TX0) (N := 20) (ci := 0) (v := .int dnews) FC hKn hP i_X0 1 rfl rfl 9 (by decide) b_601 rfl dX11_count_136 ?_
      exact rt_i FX ((fun k => match k with | 0 => dnews | _ => 0), (fun _ => fun _ => 0), (fun _ => fun _ => 0)) rfl trivial (hP.sub [0, 1, 2, 3, 4, 5, 6, 7, 8, 9, 10] rfl) (hD.sub [0, 1, 2, 3, 4, 5, 6, 7, 8, 9, 10] (by decide +kernel) rfl) hS (Nat.le_of_ble_eq_true rfl) (Nat.le_of_ble_eq_true rfl) dX11_count_139
    · obtain rfl : p1 = 9 := Int32.toInt_inj.mp (hv.trans (by decide))
      refine lv_tableIn (tgt := 140) (off := 139) hx hb dX11_count_1 (by decide) (by decide) (by decide) (by decide) ?_
      refine lv_aload_n hx hb dX11_count_140 rfl (lv_at hl 0 rfl) ?_
      refine g_get (C := RX11) (T := TX11) (N := 11) (ci := 11) (v := .ref d0) FC hKn hP i_X11 0 rfl rfl 1 (by decide) b_310 rfl dX11_count_141 ?_
      refine g_getN (C := RX0) (T := TX0) (N := 20) (ci := 0) (v := .int dlines) FC hKn hP i_X0 1 rfl rfl 5 (by decide) b_602 rfl dX11_count_144 ?_
      exact rt_i FX ((fun k => match k with | 0 => dlines | _ => 0), (fun _ => fun _ => 0), (fun _ => fun _ => 0)) rfl trivial (hP.sub [0, 1, 2, 3, 4, 5, 6, 7, 8, 9, 10] rfl) (hD.sub [0, 1, 2, 3, 4, 5, 6, 7, 8, 9, 10] (by decide +kernel) rfl) hS (Nat.le_of_ble_eq_true rfl) (Nat.le_of_ble_eq_true rfl) dX11_count_147
    · obtain rfl : p1 = 10 := Int32.toInt_inj.mp (hv.trans (by decide))
      refine lv_tableIn (tgt := 148) (off := 147) hx hb dX11_count_1 (by decide) (by decide) (by decide) (by decide) ?_
      refine lv_aload_n hx hb dX11_count_148 rfl (lv_at hl 0 rfl) ?_
      refine g_get (C := RX11) (T := TX11) (N := 11) (ci := 11) (v := .ref rd0) FC hKn hP i_X11 0 rfl rfl 0 (by decide) b_548 rfl dX11_count_149 ?_
      refine g_getN (C := RX1) (T := TX1) (N := 5) (ci := 1) (v := .ref ta0) FC hKn hP i_X1 8 rfl rfl 0 (by decide) b_549 rfl dX11_count_152 ?_
      refine g_getN (C := RX9) (T := TX9) (N := 6) (ci := 9) (v := .int tsize) FC hKn hP i_X9 9 rfl rfl 1 (by decide) b_550 rfl dX11_count_155 ?_
      exact rt_i FX ((fun k => match k with | 0 => tsize | _ => 0), (fun _ => fun _ => 0), (fun _ => fun _ => 0)) rfl trivial (hP.sub [0, 1, 2, 3, 4, 5, 6, 7, 8, 9, 10] rfl) (hD.sub [0, 1, 2, 3, 4, 5, 6, 7, 8, 9, 10] (by decide +kernel) rfl) hS (Nat.le_of_ble_eq_true rfl) (Nat.le_of_ble_eq_true rfl) dX11_count_158
    · obtain rfl : p1 = 11 := Int32.toInt_inj.mp (hv.trans (by decide))
      refine lv_tableIn (tgt := 159) (off := 158) hx hb dX11_count_1 (by decide) (by decide) (by decide) (by decide) ?_
      refine lv_aload_n hx hb dX11_count_159 rfl (lv_at hl 0 rfl) ?_
      refine g_get (C := RX11) (T := TX11) (N := 11) (ci := 11) (v := .ref d0) FC hKn hP i_X11 0 rfl rfl 1 (by decide) b_310 rfl dX11_count_160 ?_
      refine g_getN (C := RX0) (T := TX0) (N := 20) (ci := 0) (v := .ref dr9) FC hKn hP i_X0 1 rfl rfl 19 (by decide) b_603 rfl dX11_count_163 ?_
      refine g_getN (C := RX3) (T := TX3) (N := 4) (ci := 3) (v := .int gsize) FC hKn hP i_X3 7 rfl rfl 3 (by decide) b_604 rfl dX11_count_166 ?_
      exact rt_i FX ((fun k => match k with | 0 => gsize | _ => 0), (fun _ => fun _ => 0), (fun _ => fun _ => 0)) rfl trivial (hP.sub [0, 1, 2, 3, 4, 5, 6, 7, 8, 9, 10] rfl) (hD.sub [0, 1, 2, 3, 4, 5, 6, 7, 8, 9, 10] (by decide +kernel) rfl) hS (Nat.le_of_ble_eq_true rfl) (Nat.le_of_ble_eq_true rfl) dX11_count_169
    · obtain rfl : p1 = 12 := Int32.toInt_inj.mp (hv.trans (by decide))
      refine lv_tableIn (tgt := 170) (off := 169) hx hb dX11_count_1 (by decide) (by decide) (by decide) (by decide) ?_
      refine lv_aload_n hx hb dX11_count_170 rfl (lv_at hl 0 rfl) ?_
      refine call_V (As := []) (rest := []) (wr := [(d0, .inr (0, [.int dstates, .int dreally, .int ddays, .int dheal, .int dleak, .int dlines, .int dhearers, .int dwords, .int dplans, .int dnews, .ref dr0, .ref dr1, .ref dr2, .ref dr3, .ref dr4, .ref dr5, .ref dr6, .ref dr7, .ref dr8, .ref dr9])), (dr9, .inr (3, [.ref gr0, .ref gr1, .ref gr2, .int gsize])), (rd0, .inr (1, [.ref ta0, .ref df0, .int yfault, .int yplace, .int yvalue])), (ta0, .inr (9, [.ref by0, .int tsize, .int tkind, .int tstart, .int tstop, .int tnumber])), (by0, .inl (g.2 1, 900, .inl tbytes))]) FC hKn hZ (k_X11_countRows l g h0 rd0 d0 im0 ig0 rw0 we0 mi0 re0 pl0 ri0 le0 oa0 ob0 oc0 od0 oar0 obr0 ocr0 odr0 oathere oawidth oasize obthere obwidth obsize octhere ocwidth ocsize odthere odwidth odsize (by omega) (by omega) (by omega) (by omega) (by omega) (by omega) (by omega) (by omega) (by omega) (by omega) (by omega) (by omega)) m_yX11_countRows b_605 (ci := 11) rfl rfl rfl hP hD hS hA [0, 2, 3, 4, 5, 6] [1, 7, 8, 9, 10] rfl (by decide) rfl (by decide) (by decide +kernel) rfl hl.1 rfl (Nat.le_of_ble_eq_true rfl) dX11_count_171 ⟨(Nat.le_of_ble_eq_true rfl), (Nat.le_of_ble_eq_true rfl)⟩ ⟨(Nat.le_of_ble_eq_true rfl), (Nat.le_of_ble_eq_true rfl)⟩ (fun u2 H locs q3 hP hD hS => ?_)
      have q3_0 : 0 ≤ (u2.1 0).toInt ∧ (u2.1 0).toInt ≤ 4 := q3
      have hP : va_P g.1 vwCl [(d0, .inr (0, [.int dstates, .int dreally, .int ddays, .int dheal, .int dleak, .int dlines, .int dhearers, .int dwords, .int dplans, .int dnews, .ref dr0, .ref dr1, .ref dr2, .ref dr3, .ref dr4, .ref dr5, .ref dr6, .ref dr7, .ref dr8, .ref dr9])), (dr9, .inr (3, [.ref gr0, .ref gr1, .ref gr2, .int gsize])), (rd0, .inr (1, [.ref ta0, .ref df0, .int yfault, .int yplace, .int yvalue])), (ta0, .inr (9, [.ref by0, .int tsize, .int tkind, .int tstart, .int tstop, .int tnumber])), (by0, .inl (g.2 1, 900, .inl tbytes)), (h0, .inr (11, [.ref rd0, .ref d0, .ref im0, .ref ig0, .ref rw0, .ref we0, .ref mi0, .ref re0, .ref pl0, .ref ri0, .ref le0])), (rw0, .inl (g.2 5, 4, .inr (.inr (.inr (.inr (va_up (va_up (va_up (va_up (fun _ => none) 0 (some oa0)) 1 (some ob0)) 2 (some oc0)) 3 (some od0))))))), (oa0, .inr (8, [.ref oar0, .int oathere, .int oawidth, .int oasize])), (ob0, .inr (8, [.ref obr0, .int obthere, .int obwidth, .int obsize])), (oc0, .inr (8, [.ref ocr0, .int octhere, .int ocwidth, .int ocsize])), (od0, .inr (8, [.ref odr0, .int odthere, .int odwidth, .int odsize]))] H := hP
      have hD : va_D A [(d0, .inr (0, [.int dstates, .int dreally, .int ddays, .int dheal, .int dleak, .int dlines, .int dhearers, .int dwords, .int dplans, .int dnews, .ref dr0, .ref dr1, .ref dr2, .ref dr3, .ref dr4, .ref dr5, .ref dr6, .ref dr7, .ref dr8, .ref dr9])), (dr9, .inr (3, [.ref gr0, .ref gr1, .ref gr2, .int gsize])), (rd0, .inr (1, [.ref ta0, .ref df0, .int yfault, .int yplace, .int yvalue])), (ta0, .inr (9, [.ref by0, .int tsize, .int tkind, .int tstart, .int tstop, .int tnumber])), (by0, .inl (g.2 1, 900, .inl tbytes)), (h0, .inr (11, [.ref rd0, .ref d0, .ref im0, .ref ig0, .ref rw0, .ref we0, .ref mi0, .ref re0, .ref pl0, .ref ri0, .ref le0])), (rw0, .inl (g.2 5, 4, .inr (.inr (.inr (.inr (va_up (va_up (va_up (va_up (fun _ => none) 0 (some oa0)) 1 (some ob0)) 2 (some oc0)) 3 (some od0))))))), (oa0, .inr (8, [.ref oar0, .int oathere, .int oawidth, .int oasize])), (ob0, .inr (8, [.ref obr0, .int obthere, .int obwidth, .int obsize])), (oc0, .inr (8, [.ref ocr0, .int octhere, .int ocwidth, .int ocsize])), (od0, .inr (8, [.ref odr0, .int odthere, .int odwidth, .int odsize]))] := hD
      refine W.eq (g2 := F0 m 174 ls [.int (u2.1 0)]) rfl ?_
      exact rt_i FX ((fun k => match k with | 0 => u2.1 0 | _ => 0), (fun _ => fun _ => 0), (fun _ => fun _ => 0)) rfl trivial (hP.sub [5, 0, 6, 7, 8, 9, 10, 1, 2, 3, 4] rfl) (hD.sub [5, 0, 6, 7, 8, 9, 10, 1, 2, 3, 4] (by decide +kernel) rfl) hS (Nat.le_of_ble_eq_true rfl) (Nat.le_of_ble_eq_true rfl) dX11_count_174
