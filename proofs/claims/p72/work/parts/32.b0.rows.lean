set_option maxRecDepth 100000 in
set_option maxHeartbeats 4000000 in
theorem c_X11_evenSquares (l : Launch) (g : GG) (p0 : Int32) (p1 : Int32) (hn : 1 ≤ p1.toInt) : Ct l g yX11_evenSquares cX11_evenSquares 4 (some .int) { frames := 0, cells := 0, slots := 0, locals := 0 } [.int p0, .int p1] [] (S := Unit) (fun _ => some (.int (evF p0 p1))) (fun _ => True) (fun u => []) := by
  refine Ct.of (by decide) (Nat.le_of_ble_eq_true rfl) ?_
  intro p e s m below meth c A ls FX hP hD hS hl
  obtain ⟨FC, hr, hlk, hKn, hA, hnm, hZ⟩ := id FX
  have FC : CallFix p m c cX11_evenSquares 4 s _ BIG RX11 := FC
  obtain ⟨hx, hb, hml, hown, hB⟩ := id FC
  have hl : lv_has ls 4 [(0, .int p0), (1, .int p1)] := hl
  have hne : ¬ p1 = 0 := fun q => by rw [q] at hn; exact absurd hn (by decide)
  refine lv_iload_n hx hb dX11_evenSquares_0 rfl (lv_at hl 1 rfl) ?_
  refine lv_iconst (v := 1) hx hb dX11_evenSquares_1 (by decide) ?_
  refine lv_icmp_ge (tgt := 7) hx hb dX11_evenSquares_2 (by decide) (fun c1 => ?_) (fun c1 => ?_)
  · have c1 := k_le (a := 1) (b := p1.toInt) (by decide) rfl c1
    refine lv_iload_n hx hb dX11_evenSquares_7 rfl (lv_at hl 0 rfl) ?_
    refine lv_iload_n hx hb dX11_evenSquares_8 rfl (lv_at hl 1 rfl) ?_
    refine lv_idiv hx hb dX11_evenSquares_9 hne ?_
    refine W.eq (g2 := F0 m 10 ls [.int (p0 / p1)]) rfl ?_
    refine lv_istore_n (lv' := [(2, .int (p0 / p1)), (0, .int p0), (1, .int p1)]) hx hb dX11_evenSquares_10 rfl hl (by decide) rfl (fun ls hl => ?_)
    refine lv_iload_n hx hb dX11_evenSquares_11 rfl (lv_at hl 1 rfl) ?_
    refine lv_iload_n hx hb dX11_evenSquares_12 rfl (lv_at hl 2 rfl) ?_
    refine lv_irem hx hb dX11_evenSquares_13 hne ?_
    refine W.eq (g2 := F0 m 14 ls [.int (p0 - p0 / p1 * p1)]) rfl ?_
    refine lv_istore_n (lv' := [(3, .int (p0 - p0 / p1 * p1)), (2, .int (p0 / p1)), (0, .int p0), (1, .int p1)]) hx hb dX11_evenSquares_14 rfl hl (by decide) rfl (fun ls hl => ?_)
    refine lv_iload_n hx hb dX11_evenSquares_15 rfl (lv_at hl 0 rfl) ?_
    refine lv_iload_n hx hb dX11_evenSquares_16 rfl (lv_at hl 1 rfl) ?_
    refine lv_iconst (v := 1) hx hb dX11_evenSquares_17 (by decide) ?_
    refine lv_iadd hx hb dX11_evenSquares_18 ?_
    refine lv_imul hx hb dX11_evenSquares_19 ?_
    refine lv_iload_n hx hb dX11_evenSquares_20 rfl (lv_at hl 1 rfl) ?_
    refine lv_iconst (v := 1) hx hb dX11_evenSquares_21 (by decide) ?_
    refine lv_iadd hx hb dX11_evenSquares_22 ?_
    refine lv_imul hx hb dX11_evenSquares_23 ?_
    refine lv_iload_n hx hb dX11_evenSquares_24 rfl (lv_at hl 3 rfl) ?_
    refine lv_iload_n hx hb dX11_evenSquares_25 rfl (lv_at hl 0 rfl) ?_
    refine lv_isub hx hb dX11_evenSquares_26 ?_
    refine lv_iload_n hx hb dX11_evenSquares_27 rfl (lv_at hl 1 rfl) ?_
    refine lv_imul hx hb dX11_evenSquares_28 ?_
    refine lv_iload_n hx hb dX11_evenSquares_29 rfl (lv_at hl 1 rfl) ?_
    refine lv_imul hx hb dX11_evenSquares_30 ?_
    refine lv_iadd hx hb dX11_evenSquares_31 ?_
    exact rt_i FX () (congrArg (fun z => some (Value.int z)) (show ((((p0 - p0 / p1 * p1) * ((p0 / p1) + 1)) * ((p0 / p1) + 1)) + (((p1 - (p0 - p0 / p1 * p1)) * (p0 / p1)) * (p0 / p1)) : Int32) = _ from rfl)) trivial (hP.sub [] rfl) (hD.sub [] (by decide) rfl) hS (Nat.le_of_ble_eq_true rfl) (Nat.le_of_ble_eq_true rfl) dX11_evenSquares_32
  · have c1 := k_nle (a := 1) (b := p1.toInt) (by decide) rfl c1
    exfalso; omega
set_option maxRecDepth 100000 in
set_option maxHeartbeats 4000000 in
theorem c_X11_even (l : Launch) (g : GG) (h0 : Nat) (rd0 : Nat) (d0 : Nat) (im0 : Nat) (ig0 : Nat) (rw0 : Nat) (we0 : Nat) (mi0 : Nat) (re0 : Nat) (pl0 : Nat) (ri0 : Nat) (le0 : Nat) (p1 : Int32) (p2 : Int32) : Ct l g yX11_even cX11_even 3 (some .int) { frames := 1, cells := 0, slots := 0, locals := 23 } [.ref h0, .int p1, .int p2] [(h0, .inr (11, [.ref rd0, .ref d0, .ref im0, .ref ig0, .ref rw0, .ref we0, .ref mi0, .ref re0, .ref pl0, .ref ri0, .ref le0]))] (S := Unit) (fun _ => some (.int (sp_even p1 p2))) (fun _ => True) (fun u => [(h0, .inr (11, [.ref rd0, .ref d0, .ref im0, .ref ig0, .ref rw0, .ref we0, .ref mi0, .ref re0, .ref pl0, .ref ri0, .ref le0]))]) := by
  refine Ct.of (by decide) (Nat.le_of_ble_eq_true rfl) ?_
  intro p e s m below meth c A ls FX hP hD hS hl
  obtain ⟨FC, hr, hlk, hKn, hA, hnm, hZ⟩ := id FX
  have FC : CallFix p m c cX11_even 3 s _ BIG RX11 := FC
  obtain ⟨hx, hb, hml, hown, hB⟩ := id FC
  have hl : lv_has ls 3 [(0, .ref h0), (1, .int p1), (2, .int p2)] := hl
  refine lv_iload_n hx hb dX11_even_0 rfl (lv_at hl 1 rfl) ?_
  refine lv_if_lt (tgt := 22) hx hb dX11_even_1 (by decide) (fun c1 => ?_) (fun c1 => ?_)
  · have c1 := k_lt (a := p1.toInt) (b := 0) rfl (by decide) c1
    refine lv_bipush (v := -2) hx hb dX11_even_22 (by decide) ?_
    exact rt_i FX () (congrArg (fun z => some (Value.int z)) (show (-2 : Int32) = _ from by first | decide | (unfold sp_even; (repeat' split) <;> first | rfl | (exfalso; omega)))) trivial (hP.sub [0] rfl) (hD.sub [0] (by decide) rfl) hS (Nat.le_of_ble_eq_true rfl) (Nat.le_of_ble_eq_true rfl) dX11_even_24
  · have c1 := k_nlt (a := p1.toInt) (b := 0) rfl (by decide) c1
    refine lv_iload_n hx hb dX11_even_4 rfl (lv_at hl 1 rfl) ?_
    refine lv_sipush (v := 10000) hx hb dX11_even_5 (by decide) ?_
    refine lv_icmp_gt (tgt := 22) hx hb dX11_even_8 (by decide) (fun c2 => ?_) (fun c2 => ?_)
    · have c2 := k_lt (a := 10000) (b := p1.toInt) (by decide) rfl c2
      refine lv_bipush (v := -2) hx hb dX11_even_22 (by decide) ?_
      exact rt_i FX () (congrArg (fun z => some (Value.int z)) (show (-2 : Int32) = _ from by first | decide | (unfold sp_even; (repeat' split) <;> first | rfl | (exfalso; omega)))) trivial (hP.sub [0] rfl) (hD.sub [0] (by decide) rfl) hS (Nat.le_of_ble_eq_true rfl) (Nat.le_of_ble_eq_true rfl) dX11_even_24
    · have c2 := k_nlt (a := 10000) (b := p1.toInt) (by decide) rfl c2
      refine lv_iload_n hx hb dX11_even_11 rfl (lv_at hl 2 rfl) ?_
      refine lv_iconst (v := 1) hx hb dX11_even_12 (by decide) ?_
      refine lv_icmp_lt (tgt := 22) hx hb dX11_even_13 (by decide) (fun c3 => ?_) (fun c3 => ?_)
      · have c3 := k_lt (a := p2.toInt) (b := 1) rfl (by decide) c3
        refine lv_bipush (v := -2) hx hb dX11_even_22 (by decide) ?_
        exact rt_i FX () (congrArg (fun z => some (Value.int z)) (show (-2 : Int32) = _ from by first | decide | (unfold sp_even; (repeat' split) <;> first | rfl | (exfalso; omega)))) trivial (hP.sub [0] rfl) (hD.sub [0] (by decide) rfl) hS (Nat.le_of_ble_eq_true rfl) (Nat.le_of_ble_eq_true rfl) dX11_even_24
      · have c3 := k_nlt (a := p2.toInt) (b := 1) rfl (by decide) c3
        refine lv_iload_n hx hb dX11_even_16 rfl (lv_at hl 2 rfl) ?_
        refine lv_bipush (v := 100) hx hb dX11_even_17 (by decide) ?_
        refine lv_icmp_le (tgt := 25) hx hb dX11_even_19 (by decide) (fun c4 => ?_) (fun c4 => ?_)
        · have c4 := k_le (a := p2.toInt) (b := 100) rfl (by decide) c4
          refine lv_iload_n hx hb dX11_even_25 rfl (lv_at hl 1 rfl) ?_
          refine lv_iload_n hx hb dX11_even_26 rfl (lv_at hl 2 rfl) ?_
          refine call_S (As := [.int p1, .int p2]) (rest := []) (wr := [(h0, .inr (11, [.ref rd0, .ref d0, .ref im0, .ref ig0, .ref rw0, .ref we0, .ref mi0, .ref re0, .ref pl0, .ref ri0, .ref le0]))]) FC hKn hZ (c_X11_evenSquares l g p1 p2 (show 1 ≤ p2.toInt by omega)) m_yX11_evenSquares b_593 hP hD hS hA [] [0] rfl (by decide) rfl (by decide) (by decide) rfl hl.1 rfl (Nat.le_of_ble_eq_true rfl) dX11_even_27 ⟨(Nat.le_of_ble_eq_true rfl), (Nat.le_of_ble_eq_true rfl)⟩ ⟨(Nat.le_of_ble_eq_true rfl), (Nat.le_of_ble_eq_true rfl)⟩ (fun u5 H locs _ hP hD hS => ?_)
          have hP : va_P g.1 vwCl [(h0, .inr (11, [.ref rd0, .ref d0, .ref im0, .ref ig0, .ref rw0, .ref we0, .ref mi0, .ref re0, .ref pl0, .ref ri0, .ref le0]))] H := hP
          have hD : va_D A [(h0, .inr (11, [.ref rd0, .ref d0, .ref im0, .ref ig0, .ref rw0, .ref we0, .ref mi0, .ref re0, .ref pl0, .ref ri0, .ref le0]))] := hD
          refine W.eq (g2 := F0 m 30 ls [.int (evF p1 p2)]) rfl ?_
          exact rt_i FX () (congrArg (fun z => some (Value.int z)) (show (evF p1 p2 : Int32) = _ from by first | decide | (unfold sp_even; (repeat' split) <;> first | rfl | (exfalso; omega)))) trivial (hP.sub [0] rfl) (hD.sub [0] (by decide) rfl) hS (Nat.le_of_ble_eq_true rfl) (Nat.le_of_ble_eq_true rfl) dX11_even_30
        · have c4 := k_nle (a := p2.toInt) (b := 100) rfl (by decide) c4
          refine lv_bipush (v := -2) hx hb dX11_even_22 (by decide) ?_
          exact rt_i FX () (congrArg (fun z => some (Value.int z)) (show (-2 : Int32) = _ from by first | decide | (unfold sp_even; (repeat' split) <;> first | rfl | (exfalso; omega)))) trivial (hP.sub [0] rfl) (hD.sub [0] (by decide) rfl) hS (Nat.le_of_ble_eq_true rfl) (Nat.le_of_ble_eq_true rfl) dX11_even_24
set_option maxRecDepth 100000 in
set_option maxHeartbeats 4000000 in
theorem c_X11_steps (l : Launch) (g : GG) (h0 : Nat) (rd0 : Nat) (d0 : Nat) (im0 : Nat) (ig0 : Nat) (rw0 : Nat) (we0 : Nat) (mi0 : Nat) (re0 : Nat) (pl0 : Nat) (ri0 : Nat) (le0 : Nat) (p1 : Int32) (p2 : Int32) : Ct l g yX11_steps cX11_steps 7 (some .int) { frames := 1, cells := 0, slots := 0, locals := 23 } [.ref h0, .int p1, .int p2] [(h0, .inr (11, [.ref rd0, .ref d0, .ref im0, .ref ig0, .ref rw0, .ref we0, .ref mi0, .ref re0, .ref pl0, .ref ri0, .ref le0]))] (S := Unit) (fun _ => some (.int (sp_steps p1 p2))) (fun _ => True) (fun u => [(h0, .inr (11, [.ref rd0, .ref d0, .ref im0, .ref ig0, .ref rw0, .ref we0, .ref mi0, .ref re0, .ref pl0, .ref ri0, .ref le0]))]) := by
  refine Ct.of (by decide) (Nat.le_of_ble_eq_true rfl) ?_
  intro p e s m below meth c A ls FX hP hD hS hl
  obtain ⟨FC, hr, hlk, hKn, hA, hnm, hZ⟩ := id FX
  have FC : CallFix p m c cX11_steps 7 s _ BIG RX11 := FC
  obtain ⟨hx, hb, hml, hown, hB⟩ := id FC
  have hl : lv_has ls 7 [(0, .ref h0), (1, .int p1), (2, .int p2)] := hl
  refine lv_iload_n hx hb dX11_steps_0 rfl (lv_at hl 1 rfl) ?_
  refine lv_if_lt (tgt := 22) hx hb dX11_steps_1 (by decide) (fun c1 => ?_) (fun c1 => ?_)
  · have c1 := k_lt (a := p1.toInt) (b := 0) rfl (by decide) c1
    refine lv_bipush (v := -2) hx hb dX11_steps_22 (by decide) ?_
    exact rt_i FX () (congrArg (fun z => some (Value.int z)) (show (-2 : Int32) = sp_steps p1 p2 from (by unfold sp_steps; rw [if_neg (fun q => by omega)]))) trivial (hP.sub [0] rfl) (hD.sub [0] (by decide) rfl) hS (Nat.le_of_ble_eq_true rfl) (Nat.le_of_ble_eq_true rfl) dX11_steps_24
  · have c1 := k_nlt (a := p1.toInt) (b := 0) rfl (by decide) c1
    refine lv_iload_n hx hb dX11_steps_4 rfl (lv_at hl 1 rfl) ?_
    refine lv_sipush (v := 10000) hx hb dX11_steps_5 (by decide) ?_
    refine lv_icmp_gt (tgt := 22) hx hb dX11_steps_8 (by decide) (fun c2 => ?_) (fun c2 => ?_)
    · have c2 := k_lt (a := 10000) (b := p1.toInt) (by decide) rfl c2
      refine lv_bipush (v := -2) hx hb dX11_steps_22 (by decide) ?_
      exact rt_i FX () (congrArg (fun z => some (Value.int z)) (show (-2 : Int32) = sp_steps p1 p2 from (by unfold sp_steps; rw [if_neg (fun q => by omega)]))) trivial (hP.sub [0] rfl) (hD.sub [0] (by decide) rfl) hS (Nat.le_of_ble_eq_true rfl) (Nat.le_of_ble_eq_true rfl) dX11_steps_24
    · have c2 := k_nlt (a := 10000) (b := p1.toInt) (by decide) rfl c2
      refine lv_iload_n hx hb dX11_steps_11 rfl (lv_at hl 2 rfl) ?_
      refine lv_if_lt (tgt := 22) hx hb dX11_steps_12 (by decide) (fun c3 => ?_) (fun c3 => ?_)
      · have c3 := k_lt (a := p2.toInt) (b := 0) rfl (by decide) c3
        refine lv_bipush (v := -2) hx hb dX11_steps_22 (by decide) ?_
        exact rt_i FX () (congrArg (fun z => some (Value.int z)) (show (-2 : Int32) = sp_steps p1 p2 from (by unfold sp_steps; rw [if_neg (fun q => by omega)]))) trivial (hP.sub [0] rfl) (hD.sub [0] (by decide) rfl) hS (Nat.le_of_ble_eq_true rfl) (Nat.le_of_ble_eq_true rfl) dX11_steps_24
      · have c3 := k_nlt (a := p2.toInt) (b := 0) rfl (by decide) c3
        refine lv_iload_n hx hb dX11_steps_15 rfl (lv_at hl 2 rfl) ?_
        refine lv_ldcw hx hb hown (hB _ b_594) dX11_steps_16 ?_
        refine lv_icmp_le (tgt := 25) hx hb dX11_steps_19 (by decide) (fun c4 => ?_) (fun c4 => ?_)
        · have c4 := k_le (a := p2.toInt) (b := 100000) rfl (by decide) c4
          refine lv_iconst (v := 1) hx hb dX11_steps_25 (by decide) ?_
          refine lv_istore_n (lv' := [(3, .int 1), (0, .ref h0), (1, .int p1), (2, .int p2)]) hx hb dX11_steps_26 rfl hl (by decide) rfl (fun ls hl => ?_)
          refine lv_ldc hx hb hown (hB _ b_407) dX11_steps_27 ?_
          refine lv_istore (lv' := [(4, .int 1000000000), (3, .int 1), (0, .ref h0), (1, .int p1), (2, .int p2)]) hx hb dX11_steps_29 hl (by decide) rfl (fun ls hl => ?_)
          refine lv_iconst (v := 1) hx hb dX11_steps_31 (by decide) ?_
          refine lv_istore (lv' := [(5, .int 1), (4, .int 1000000000), (3, .int 1), (0, .ref h0), (1, .int p1), (2, .int p2)]) hx hb dX11_steps_32 hl (by decide) rfl (fun ls hl => ?_)
          refine lv_iload hx hb dX11_steps_34 (lv_at hl 0 rfl) ?_
          refine lv_bipush (v := 100) hx hb dX11_steps_36 (by decide) ?_
          refine lv_icmp_gt (tgt := 74) hx hb dX11_steps_38 (by decide) (fun h => absurd h (by decide)) (fun _ => ?_)
          refine lv_iload_n hx hb dX11_steps_41 rfl (lv_at hl 4 rfl) ?_
          refine lv_iload hx hb dX11_steps_42 (lv_at hl 0 rfl) ?_
          refine call_S (As := [.int p1, .int 1]) (rest := []) (wr := [(h0, .inr (11, [.ref rd0, .ref d0, .ref im0, .ref ig0, .ref rw0, .ref we0, .ref mi0, .ref re0, .ref pl0, .ref ri0, .ref le0]))]) FC hKn hZ (c_X11_evenSquares l g p1 1 (by decide)) m_yX11_evenSquares b_593 hP hD hS hA [] [0] rfl (by decide) rfl (by decide) (by decide) rfl hl.1 rfl (Nat.le_of_ble_eq_true rfl) dX11_steps_44 ⟨(Nat.le_of_ble_eq_true rfl), (Nat.le_of_ble_eq_true rfl)⟩ ⟨(Nat.le_of_ble_eq_true rfl), (Nat.le_of_ble_eq_true rfl)⟩ (fun u5 H locs _ hP hD hS => ?_)
          have hP : va_P g.1 vwCl [(h0, .inr (11, [.ref rd0, .ref d0, .ref im0, .ref ig0, .ref rw0, .ref we0, .ref mi0, .ref re0, .ref pl0, .ref ri0, .ref le0]))] H := hP
          have hD : va_D A [(h0, .inr (11, [.ref rd0, .ref d0, .ref im0, .ref ig0, .ref rw0, .ref we0, .ref mi0, .ref re0, .ref pl0, .ref ri0, .ref le0]))] := hD
          refine W.eq (g2 := F0 m 47 ls [.int (evF p1 1)]) rfl ?_
          refine lv_iload_n hx hb dX11_steps_47 rfl (lv_at hl 5 rfl) ?_
          refine lv_iload hx hb dX11_steps_48 (lv_at hl 0 rfl) ?_
          refine lv_imul hx hb dX11_steps_50 ?_
          refine lv_iadd hx hb dX11_steps_51 ?_
          refine lv_istore (lv' := [(6, .int ((evF p1 1) + (p2 * 1))), (5, .int 1), (4, .int 1000000000), (3, .int 1), (0, .ref h0), (1, .int p1), (2, .int p2)]) hx hb dX11_steps_52 hl (by decide) rfl (fun ls hl => ?_)
          refine lv_iload hx hb dX11_steps_54 (lv_at hl 0 rfl) ?_
          refine lv_iload hx hb dX11_steps_56 (lv_at hl 2 rfl) ?_
          refine lv_icmp_ge (tgt := 68) hx hb dX11_steps_58 (by decide) (fun c6 => ?_) (fun c6 => ?_)
          · have c6 := k_le (a := 1000000000) (b := (cst p1 p2 1).toInt) (by decide) rfl c6
            have h9 := cst1 (a := p1) (q := p2) (by omega) (by omega) (by omega) (by omega)
            exfalso; omega
          · skip
            refine lv_iload hx hb dX11_steps_61 (lv_at hl 0 rfl) ?_
            refine lv_istore (lv' := [(4, .int ((evF p1 1) + (p2 * 1))), (6, .int ((evF p1 1) + (p2 * 1))), (5, .int 1), (3, .int 1), (0, .ref h0), (1, .int p1), (2, .int p2)]) hx hb dX11_steps_63 hl (by decide) rfl (fun ls hl => ?_)
            refine lv_iload hx hb dX11_steps_65 (lv_at hl 2 rfl) ?_
            refine lv_istore_n (lv' := [(3, .int 1), (4, .int ((evF p1 1) + (p2 * 1))), (6, .int ((evF p1 1) + (p2 * 1))), (5, .int 1), (0, .ref h0), (1, .int p1), (2, .int p2)]) hx hb dX11_steps_67 rfl hl (by decide) rfl (fun ls hl => ?_)
            refine lv_iinc (v := 2) (lv' := [(5, .int 2), (3, .int 1), (4, .int ((evF p1 1) + (p2 * 1))), (6, .int ((evF p1 1) + (p2 * 1))), (0, .ref h0), (1, .int p1), (2, .int p2)]) hx hb dX11_steps_68 hl (k := 3) rfl (by decide) (by decide) rfl (fun ls hl => ?_)
            refine lv_goto (tgt := 34) hx hb dX11_steps_71 (by decide) ?_
            have lp : ∀ (n k : Nat) (H : Heap) (locs : List Loc) (ls : Array Slot), k ≤ 99 → 99 < k + n → va_P g.1 vwCl [(h0, .inr (11, [.ref rd0, .ref d0, .ref im0, .ref ig0, .ref rw0, .ref we0, .ref mi0, .ref re0, .ref pl0, .ref ri0, .ref le0]))] H → va_D A [(h0, .inr (11, [.ref rd0, .ref d0, .ref im0, .ref ig0, .ref rw0, .ref we0, .ref mi0, .ref re0, .ref pl0, .ref ri0, .ref le0]))] → va_S A s.heap H locs → lv_has ls 7 [(5, .int (nI (k + 2))), (3, .int (bst p1 p2 k)), (4, .int (cst p1 p2 (bst p1 p2 k))), (0, .ref h0), (1, .int p1), (2, .int p2)] → W p l e { frames := 1, cells := 0, slots := 0, locals := 23 } s m ([.ref h0, .int p1, .int p2].toArray) below meth c H locs 0 0 (MQ below (QX (S := Unit) (fun _ => some (.int (sp_steps p1 p2))) (fun _ => True) g (fun u => [(h0, .inr (11, [.ref rd0, .ref d0, .ref im0, .ref ig0, .ref rw0, .ref we0, .ref mi0, .ref re0, .ref pl0, .ref ri0, .ref le0]))]) A) ([.ref h0, .int p1, .int p2].toArray) s 0 0 A) (F0 m 34 ls []) := by
              intro n
              induction n with
              | zero =>
                intro k H locs ls hi hn
                exact absurd hn (by omega)
              | succ n ih =>
                intro k H locs ls hi hn hP hD hS hl
                refine lv_iload hx hb dX11_steps_34 (lv_at hl 0 rfl) ?_
                refine lv_bipush (v := 100) hx hb dX11_steps_36 (by decide) ?_
                refine lv_icmp_gt (tgt := 74) hx hb dX11_steps_38 (by decide) (fun c7 => ?_) (fun c7 => ?_)
                · have c7 := k_lt (a := 100) (b := ((k + 2 : Nat) : Int)) (by decide) (nI_toInt (by omega)) c7
                  refine lv_iload_n hx hb dX11_steps_74 rfl (lv_at hl 1 rfl) ?_
                  exact rt_i FX () (congrArg (fun z => some (Value.int z)) (show bst p1 p2 k = sp_steps p1 p2 from (by have hk9 : k = 99 := (by omega); rw [hk9]; unfold sp_steps; rw [if_pos ⟨⟨by omega, by omega⟩, by omega, by omega⟩]))) trivial (hP.sub [0] rfl) (hD.sub [0] (by decide) rfl) hS (Nat.le_of_ble_eq_true rfl) (Nat.le_of_ble_eq_true rfl) dX11_steps_75
                · have c7 := k_nlt (a := 100) (b := ((k + 2 : Nat) : Int)) (by decide) (nI_toInt (by omega)) c7
                  refine lv_iload_n hx hb dX11_steps_41 rfl (lv_at hl 4 rfl) ?_
                  refine lv_iload hx hb dX11_steps_42 (lv_at hl 0 rfl) ?_
                  refine call_S (As := [.int p1, .int (nI (k + 2))]) (rest := []) (wr := [(h0, .inr (11, [.ref rd0, .ref d0, .ref im0, .ref ig0, .ref rw0, .ref we0, .ref mi0, .ref re0, .ref pl0, .ref ri0, .ref le0]))]) FC hKn hZ (c_X11_evenSquares l g p1 (nI (k + 2)) (show 1 ≤ (nI (k + 2)).toInt by rw [nI_toInt (by omega)]; omega)) m_yX11_evenSquares b_593 hP hD hS hA [] [0] rfl (by decide) rfl (by decide) (by decide) rfl hl.1 rfl (Nat.le_of_ble_eq_true rfl) dX11_steps_44 ⟨(Nat.le_of_ble_eq_true rfl), (Nat.le_of_ble_eq_true rfl)⟩ ⟨(Nat.le_of_ble_eq_true rfl), (Nat.le_of_ble_eq_true rfl)⟩ (fun u8 H locs _ hP hD hS => ?_)
                  have hP : va_P g.1 vwCl [(h0, .inr (11, [.ref rd0, .ref d0, .ref im0, .ref ig0, .ref rw0, .ref we0, .ref mi0, .ref re0, .ref pl0, .ref ri0, .ref le0]))] H := hP
                  have hD : va_D A [(h0, .inr (11, [.ref rd0, .ref d0, .ref im0, .ref ig0, .ref rw0, .ref we0, .ref mi0, .ref re0, .ref pl0, .ref ri0, .ref le0]))] := hD
                  refine W.eq (g2 := F0 m 47 ls [.int (evF p1 (nI (k + 2)))]) rfl ?_
                  refine lv_iload_n hx hb dX11_steps_47 rfl (lv_at hl 5 rfl) ?_
                  refine lv_iload hx hb dX11_steps_48 (lv_at hl 0 rfl) ?_
                  refine lv_imul hx hb dX11_steps_50 ?_
                  refine lv_iadd hx hb dX11_steps_51 ?_
                  refine lv_istore (lv' := [(6, .int ((evF p1 (nI (k + 2))) + (p2 * (nI (k + 2))))), (5, .int (nI (k + 2))), (3, .int (bst p1 p2 k)), (4, .int (cst p1 p2 (bst p1 p2 k))), (0, .ref h0), (1, .int p1), (2, .int p2)]) hx hb dX11_steps_52 hl (by decide) rfl (fun ls hl => ?_)
                  refine lv_iload hx hb dX11_steps_54 (lv_at hl 0 rfl) ?_
                  refine lv_iload hx hb dX11_steps_56 (lv_at hl 3 rfl) ?_
                  refine lv_icmp_ge (tgt := 68) hx hb dX11_steps_58 (by decide) (fun c9 => ?_) (fun c9 => ?_)
                  · have c9 := k_le (a := (cst p1 p2 (bst p1 p2 k)).toInt) (b := ((evF p1 (nI (k + 2))) + (p2 * (nI (k + 2)))).toInt) rfl rfl c9
                    refine lv_iinc (v := nI (k + 2 + 1)) (lv' := [(5, .int (nI (k + 2 + 1))), (6, .int ((evF p1 (nI (k + 2))) + (p2 * (nI (k + 2))))), (3, .int (bst p1 p2 k)), (4, .int (cst p1 p2 (bst p1 p2 k))), (0, .ref h0), (1, .int p1), (2, .int p2)]) hx hb dX11_steps_68 hl (k := 1) rfl (nI_1 _) (by decide) rfl (fun ls hl => ?_)
                    refine lv_goto (tgt := 34) hx hb dX11_steps_71 (by decide) ?_
                    have hb1 : bst p1 p2 (k + 1) = bst p1 p2 k := if_neg (show ¬ (evF p1 (nI (k + 2)) + p2 * nI (k + 2) < cst p1 p2 (bst p1 p2 k)) from fun z => by have z := Int32.lt_iff_toInt_lt.mp z; have c9 : (cst p1 p2 (bst p1 p2 k)).toInt ≤ (evF p1 (nI (k + 2)) + p2 * nI (k + 2)).toInt := c9; omega)
                    exact ih (k + 1) H locs ls (by omega) (by omega) hP hD hS (by rw [hb1]; exact lv_sub hl [0, 2, 3, 4, 5, 6] rfl)
                  · have c9 := k_nle (a := (cst p1 p2 (bst p1 p2 k)).toInt) (b := ((evF p1 (nI (k + 2))) + (p2 * (nI (k + 2)))).toInt) rfl rfl c9
                    refine lv_iload hx hb dX11_steps_61 (lv_at hl 0 rfl) ?_
                    refine lv_istore (lv' := [(4, .int ((evF p1 (nI (k + 2))) + (p2 * (nI (k + 2))))), (6, .int ((evF p1 (nI (k + 2))) + (p2 * (nI (k + 2))))), (5, .int (nI (k + 2))), (3, .int (bst p1 p2 k)), (0, .ref h0), (1, .int p1), (2, .int p2)]) hx hb dX11_steps_63 hl (by decide) rfl (fun ls hl => ?_)
                    refine lv_iload hx hb dX11_steps_65 (lv_at hl 2 rfl) ?_
                    refine lv_istore_n (lv' := [(3, .int (nI (k + 2))), (4, .int ((evF p1 (nI (k + 2))) + (p2 * (nI (k + 2))))), (6, .int ((evF p1 (nI (k + 2))) + (p2 * (nI (k + 2))))), (5, .int (nI (k + 2))), (0, .ref h0), (1, .int p1), (2, .int p2)]) hx hb dX11_steps_67 rfl hl (by decide) rfl (fun ls hl => ?_)
                    refine lv_iinc (v := nI (k + 2 + 1)) (lv' := [(5, .int (nI (k + 2 + 1))), (3, .int (nI (k + 2))), (4, .int ((evF p1 (nI (k + 2))) + (p2 * (nI (k + 2))))), (6, .int ((evF p1 (nI (k + 2))) + (p2 * (nI (k + 2))))), (0, .ref h0), (1, .int p1), (2, .int p2)]) hx hb dX11_steps_68 hl (k := 3) rfl (nI_1 _) (by decide) rfl (fun ls hl => ?_)
                    refine lv_goto (tgt := 34) hx hb dX11_steps_71 (by decide) ?_
                    have hb1 : bst p1 p2 (k + 1) = nI (k + 2) := if_pos (show evF p1 (nI (k + 2)) + p2 * nI (k + 2) < cst p1 p2 (bst p1 p2 k) from Int32.lt_iff_toInt_lt.mpr (by have c9 : (evF p1 (nI (k + 2)) + p2 * nI (k + 2)).toInt < (cst p1 p2 (bst p1 p2 k)).toInt := c9; omega))
                    exact ih (k + 1) H locs ls (by omega) (by omega) hP hD hS (by rw [hb1]; exact lv_sub hl [0, 1, 2, 4, 5, 6] rfl)
            exact lp 100 0 _ _ ls (by omega) (by omega) hP hD hS (lv_sub hl [0, 1, 2, 4, 5, 6] rfl)
        · have c4 := k_nle (a := p2.toInt) (b := 100000) rfl (by decide) c4
          refine lv_bipush (v := -2) hx hb dX11_steps_22 (by decide) ?_
          exact rt_i FX () (congrArg (fun z => some (Value.int z)) (show (-2 : Int32) = sp_steps p1 p2 from (by unfold sp_steps; rw [if_neg (fun q => by omega)]))) trivial (hP.sub [0] rfl) (hD.sub [0] (by decide) rfl) hS (Nat.le_of_ble_eq_true rfl) (Nat.le_of_ble_eq_true rfl) dX11_steps_24
