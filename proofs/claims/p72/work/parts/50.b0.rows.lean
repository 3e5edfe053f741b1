set_option maxRecDepth 100000 in
set_option maxHeartbeats 4000000 in
theorem k_X12_in (l : Launch) (g : GG) (p0 : Int64) (p1 : Int64) (p2 : Int64) : Ct l g yX12_in cX12_in 6 (some .boolean) { frames := 0, cells := 0, slots := 0, locals := 0 } [.long p0, .long p1, .long p2] [] (S := (Nat → Int32) × (Nat → Nat → Int32) × (Nat → Nat → Int64)) (fun u => some (.int (u.1 0))) (fun u => (0 ≤ (u.1 0).toInt ∧ (u.1 0).toInt ≤ 1) ∧ ((u.1 0).toInt = 0 → (p0.toInt < p1.toInt ∨ p2.toInt < p0.toInt)) ∧ ((u.1 0).toInt = 1 → p1.toInt ≤ p0.toInt ∧ p0.toInt ≤ p2.toInt)) (fun u => []) := by
  refine Ct.of (by decide) (Nat.le_of_ble_eq_true rfl) ?_
  intro p e s m below meth c A ls FX hP hD hS hl
  obtain ⟨FC, hr, hlk, hKn, hA, hnm, hZ⟩ := id FX
  have FC : CallFix p m c cX12_in 6 s _ BIG RX12 := FC
  obtain ⟨hx, hb, hml, hown, hB⟩ := id FC
  have hl : lv_has ls 6 [(0, .long p0), (2, .long p1), (4, .long p2)] := hl
  refine lv_lload_n hx hb dX12_in_0 rfl (lv_at hl 0 rfl) ?_
  refine lv_lload_n hx hb dX12_in_1 rfl (lv_at hl 1 rfl) ?_
  refine W.lcmp hx hb dX12_in_2 ?_
  refine lv_if_lt (tgt := 17) hx hb dX12_in_3 (by decide) (fun c1 => ?_) (fun c1 => ?_)
  · have c1 := k_lt (a := (lg_cmp p0 p1).toInt) (b := 0) rfl (by decide) c1
    have c1 := kc_ltT c1
    refine lv_iconst (v := 0) hx hb dX12_in_17 (by decide) ?_
    have kc0 : (0 : Int32).toInt = 0 := by decide
    exact rt_z FX rfl ((fun k => match k with | 0 => (0 : Int32) | _ => 0), (fun _ => fun _ => 0), (fun _ => fun _ => 0)) rfl ⟨(show 0 ≤ ((0 : Int32)).toInt ∧ ((0 : Int32)).toInt ≤ 1 by decide), (show ((0 : Int32)).toInt = 0 → (p0.toInt < p1.toInt ∨ p2.toInt < p0.toInt) by omega), (fun h => absurd h (by decide))⟩ (hP.sub [] rfl) (hD.sub [] (by decide) rfl) hS (Nat.le_of_ble_eq_true rfl) (Nat.le_of_ble_eq_true rfl) dX12_in_18
  · have c1 := k_nlt (a := (lg_cmp p0 p1).toInt) (b := 0) rfl (by decide) c1
    have c1 := kc_ltF c1
    refine lv_lload_n hx hb dX12_in_6 rfl (lv_at hl 0 rfl) ?_
    refine lv_lload hx hb dX12_in_7 (lv_at hl 2 rfl) ?_
    refine W.lcmp hx hb dX12_in_9 ?_
    refine lv_if_gt (tgt := 17) hx hb dX12_in_10 (by decide) (fun c2 => ?_) (fun c2 => ?_)
    · have c2 := k_lt (a := 0) (b := (lg_cmp p0 p2).toInt) (by decide) rfl c2
      have c2 := kc_gtT c2
      refine lv_iconst (v := 0) hx hb dX12_in_17 (by decide) ?_
      have kc0 : (0 : Int32).toInt = 0 := by decide
      exact rt_z FX rfl ((fun k => match k with | 0 => (0 : Int32) | _ => 0), (fun _ => fun _ => 0), (fun _ => fun _ => 0)) rfl ⟨(show 0 ≤ ((0 : Int32)).toInt ∧ ((0 : Int32)).toInt ≤ 1 by decide), (show ((0 : Int32)).toInt = 0 → (p0.toInt < p1.toInt ∨ p2.toInt < p0.toInt) by omega), (fun h => absurd h (by decide))⟩ (hP.sub [] rfl) (hD.sub [] (by decide) rfl) hS (Nat.le_of_ble_eq_true rfl) (Nat.le_of_ble_eq_true rfl) dX12_in_18
    · have c2 := k_nlt (a := 0) (b := (lg_cmp p0 p2).toInt) (by decide) rfl c2
      have c2 := kc_gtF c2
      refine lv_iconst (v := 1) hx hb dX12_in_13 (by decide) ?_
      refine lv_goto (tgt := 18) hx hb dX12_in_14 (by decide) ?_
      have kc1 : (1 : Int32).toInt = 1 := by decide
      exact rt_z FX rfl ((fun k => match k with | 0 => (1 : Int32) | _ => 0), (fun _ => fun _ => 0), (fun _ => fun _ => 0)) rfl ⟨(show 0 ≤ ((1 : Int32)).toInt ∧ ((1 : Int32)).toInt ≤ 1 by decide), (show ((1 : Int32)).toInt = 0 → (p0.toInt < p1.toInt ∨ p2.toInt < p0.toInt) by omega), (fun _ => by omega)⟩ (hP.sub [] rfl) (hD.sub [] (by decide) rfl) hS (Nat.le_of_ble_eq_true rfl) (Nat.le_of_ble_eq_true rfl) dX12_in_18
set_option maxRecDepth 100000 in
set_option maxHeartbeats 4000000 in
theorem k_X12_bits (l : Launch) (g : GG) (p0 : Int32) : Ct l g yX12_bits cX12_bits 3 (some .int) { frames := 0, cells := 0, slots := 0, locals := 0 } [.int p0] [] (S := (Nat → Int32) × (Nat → Nat → Int32) × (Nat → Nat → Int64)) (fun u => some (.int (u.1 0))) (fun u => (p0.toInt = 0 → (u.1 0).toInt = 0) ∧ (1 ≤ p0.toInt ∧ p0.toInt ≤ 255 → 1 ≤ (u.1 0).toInt)) (fun u => []) := by
  refine Ct.of (by decide) (Nat.le_of_ble_eq_true rfl) ?_
  intro p e s m below meth c A ls FX hP hD hS hl
  obtain ⟨FC, hr, hlk, hKn, hA, hnm, hZ⟩ := id FX
  have FC : CallFix p m c cX12_bits 3 s _ BIG RX12 := FC
  obtain ⟨hx, hb, hml, hown, hB⟩ := id FC
  have hl : lv_has ls 3 [(0, .int p0)] := hl
  refine lv_iconst (v := 0) hx hb dX12_bits_0 (by decide) ?_
  refine lv_istore_n (lv' := [(1, .int 0), (0, .int p0)]) hx hb dX12_bits_1 rfl hl (by decide) rfl (fun ls hl => ?_)
  refine lv_iconst (v := 0) hx hb dX12_bits_2 (by decide) ?_
  refine lv_istore_n (lv' := [(2, .int 0), (1, .int 0), (0, .int p0)]) hx hb dX12_bits_3 rfl hl (by decide) rfl (fun ls hl => ?_)
  refine lv_iload_n hx hb dX12_bits_4 rfl (lv_at hl 0 rfl) ?_
  refine lv_bipush (v := 8) hx hb dX12_bits_5 (by decide) ?_
  refine lv_icmp_ge (tgt := 24) hx hb dX12_bits_7 (by decide) (fun h => absurd h (by decide)) (fun _ => ?_)
  refine lv_iload_n hx hb dX12_bits_10 rfl (lv_at hl 1 rfl) ?_
  refine lv_iload_n hx hb dX12_bits_11 rfl (lv_at hl 2 rfl) ?_
  refine lv_iload_n hx hb dX12_bits_12 rfl (lv_at hl 0 rfl) ?_
  refine lv_ishr hx hb dX12_bits_13 ?_
  refine lv_topi (fun z1 e_z1 => ?_)
  refine lv_iconst (v := 1) hx hb dX12_bits_14 (by decide) ?_
  refine lv_iand hx hb dX12_bits_15 ?_
  have kc1 : (1 : Int32).toInt = 1 := by decide
  refine lv_topi (fun z2 e_z2 => ?_)
  have t_z2 : 0 ≤ z2.toInt ∧ z2.toInt ≤ 1 := by rw [e_z2]; exact and_r (by omega) (by omega)
  refine lv_iadd hx hb dX12_bits_16 ?_
  have kc0 : (0 : Int32).toInt = 0 := by decide
  refine lv_topi (fun z3 e_z3 => ?_)
  have t_z3 : z3.toInt = ((0 : Int32)).toInt + z2.toInt := by rw [e_z3]; exact fb_addI (by omega) (by omega)
  refine lv_istore_n (lv' := [(1, .int z3), (2, .int 0), (0, .int p0)]) hx hb dX12_bits_17 rfl hl (by decide) rfl (fun ls hl => ?_)
  refine lv_iinc (v := 1) (lv' := [(2, .int 1), (1, .int z3), (0, .int p0)]) hx hb dX12_bits_18 hl (k := 1) rfl (by decide) (by decide) rfl (fun ls hl => ?_)
  refine lv_goto (tgt := 4) hx hb dX12_bits_21 (by decide) ?_
  refine lv_iload_n hx hb dX12_bits_4 rfl (lv_at hl 0 rfl) ?_
  refine lv_bipush (v := 8) hx hb dX12_bits_5 (by decide) ?_
  refine lv_icmp_ge (tgt := 24) hx hb dX12_bits_7 (by decide) (fun h => absurd h (by decide)) (fun _ => ?_)
  refine lv_iload_n hx hb dX12_bits_10 rfl (lv_at hl 1 rfl) ?_
  refine lv_iload_n hx hb dX12_bits_11 rfl (lv_at hl 2 rfl) ?_
  refine lv_iload_n hx hb dX12_bits_12 rfl (lv_at hl 0 rfl) ?_
  refine lv_ishr hx hb dX12_bits_13 ?_
  refine lv_topi (fun z4 e_z4 => ?_)
  refine lv_iconst (v := 1) hx hb dX12_bits_14 (by decide) ?_
  refine lv_iand hx hb dX12_bits_15 ?_
  refine lv_topi (fun z5 e_z5 => ?_)
  have t_z5 : 0 ≤ z5.toInt ∧ z5.toInt ≤ 1 := by rw [e_z5]; exact and_r (by omega) (by omega)
  refine lv_iadd hx hb dX12_bits_16 ?_
  refine lv_topi (fun z6 e_z6 => ?_)
  have t_z6 : z6.toInt = z3.toInt + z5.toInt := by rw [e_z6]; exact fb_addI (by omega) (by omega)
  refine lv_istore_n (lv' := [(1, .int z6), (2, .int 1), (0, .int p0)]) hx hb dX12_bits_17 rfl hl (by decide) rfl (fun ls hl => ?_)
  refine lv_iinc (v := 2) (lv' := [(2, .int 2), (1, .int z6), (0, .int p0)]) hx hb dX12_bits_18 hl (k := 1) rfl (by decide) (by decide) rfl (fun ls hl => ?_)
  refine lv_goto (tgt := 4) hx hb dX12_bits_21 (by decide) ?_
  refine lv_iload_n hx hb dX12_bits_4 rfl (lv_at hl 0 rfl) ?_
  refine lv_bipush (v := 8) hx hb dX12_bits_5 (by decide) ?_
  refine lv_icmp_ge (tgt := 24) hx hb dX12_bits_7 (by decide) (fun h => absurd h (by decide)) (fun _ => ?_)
  refine lv_iload_n hx hb dX12_bits_10 rfl (lv_at hl 1 rfl) ?_
  refine lv_iload_n hx hb dX12_bits_11 rfl (lv_at hl 2 rfl) ?_
  refine lv_iload_n hx hb dX12_bits_12 rfl (lv_at hl 0 rfl) ?_
  refine lv_ishr hx hb dX12_bits_13 ?_
  refine lv_topi (fun z7 e_z7 => ?_)
  refine lv_iconst (v := 1) hx hb dX12_bits_14 (by decide) ?_
  refine lv_iand hx hb dX12_bits_15 ?_
  refine lv_topi (fun z8 e_z8 => ?_)
  have t_z8 : 0 ≤ z8.toInt ∧ z8.toInt ≤ 1 := by rw [e_z8]; exact and_r (by omega) (by omega)
  refine lv_iadd hx hb dX12_bits_16 ?_
  refine lv_topi (fun z9 e_z9 => ?_)
  have t_z9 : z9.toInt = z6.toInt + z8.toInt := by rw [e_z9]; exact fb_addI (by omega) (by omega)
  refine lv_istore_n (lv' := [(1, .int z9), (2, .int 2), (0, .int p0)]) hx hb dX12_bits_17 rfl hl (by decide) rfl (fun ls hl => ?_)
  refine lv_iinc (v := 3) (lv' := [(2, .int 3), (1, .int z9), (0, .int p0)]) hx hb dX12_bits_18 hl (k := 1) rfl (by decide) (by decide) rfl (fun ls hl => ?_)
  refine lv_goto (tgt := 4) hx hb dX12_bits_21 (by decide) ?_
  refine lv_iload_n hx hb dX12_bits_4 rfl (lv_at hl 0 rfl) ?_
  refine lv_bipush (v := 8) hx hb dX12_bits_5 (by decide) ?_
  refine lv_icmp_ge (tgt := 24) hx hb dX12_bits_7 (by decide) (fun h => absurd h (by decide)) (fun _ => ?_)
  refine lv_iload_n hx hb dX12_bits_10 rfl (lv_at hl 1 rfl) ?_
  refine lv_iload_n hx hb dX12_bits_11 rfl (lv_at hl 2 rfl) ?_
  refine lv_iload_n hx hb dX12_bits_12 rfl (lv_at hl 0 rfl) ?_
  refine lv_ishr hx hb dX12_bits_13 ?_
  refine lv_topi (fun z10 e_z10 => ?_)
  refine lv_iconst (v := 1) hx hb dX12_bits_14 (by decide) ?_
  refine lv_iand hx hb dX12_bits_15 ?_
  refine lv_topi (fun z11 e_z11 => ?_)
  have t_z11 : 0 ≤ z11.toInt ∧ z11.toInt ≤ 1 := by rw [e_z11]; exact and_r (by omega) (by omega)
  refine lv_iadd hx hb dX12_bits_16 ?_
  refine lv_topi (fun z12 e_z12 => ?_)
  have t_z12 : z12.toInt = z9.toInt + z11.toInt := by rw [e_z12]; exact fb_addI (by omega) (by omega)
  refine lv_istore_n (lv' := [(1, .int z12), (2, .int 3), (0, .int p0)]) hx hb dX12_bits_17 rfl hl (by decide) rfl (fun ls hl => ?_)
  refine lv_iinc (v := 4) (lv' := [(2, .int 4), (1, .int z12), (0, .int p0)]) hx hb dX12_bits_18 hl (k := 1) rfl (by decide) (by decide) rfl (fun ls hl => ?_)
  refine lv_goto (tgt := 4) hx hb dX12_bits_21 (by decide) ?_
  refine lv_iload_n hx hb dX12_bits_4 rfl (lv_at hl 0 rfl) ?_
  refine lv_bipush (v := 8) hx hb dX12_bits_5 (by decide) ?_
  refine lv_icmp_ge (tgt := 24) hx hb dX12_bits_7 (by decide) (fun h => absurd h (by decide)) (fun _ => ?_)
  refine lv_iload_n hx hb dX12_bits_10 rfl (lv_at hl 1 rfl) ?_
  refine lv_iload_n hx hb dX12_bits_11 rfl (lv_at hl 2 rfl) ?_
  refine lv_iload_n hx hb dX12_bits_12 rfl (lv_at hl 0 rfl) ?_
  refine lv_ishr hx hb dX12_bits_13 ?_
  refine lv_topi (fun z13 e_z13 => ?_)
  refine lv_iconst (v := 1) hx hb dX12_bits_14 (by decide) ?_
  refine lv_iand hx hb dX12_bits_15 ?_
  refine lv_topi (fun z14 e_z14 => ?_)
  have t_z14 : 0 ≤ z14.toInt ∧ z14.toInt ≤ 1 := by rw [e_z14]; exact and_r (by omega) (by omega)
  refine lv_iadd hx hb dX12_bits_16 ?_
  refine lv_topi (fun z15 e_z15 => ?_)
  have t_z15 : z15.toInt = z12.toInt + z14.toInt := by rw [e_z15]; exact fb_addI (by omega) (by omega)
  refine lv_istore_n (lv' := [(1, .int z15), (2, .int 4), (0, .int p0)]) hx hb dX12_bits_17 rfl hl (by decide) rfl (fun ls hl => ?_)
  refine lv_iinc (v := 5) (lv' := [(2, .int 5), (1, .int z15), (0, .int p0)]) hx hb dX12_bits_18 hl (k := 1) rfl (by decide) (by decide) rfl (fun ls hl => ?_)
  refine lv_goto (tgt := 4) hx hb dX12_bits_21 (by decide) ?_
  refine lv_iload_n hx hb dX12_bits_4 rfl (lv_at hl 0 rfl) ?_
  refine lv_bipush (v := 8) hx hb dX12_bits_5 (by decide) ?_
  refine lv_icmp_ge (tgt := 24) hx hb dX12_bits_7 (by decide) (fun h => absurd h (by decide)) (fun _ => ?_)
  refine lv_iload_n hx hb dX12_bits_10 rfl (lv_at hl 1 rfl) ?_
  refine lv_iload_n hx hb dX12_bits_11 rfl (lv_at hl 2 rfl) ?_
  refine lv_iload_n hx hb dX12_bits_12 rfl (lv_at hl 0 rfl) ?_
  refine lv_ishr hx hb dX12_bits_13 ?_
  refine lv_topi (fun z16 e_z16 => ?_)
  refine lv_iconst (v := 1) hx hb dX12_bits_14 (by decide) ?_
  refine lv_iand hx hb dX12_bits_15 ?_
  refine lv_topi (fun z17 e_z17 => ?_)
  have t_z17 : 0 ≤ z17.toInt ∧ z17.toInt ≤ 1 := by rw [e_z17]; exact and_r (by omega) (by omega)
  refine lv_iadd hx hb dX12_bits_16 ?_
  refine lv_topi (fun z18 e_z18 => ?_)
  have t_z18 : z18.toInt = z15.toInt + z17.toInt := by rw [e_z18]; exact fb_addI (by omega) (by omega)
  refine lv_istore_n (lv' := [(1, .int z18), (2, .int 5), (0, .int p0)]) hx hb dX12_bits_17 rfl hl (by decide) rfl (fun ls hl => ?_)
  refine lv_iinc (v := 6) (lv' := [(2, .int 6), (1, .int z18), (0, .int p0)]) hx hb dX12_bits_18 hl (k := 1) rfl (by decide) (by decide) rfl (fun ls hl => ?_)
  refine lv_goto (tgt := 4) hx hb dX12_bits_21 (by decide) ?_
  refine lv_iload_n hx hb dX12_bits_4 rfl (lv_at hl 0 rfl) ?_
  refine lv_bipush (v := 8) hx hb dX12_bits_5 (by decide) ?_
  refine lv_icmp_ge (tgt := 24) hx hb dX12_bits_7 (by decide) (fun h => absurd h (by decide)) (fun _ => ?_)
  refine lv_iload_n hx hb dX12_bits_10 rfl (lv_at hl 1 rfl) ?_
  refine lv_iload_n hx hb dX12_bits_11 rfl (lv_at hl 2 rfl) ?_
  refine lv_iload_n hx hb dX12_bits_12 rfl (lv_at hl 0 rfl) ?_
  refine lv_ishr hx hb dX12_bits_13 ?_
  refine lv_topi (fun z19 e_z19 => ?_)
  refine lv_iconst (v := 1) hx hb dX12_bits_14 (by decide) ?_
  refine lv_iand hx hb dX12_bits_15 ?_
  refine lv_topi (fun z20 e_z20 => ?_)
  have t_z20 : 0 ≤ z20.toInt ∧ z20.toInt ≤ 1 := by rw [e_z20]; exact and_r (by omega) (by omega)
  refine lv_iadd hx hb dX12_bits_16 ?_
  refine lv_topi (fun z21 e_z21 => ?_)
  have t_z21 : z21.toInt = z18.toInt + z20.toInt := by rw [e_z21]; exact fb_addI (by omega) (by omega)
  refine lv_istore_n (lv' := [(1, .int z21), (2, .int 6), (0, .int p0)]) hx hb dX12_bits_17 rfl hl (by decide) rfl (fun ls hl => ?_)
  refine lv_iinc (v := 7) (lv' := [(2, .int 7), (1, .int z21), (0, .int p0)]) hx hb dX12_bits_18 hl (k := 1) rfl (by decide) (by decide) rfl (fun ls hl => ?_)
  refine lv_goto (tgt := 4) hx hb dX12_bits_21 (by decide) ?_
  refine lv_iload_n hx hb dX12_bits_4 rfl (lv_at hl 0 rfl) ?_
  refine lv_bipush (v := 8) hx hb dX12_bits_5 (by decide) ?_
  refine lv_icmp_ge (tgt := 24) hx hb dX12_bits_7 (by decide) (fun h => absurd h (by decide)) (fun _ => ?_)
  refine lv_iload_n hx hb dX12_bits_10 rfl (lv_at hl 1 rfl) ?_
  refine lv_iload_n hx hb dX12_bits_11 rfl (lv_at hl 2 rfl) ?_
  refine lv_iload_n hx hb dX12_bits_12 rfl (lv_at hl 0 rfl) ?_
  refine lv_ishr hx hb dX12_bits_13 ?_
  refine lv_topi (fun z22 e_z22 => ?_)
  refine lv_iconst (v := 1) hx hb dX12_bits_14 (by decide) ?_
  refine lv_iand hx hb dX12_bits_15 ?_
  refine lv_topi (fun z23 e_z23 => ?_)
  have t_z23 : 0 ≤ z23.toInt ∧ z23.toInt ≤ 1 := by rw [e_z23]; exact and_r (by omega) (by omega)
  refine lv_iadd hx hb dX12_bits_16 ?_
  refine lv_topi (fun z24 e_z24 => ?_)
  have t_z24 : z24.toInt = z21.toInt + z23.toInt := by rw [e_z24]; exact fb_addI (by omega) (by omega)
  refine lv_istore_n (lv' := [(1, .int z24), (2, .int 7), (0, .int p0)]) hx hb dX12_bits_17 rfl hl (by decide) rfl (fun ls hl => ?_)
  refine lv_iinc (v := 8) (lv' := [(2, .int 8), (1, .int z24), (0, .int p0)]) hx hb dX12_bits_18 hl (k := 1) rfl (by decide) (by decide) rfl (fun ls hl => ?_)
  refine lv_goto (tgt := 4) hx hb dX12_bits_21 (by decide) ?_
  refine lv_iload_n hx hb dX12_bits_4 rfl (lv_at hl 0 rfl) ?_
  refine lv_bipush (v := 8) hx hb dX12_bits_5 (by decide) ?_
  refine lv_icmp_ge (tgt := 24) hx hb dX12_bits_7 (by decide) (fun _ => ?_) (fun h => absurd h (by decide))
  refine lv_iload_n hx hb dX12_bits_24 rfl (lv_at hl 1 rfl) ?_
  exact rt_i FX ((fun k => match k with | 0 => z24 | _ => 0), (fun _ => fun _ => 0), (fun _ => fun _ => 0)) rfl ⟨(show p0.toInt = 0 → (z24).toInt = 0 from (by subst_vars; exact (bits_b _).1)), (show 1 ≤ p0.toInt ∧ p0.toInt ≤ 255 → 1 ≤ (z24).toInt from (by subst_vars; exact (bits_b _).2))⟩ (hP.sub [] rfl) (hD.sub [] (by decide) rfl) hS (Nat.le_of_ble_eq_true rfl) (Nat.le_of_ble_eq_true rfl) dX12_bits_25
set_option maxRecDepth 100000 in
set_option maxHeartbeats 4000000 in
theorem k_X12_bit (l : Launch) (g : GG) (p0 : Int32) (p1 : Int32) : Ct l g yX12_bit cX12_bit 2 (some .int) { frames := 0, cells := 0, slots := 0, locals := 0 } [.int p0, .int p1] [] (S := (Nat → Int32) × (Nat → Nat → Int32) × (Nat → Nat → Int64)) (fun u => some (.int (u.1 0))) (fun u => (0 ≤ (u.1 0).toInt ∧ (u.1 0).toInt ≤ 1) ∧ (u.1 0 = bitF p0 p1)) (fun u => []) := by
  refine Ct.of (by decide) (Nat.le_of_ble_eq_true rfl) ?_
  intro p e s m below meth c A ls FX hP hD hS hl
  obtain ⟨FC, hr, hlk, hKn, hA, hnm, hZ⟩ := id FX
  have FC : CallFix p m c cX12_bit 2 s _ BIG RX12 := FC
  obtain ⟨hx, hb, hml, hown, hB⟩ := id FC
  have hl : lv_has ls 2 [(0, .int p0), (1, .int p1)] := hl
  refine lv_iload_n hx hb dX12_bit_0 rfl (lv_at hl 0 rfl) ?_
  refine lv_iload_n hx hb dX12_bit_1 rfl (lv_at hl 1 rfl) ?_
  refine lv_ishr hx hb dX12_bit_2 ?_
  refine lv_topi (fun z1 e_z1 => ?_)
  refine lv_iconst (v := 1) hx hb dX12_bit_3 (by decide) ?_
  refine lv_iand hx hb dX12_bit_4 ?_
  have kc1 : (1 : Int32).toInt = 1 := by decide
  refine lv_topi (fun z2 e_z2 => ?_)
  have t_z2 : 0 ≤ z2.toInt ∧ z2.toInt ≤ 1 := by rw [e_z2]; exact and_r (by omega) (by omega)
  exact rt_i FX ((fun k => match k with | 0 => z2 | _ => 0), (fun _ => fun _ => 0), (fun _ => fun _ => 0)) rfl ⟨(show 0 ≤ z2.toInt ∧ z2.toInt ≤ 1 by omega), (show z2 = bitF p0 p1 from (show _ = _ by subst_vars; rfl))⟩ (hP.sub [] rfl) (hD.sub [] (by decide) rfl) hS (Nat.le_of_ble_eq_true rfl) (Nat.le_of_ble_eq_true rfl) dX12_bit_5
set_option maxRecDepth 100000 in
set_option maxHeartbeats 4000000 in
theorem k_X12_isDesk (l : Launch) (g : GG) (h0 : Nat) (a1 : Nat) (a2 : Nat) (a3 : Nat) (a4 : Nat) (a6 : Nat) (a14 : Nat) (a15 : Nat) (a19 : Nat) (a20 : Nat) (a23 : Nat) (a24 : Nat) (a25 : Nat) (a26 : Nat) (a27 : Nat) (a28 : Nat) (mthrown : Int32) (mtaped : Int32) (msize : Int32) (mat : Int32) (mfrom : Int32) (mtoken : Int32) (mvalue : Int32) (mfaultKind : Int32) (mfaultPlace : Int32) (mgoal : Int32) (mgoalDays : Int32) (mgoalHearer : Int32) (mleastOrder : Int32) (mwordsMany : Int32) (mworld : Nat → Int32) (i_mtaped : 0 ≤ mtaped.toInt ∧ mtaped.toInt ≤ 900) (i_msize : 0 ≤ msize.toInt ∧ msize.toInt ≤ 900) (i_mat : 0 ≤ mat.toInt ∧ mat.toInt ≤ 900) (i_mfrom : 0 ≤ mfrom.toInt ∧ mfrom.toInt ≤ 900) (i_mtoken : 0 ≤ mtoken.toInt ∧ mtoken.toInt ≤ 4) (i_mvalue : 0 ≤ mvalue.toInt ∧ mvalue.toInt ≤ 99999) (i_mgoalHearer : 0 ≤ mgoalHearer.toInt ∧ mgoalHearer.toInt ≤ 3) (i_mwordsMany : 0 ≤ mwordsMany.toInt ∧ mwordsMany.toInt ≤ 10) (i_mworld : wod mworld) : Ct l g yX12_isDesk cX12_isDesk 1 (some .boolean) { frames := 0, cells := 0, slots := 0, locals := 0 } [.ref h0] [(h0, .inr (12, [.int mthrown, .ref a1, .ref a2, .ref a3, .ref a4, .int mtaped, .ref a6, .int msize, .int mat, .int mfrom, .int mtoken, .int mvalue, .int mfaultKind, .int mfaultPlace, .ref a14, .ref a15, .int mgoal, .int mgoalDays, .int mgoalHearer, .ref a19, .ref a20, .int mleastOrder, .int mwordsMany, .ref a23, .ref a24, .ref a25, .ref a26, .ref a27, .ref a28])), (a1, .inl (g.2 0, 225, .inl mworld))] (S := (Nat → Int32) × (Nat → Nat → Int32) × (Nat → Nat → Int64)) (fun u => some (.int (u.1 0))) (fun u => (0 ≤ (u.1 0).toInt ∧ (u.1 0).toInt ≤ 1) ∧ ((u.1 0).toInt = 1 → 1 ≤ (mworld 0).toInt ∧ 1 ≤ (mworld 2).toInt)) (fun u => [(h0, .inr (12, [.int mthrown, .ref a1, .ref a2, .ref a3, .ref a4, .int mtaped, .ref a6, .int msize, .int mat, .int mfrom, .int mtoken, .int mvalue, .int mfaultKind, .int mfaultPlace, .ref a14, .ref a15, .int mgoal, .int mgoalDays, .int mgoalHearer, .ref a19, .ref a20, .int mleastOrder, .int mwordsMany, .ref a23, .ref a24, .ref a25, .ref a26, .ref a27, .ref a28])), (a1, .inl (g.2 0, 225, .inl mworld))]) := by
  refine Ct.of (by decide) (Nat.le_of_ble_eq_true rfl) ?_
  intro p e s m below meth c A ls FX hP hD hS hl
  obtain ⟨FC, hr, hlk, hKn, hA, hnm, hZ⟩ := id FX
  have FC : CallFix p m c cX12_isDesk 1 s _ BIG RX12 := FC
  obtain ⟨hx, hb, hml, hown, hB⟩ := id FC
  have hl : lv_has ls 1 [(0, .ref h0)] := hl
  have hst : wst mworld := i_mworld.2
  unfold wst at hst
  refine lv_aload_n hx hb dX12_isDesk_0 rfl (lv_at hl 0 rfl) ?_
  refine g_get (C := RX12) (T := TX12) (N := 29) (ci := 12) (v := .ref a1) FC hKn hP i_X12 0 rfl rfl 1 (by decide) b_801 rfl dX12_isDesk_1 ?_
  refine lv_bipush (v := 9) hx hb dX12_isDesk_4 (by decide) ?_
  refine va_iald hx hb hKn.1 hP 1 0 rfl rfl (by unfold vp_in; decide) dX12_isDesk_6 ?_
  have kc9 : (9 : Int32).toInt = 9 := by decide
  refine lv_topi (fun z1 e_z1 => ?_)
  have q_z1 : z1.toInt = (mworld 9).toInt := by rw [e_z1]; rfl
  refine lv_if_le (tgt := 14) hx hb dX12_isDesk_7 (by decide) (fun c2 => ?_) (fun c2 => ?_)
  · have c2 := k_le (a := z1.toInt) (b := 0) rfl (by decide) c2
    refine lv_iconst (v := 0) hx hb dX12_isDesk_14 (by decide) ?_
    exact rt_z FX rfl ((fun k => match k with | 0 => (0 : Int32) | _ => 0), (fun _ => fun _ => 0), (fun _ => fun _ => 0)) rfl ⟨(show 0 ≤ ((0 : Int32)).toInt ∧ ((0 : Int32)).toInt ≤ 1 by decide), (fun h => absurd h (by decide))⟩ (hP.sub [0, 1] rfl) (hD.sub [0, 1] (by decide) rfl) hS (Nat.le_of_ble_eq_true rfl) (Nat.le_of_ble_eq_true rfl) dX12_isDesk_15
  · have c2 := k_nle (a := z1.toInt) (b := 0) rfl (by decide) c2
    refine lv_iconst (v := 1) hx hb dX12_isDesk_10 (by decide) ?_
    refine lv_goto (tgt := 15) hx hb dX12_isDesk_11 (by decide) ?_
    exact rt_z FX rfl ((fun k => match k with | 0 => (1 : Int32) | _ => 0), (fun _ => fun _ => 0), (fun _ => fun _ => 0)) rfl ⟨(show 0 ≤ ((1 : Int32)).toInt ∧ ((1 : Int32)).toInt ≤ 1 by decide), (fun _ => by omega)⟩ (hP.sub [0, 1] rfl) (hD.sub [0, 1] (by decide) rfl) hS (Nat.le_of_ble_eq_true rfl) (Nat.le_of_ble_eq_true rfl) dX12_isDesk_15
set_option maxRecDepth 100000 in
set_option maxHeartbeats 4000000 in
theorem k_X12_isState (l : Launch) (g : GG) (h0 : Nat) (a1 : Nat) (a2 : Nat) (a3 : Nat) (a4 : Nat) (a6 : Nat) (a14 : Nat) (a15 : Nat) (a19 : Nat) (a20 : Nat) (a23 : Nat) (a24 : Nat) (a25 : Nat) (a26 : Nat) (a27 : Nat) (a28 : Nat) (mthrown : Int32) (mtaped : Int32) (msize : Int32) (mat : Int32) (mfrom : Int32) (mtoken : Int32) (mvalue : Int32) (mfaultKind : Int32) (mfaultPlace : Int32) (mgoal : Int32) (mgoalDays : Int32) (mgoalHearer : Int32) (mleastOrder : Int32) (mwordsMany : Int32) (mworld : Nat → Int32) (p1 : Int32) (i_mtaped : 0 ≤ mtaped.toInt ∧ mtaped.toInt ≤ 900) (i_msize : 0 ≤ msize.toInt ∧ msize.toInt ≤ 900) (i_mat : 0 ≤ mat.toInt ∧ mat.toInt ≤ 900) (i_mfrom : 0 ≤ mfrom.toInt ∧ mfrom.toInt ≤ 900) (i_mtoken : 0 ≤ mtoken.toInt ∧ mtoken.toInt ≤ 4) (i_mvalue : 0 ≤ mvalue.toInt ∧ mvalue.toInt ≤ 99999) (i_mgoalHearer : 0 ≤ mgoalHearer.toInt ∧ mgoalHearer.toInt ≤ 3) (i_mwordsMany : 0 ≤ mwordsMany.toInt ∧ mwordsMany.toInt ≤ 10) (i_mworld : wod mworld) : Ct l g yX12_isState cX12_isState 2 (some .boolean) { frames := 1, cells := 0, slots := 0, locals := 25 } [.ref h0, .int p1] [(h0, .inr (12, [.int mthrown, .ref a1, .ref a2, .ref a3, .ref a4, .int mtaped, .ref a6, .int msize, .int mat, .int mfrom, .int mtoken, .int mvalue, .int mfaultKind, .int mfaultPlace, .ref a14, .ref a15, .int mgoal, .int mgoalDays, .int mgoalHearer, .ref a19, .ref a20, .int mleastOrder, .int mwordsMany, .ref a23, .ref a24, .ref a25, .ref a26, .ref a27, .ref a28])), (a1, .inl (g.2 0, 225, .inl mworld))] (S := (Nat → Int32) × (Nat → Nat → Int32) × (Nat → Nat → Int64)) (fun u => some (.int (u.1 0))) (fun u => (0 ≤ (u.1 0).toInt ∧ (u.1 0).toInt ≤ 1) ∧ ((u.1 0).toInt = 1 → 0 ≤ p1.toInt ∧ p1.toInt < (mworld 0).toInt ∧ p1.toInt ≤ 7)) (fun u => [(h0, .inr (12, [.int mthrown, .ref a1, .ref a2, .ref a3, .ref a4, .int mtaped, .ref a6, .int msize, .int mat, .int mfrom, .int mtoken, .int mvalue, .int mfaultKind, .int mfaultPlace, .ref a14, .ref a15, .int mgoal, .int mgoalDays, .int mgoalHearer, .ref a19, .ref a20, .int mleastOrder, .int mwordsMany, .ref a23, .ref a24, .ref a25, .ref a26, .ref a27, .ref a28])), (a1, .inl (g.2 0, 225, .inl mworld))]) := by
  refine Ct.of (by decide) (Nat.le_of_ble_eq_true rfl) ?_
  intro p e s m below meth c A ls FX hP hD hS hl
  obtain ⟨FC, hr, hlk, hKn, hA, hnm, hZ⟩ := id FX
  have FC : CallFix p m c cX12_isState 2 s _ BIG RX12 := FC
  obtain ⟨hx, hb, hml, hown, hB⟩ := id FC
  have hl : lv_has ls 2 [(0, .ref h0), (1, .int p1)] := hl
  refine lv_iload_n hx hb dX12_isState_0 rfl (lv_at hl 1 rfl) ?_
  refine lv_i2l (v := p1.toInt64) hx hb dX12_isState_1 rfl ?_
  refine lv_topl (fun z1 e_z1 => ?_)
  have t_z1 : z1.toInt = p1.toInt := by rw [e_z1]; exact Int32.toInt_toInt64 _
  refine lv_lconst (v := 0) hx hb dX12_isState_2 (by decide) ?_
  refine lv_aload_n hx hb dX12_isState_3 rfl (lv_at hl 0 rfl) ?_
  refine g_get (C := RX12) (T := TX12) (N := 29) (ci := 12) (v := .ref a1) FC hKn hP i_X12 0 rfl rfl 1 (by decide) b_801 rfl dX12_isState_4 ?_
  refine lv_iconst (v := 0) hx hb dX12_isState_7 (by decide) ?_
  refine va_iald hx hb hKn.1 hP 1 0 rfl rfl (by unfold vp_in; decide) dX12_isState_8 ?_
  have kc0 : (0 : Int32).toInt = 0 := by decide
  refine lv_topi (fun z2 e_z2 => ?_)
  have t_z2 : 0 ≤ z2.toInt ∧ z2.toInt ≤ 8 := by rw [e_z2]; exact wk_0 i_mworld.1
  have q_z2 : z2.toInt = (mworld 0).toInt := by rw [e_z2]; rfl
  refine lv_iconst (v := 1) hx hb dX12_isState_9 (by decide) ?_
  refine lv_isub hx hb dX12_isState_10 ?_
  have kc1 : (1 : Int32).toInt = 1 := by decide
  refine lv_topi (fun z3 e_z3 => ?_)
  have t_z3 : z3.toInt = z2.toInt - ((1 : Int32)).toInt := by rw [e_z3]; exact fb_subI (by omega) (by omega)
  refine lv_i2l (v := z3.toInt64) hx hb dX12_isState_11 rfl ?_
  refine lv_topl (fun z4 e_z4 => ?_)
  have t_z4 : z4.toInt = z3.toInt := by rw [e_z4]; exact Int32.toInt_toInt64 _
  have kcl0 : (0 : Int64).toInt = 0 := by decide
  refine call_S (As := [.long z1, .long 0, .long z4]) (rest := []) (wr := [(h0, .inr (12, [.int mthrown, .ref a1, .ref a2, .ref a3, .ref a4, .int mtaped, .ref a6, .int msize, .int mat, .int mfrom, .int mtoken, .int mvalue, .int mfaultKind, .int mfaultPlace, .ref a14, .ref a15, .int mgoal, .int mgoalDays, .int mgoalHearer, .ref a19, .ref a20, .int mleastOrder, .int mwordsMany, .ref a23, .ref a24, .ref a25, .ref a26, .ref a27, .ref a28])), (a1, .inl (g.2 0, 225, .inl mworld))]) FC hKn hZ (k_X12_in l g z1 ((0 : Int64)) z4) m_yX12_in b_802 hP hD hS hA [] [0, 1] rfl (by decide) rfl (by decide) (by decide) rfl hl.1 rfl (Nat.le_of_ble_eq_true rfl) dX12_isState_12 ⟨(Nat.le_of_ble_eq_true rfl), (Nat.le_of_ble_eq_true rfl)⟩ ⟨(Nat.le_of_ble_eq_true rfl), (Nat.le_of_ble_eq_true rfl)⟩ (fun u5 H locs q6 hP hD hS => ?_)
  obtain ⟨q6_0, q6_1, q6_2⟩ := q6
  have hP : va_P g.1 vwCl [(h0, .inr (12, [.int mthrown, .ref a1, .ref a2, .ref a3, .ref a4, .int mtaped, .ref a6, .int msize, .int mat, .int mfrom, .int mtoken, .int mvalue, .int mfaultKind, .int mfaultPlace, .ref a14, .ref a15, .int mgoal, .int mgoalDays, .int mgoalHearer, .ref a19, .ref a20, .int mleastOrder, .int mwordsMany, .ref a23, .ref a24, .ref a25, .ref a26, .ref a27, .ref a28])), (a1, .inl (g.2 0, 225, .inl mworld))] H := hP
  have hD : va_D A [(h0, .inr (12, [.int mthrown, .ref a1, .ref a2, .ref a3, .ref a4, .int mtaped, .ref a6, .int msize, .int mat, .int mfrom, .int mtoken, .int mvalue, .int mfaultKind, .int mfaultPlace, .ref a14, .ref a15, .int mgoal, .int mgoalDays, .int mgoalHearer, .ref a19, .ref a20, .int mleastOrder, .int mwordsMany, .ref a23, .ref a24, .ref a25, .ref a26, .ref a27, .ref a28])), (a1, .inl (g.2 0, 225, .inl mworld))] := hD
  refine W.eq (g2 := F0 m 15 ls [.int (u5.1 0)]) rfl ?_
  rcases (show (u5.1 0).toInt = 0 ∨ (u5.1 0).toInt = 1 by omega) with c7 | c7
  · skip
    exact rt_z FX (nb (by omega) (by omega)).1 ((fun k => match k with | 0 => u5.1 0 | _ => 0), (fun _ => fun _ => 0), (fun _ => fun _ => 0)) rfl ⟨(show 0 ≤ (u5.1 0).toInt ∧ (u5.1 0).toInt ≤ 1 by omega), (fun h9 => absurd (show (u5.1 0).toInt = 1 from h9) (by omega))⟩ (hP.sub [0, 1] rfl) (hD.sub [0, 1] (by decide) rfl) hS (Nat.le_of_ble_eq_true rfl) (Nat.le_of_ble_eq_true rfl) dX12_isState_15
  · have c7_r := q6_2 c7
    exact rt_z FX (nb (by omega) (by omega)).1 ((fun k => match k with | 0 => u5.1 0 | _ => 0), (fun _ => fun _ => 0), (fun _ => fun _ => 0)) rfl ⟨(show 0 ≤ (u5.1 0).toInt ∧ (u5.1 0).toInt ≤ 1 by omega), (fun _ => by omega)⟩ (hP.sub [0, 1] rfl) (hD.sub [0, 1] (by decide) rfl) hS (Nat.le_of_ble_eq_true rfl) (Nat.le_of_ble_eq_true rfl) dX12_isState_15
set_option maxRecDepth 100000 in
set_option maxHeartbeats 4000000 in
theorem k_X12_isHearer (l : Launch) (g : GG) (h0 : Nat) (a1 : Nat) (a2 : Nat) (a3 : Nat) (a4 : Nat) (a6 : Nat) (a14 : Nat) (a15 : Nat) (a19 : Nat) (a20 : Nat) (a23 : Nat) (a24 : Nat) (a25 : Nat) (a26 : Nat) (a27 : Nat) (a28 : Nat) (mthrown : Int32) (mtaped : Int32) (msize : Int32) (mat : Int32) (mfrom : Int32) (mtoken : Int32) (mvalue : Int32) (mfaultKind : Int32) (mfaultPlace : Int32) (mgoal : Int32) (mgoalDays : Int32) (mgoalHearer : Int32) (mleastOrder : Int32) (mwordsMany : Int32) (mworld : Nat → Int32) (p1 : Int32) (i_mtaped : 0 ≤ mtaped.toInt ∧ mtaped.toInt ≤ 900) (i_msize : 0 ≤ msize.toInt ∧ msize.toInt ≤ 900) (i_mat : 0 ≤ mat.toInt ∧ mat.toInt ≤ 900) (i_mfrom : 0 ≤ mfrom.toInt ∧ mfrom.toInt ≤ 900) (i_mtoken : 0 ≤ mtoken.toInt ∧ mtoken.toInt ≤ 4) (i_mvalue : 0 ≤ mvalue.toInt ∧ mvalue.toInt ≤ 99999) (i_mgoalHearer : 0 ≤ mgoalHearer.toInt ∧ mgoalHearer.toInt ≤ 3) (i_mwordsMany : 0 ≤ mwordsMany.toInt ∧ mwordsMany.toInt ≤ 10) (i_mworld : wod mworld) : Ct l g yX12_isHearer cX12_isHearer 2 (some .boolean) { frames := 1, cells := 0, slots := 0, locals := 25 } [.ref h0, .int p1] [(h0, .inr (12, [.int mthrown, .ref a1, .ref a2, .ref a3, .ref a4, .int mtaped, .ref a6, .int msize, .int mat, .int mfrom, .int mtoken, .int mvalue, .int mfaultKind, .int mfaultPlace, .ref a14, .ref a15, .int mgoal, .int mgoalDays, .int mgoalHearer, .ref a19, .ref a20, .int mleastOrder, .int mwordsMany, .ref a23, .ref a24, .ref a25, .ref a26, .ref a27, .ref a28])), (a1, .inl (g.2 0, 225, .inl mworld))] (S := (Nat → Int32) × (Nat → Nat → Int32) × (Nat → Nat → Int64)) (fun u => some (.int (u.1 0))) (fun u => (0 ≤ (u.1 0).toInt ∧ (u.1 0).toInt ≤ 1) ∧ ((u.1 0).toInt = 1 → 0 ≤ p1.toInt ∧ p1.toInt < (mworld 5).toInt ∧ p1.toInt ≤ 3 ∧ 1 ≤ (mworld 0).toInt ∧ 1 ≤ (mworld 2).toInt)) (fun u => [(h0, .inr (12, [.int mthrown, .ref a1, .ref a2, .ref a3, .ref a4, .int mtaped, .ref a6, .int msize, .int mat, .int mfrom, .int mtoken, .int mvalue, .int mfaultKind, .int mfaultPlace, .ref a14, .ref a15, .int mgoal, .int mgoalDays, .int mgoalHearer, .ref a19, .ref a20, .int mleastOrder, .int mwordsMany, .ref a23, .ref a24, .ref a25, .ref a26, .ref a27, .ref a28])), (a1, .inl (g.2 0, 225, .inl mworld))]) := by
  refine Ct.of (by decide) (Nat.le_of_ble_eq_true rfl) ?_
  intro p e s m below meth c A ls FX hP hD hS hl
  obtain ⟨FC, hr, hlk, hKn, hA, hnm, hZ⟩ := id FX
  have FC : CallFix p m c cX12_isHearer 2 s _ BIG RX12 := FC
  obtain ⟨hx, hb, hml, hown, hB⟩ := id FC
  have hl : lv_has ls 2 [(0, .ref h0), (1, .int p1)] := hl
  have hst : wst mworld := i_mworld.2
  unfold wst at hst
  refine lv_iload_n hx hb dX12_isHearer_0 rfl (lv_at hl 1 rfl) ?_
  refine lv_i2l (v := p1.toInt64) hx hb dX12_isHearer_1 rfl ?_
  refine lv_topl (fun z1 e_z1 => ?_)
  have t_z1 : z1.toInt = p1.toInt := by rw [e_z1]; exact Int32.toInt_toInt64 _
  refine lv_lconst (v := 0) hx hb dX12_isHearer_2 (by decide) ?_
  refine lv_aload_n hx hb dX12_isHearer_3 rfl (lv_at hl 0 rfl) ?_
  refine g_get (C := RX12) (T := TX12) (N := 29) (ci := 12) (v := .ref a1) FC hKn hP i_X12 0 rfl rfl 1 (by decide) b_801 rfl dX12_isHearer_4 ?_
  refine lv_iconst (v := 5) hx hb dX12_isHearer_7 (by decide) ?_
  refine va_iald hx hb hKn.1 hP 1 0 rfl rfl (by unfold vp_in; decide) dX12_isHearer_8 ?_
  have kc5 : (5 : Int32).toInt = 5 := by decide
  refine lv_topi (fun z2 e_z2 => ?_)
  have t_z2 : 0 ≤ z2.toInt ∧ z2.toInt ≤ 4 := by rw [e_z2]; exact wk_5 i_mworld.1
  have q_z2 : z2.toInt = (mworld 5).toInt := by rw [e_z2]; rfl
  refine lv_iconst (v := 1) hx hb dX12_isHearer_9 (by decide) ?_
  refine lv_isub hx hb dX12_isHearer_10 ?_
  have kc1 : (1 : Int32).toInt = 1 := by decide
  refine lv_topi (fun z3 e_z3 => ?_)
  have t_z3 : z3.toInt = z2.toInt - ((1 : Int32)).toInt := by rw [e_z3]; exact fb_subI (by omega) (by omega)
  refine lv_i2l (v := z3.toInt64) hx hb dX12_isHearer_11 rfl ?_
  refine lv_topl (fun z4 e_z4 => ?_)
  have t_z4 : z4.toInt = z3.toInt := by rw [e_z4]; exact Int32.toInt_toInt64 _
  have kcl0 : (0 : Int64).toInt = 0 := by decide
  refine call_S (As := [.long z1, .long 0, .long z4]) (rest := []) (wr := [(h0, .inr (12, [.int mthrown, .ref a1, .ref a2, .ref a3, .ref a4, .int mtaped, .ref a6, .int msize, .int mat, .int mfrom, .int mtoken, .int mvalue, .int mfaultKind, .int mfaultPlace, .ref a14, .ref a15, .int mgoal, .int mgoalDays, .int mgoalHearer, .ref a19, .ref a20, .int mleastOrder, .int mwordsMany, .ref a23, .ref a24, .ref a25, .ref a26, .ref a27, .ref a28])), (a1, .inl (g.2 0, 225, .inl mworld))]) FC hKn hZ (k_X12_in l g z1 ((0 : Int64)) z4) m_yX12_in b_802 hP hD hS hA [] [0, 1] rfl (by decide) rfl (by decide) (by decide) rfl hl.1 rfl (Nat.le_of_ble_eq_true rfl) dX12_isHearer_12 ⟨(Nat.le_of_ble_eq_true rfl), (Nat.le_of_ble_eq_true rfl)⟩ ⟨(Nat.le_of_ble_eq_true rfl), (Nat.le_of_ble_eq_true rfl)⟩ (fun u5 H locs q6 hP hD hS => ?_)
  obtain ⟨q6_0, q6_1, q6_2⟩ := q6
  have hP : va_P g.1 vwCl [(h0, .inr (12, [.int mthrown, .ref a1, .ref a2, .ref a3, .ref a4, .int mtaped, .ref a6, .int msize, .int mat, .int mfrom, .int mtoken, .int mvalue, .int mfaultKind, .int mfaultPlace, .ref a14, .ref a15, .int mgoal, .int mgoalDays, .int mgoalHearer, .ref a19, .ref a20, .int mleastOrder, .int mwordsMany, .ref a23, .ref a24, .ref a25, .ref a26, .ref a27, .ref a28])), (a1, .inl (g.2 0, 225, .inl mworld))] H := hP
  have hD : va_D A [(h0, .inr (12, [.int mthrown, .ref a1, .ref a2, .ref a3, .ref a4, .int mtaped, .ref a6, .int msize, .int mat, .int mfrom, .int mtoken, .int mvalue, .int mfaultKind, .int mfaultPlace, .ref a14, .ref a15, .int mgoal, .int mgoalDays, .int mgoalHearer, .ref a19, .ref a20, .int mleastOrder, .int mwordsMany, .ref a23, .ref a24, .ref a25, .ref a26, .ref a27, .ref a28])), (a1, .inl (g.2 0, 225, .inl mworld))] := hD
  refine W.eq (g2 := F0 m 15 ls [.int (u5.1 0)]) rfl ?_
  rcases (show (u5.1 0).toInt = 0 ∨ (u5.1 0).toInt = 1 by omega) with c7 | c7
  · skip
    exact rt_z FX (nb (by omega) (by omega)).1 ((fun k => match k with | 0 => u5.1 0 | _ => 0), (fun _ => fun _ => 0), (fun _ => fun _ => 0)) rfl ⟨(show 0 ≤ (u5.1 0).toInt ∧ (u5.1 0).toInt ≤ 1 by omega), (fun h9 => absurd (show (u5.1 0).toInt = 1 from h9) (by omega))⟩ (hP.sub [0, 1] rfl) (hD.sub [0, 1] (by decide) rfl) hS (Nat.le_of_ble_eq_true rfl) (Nat.le_of_ble_eq_true rfl) dX12_isHearer_15
  · have c7_r := q6_2 c7
    exact rt_z FX (nb (by omega) (by omega)).1 ((fun k => match k with | 0 => u5.1 0 | _ => 0), (fun _ => fun _ => 0), (fun _ => fun _ => 0)) rfl ⟨(show 0 ≤ (u5.1 0).toInt ∧ (u5.1 0).toInt ≤ 1 by omega), (fun _ => by omega)⟩ (hP.sub [0, 1] rfl) (hD.sub [0, 1] (by decide) rfl) hS (Nat.le_of_ble_eq_true rfl) (Nat.le_of_ble_eq_true rfl) dX12_isHearer_15
set_option maxRecDepth 100000 in
set_option maxHeartbeats 4000000 in
theorem k_X12_isDay (l : Launch) (g : GG) (h0 : Nat) (a1 : Nat) (a2 : Nat) (a3 : Nat) (a4 : Nat) (a6 : Nat) (a14 : Nat) (a15 : Nat) (a19 : Nat) (a20 : Nat) (a23 : Nat) (a24 : Nat) (a25 : Nat) (a26 : Nat) (a27 : Nat) (a28 : Nat) (mthrown : Int32) (mtaped : Int32) (msize : Int32) (mat : Int32) (mfrom : Int32) (mtoken : Int32) (mvalue : Int32) (mfaultKind : Int32) (mfaultPlace : Int32) (mgoal : Int32) (mgoalDays : Int32) (mgoalHearer : Int32) (mleastOrder : Int32) (mwordsMany : Int32) (mworld : Nat → Int32) (p1 : Int32) (i_mtaped : 0 ≤ mtaped.toInt ∧ mtaped.toInt ≤ 900) (i_msize : 0 ≤ msize.toInt ∧ msize.toInt ≤ 900) (i_mat : 0 ≤ mat.toInt ∧ mat.toInt ≤ 900) (i_mfrom : 0 ≤ mfrom.toInt ∧ mfrom.toInt ≤ 900) (i_mtoken : 0 ≤ mtoken.toInt ∧ mtoken.toInt ≤ 4) (i_mvalue : 0 ≤ mvalue.toInt ∧ mvalue.toInt ≤ 99999) (i_mgoalHearer : 0 ≤ mgoalHearer.toInt ∧ mgoalHearer.toInt ≤ 3) (i_mwordsMany : 0 ≤ mwordsMany.toInt ∧ mwordsMany.toInt ≤ 10) (i_mworld : wod mworld) : Ct l g yX12_isDay cX12_isDay 2 (some .boolean) { frames := 1, cells := 0, slots := 0, locals := 25 } [.ref h0, .int p1] [(h0, .inr (12, [.int mthrown, .ref a1, .ref a2, .ref a3, .ref a4, .int mtaped, .ref a6, .int msize, .int mat, .int mfrom, .int mtoken, .int mvalue, .int mfaultKind, .int mfaultPlace, .ref a14, .ref a15, .int mgoal, .int mgoalDays, .int mgoalHearer, .ref a19, .ref a20, .int mleastOrder, .int mwordsMany, .ref a23, .ref a24, .ref a25, .ref a26, .ref a27, .ref a28])), (a1, .inl (g.2 0, 225, .inl mworld))] (S := (Nat → Int32) × (Nat → Nat → Int32) × (Nat → Nat → Int64)) (fun u => some (.int (u.1 0))) (fun u => (0 ≤ (u.1 0).toInt ∧ (u.1 0).toInt ≤ 1) ∧ ((u.1 0).toInt = 1 → 0 ≤ p1.toInt ∧ p1.toInt < (mworld 2).toInt ∧ p1.toInt ≤ 9)) (fun u => [(h0, .inr (12, [.int mthrown, .ref a1, .ref a2, .ref a3, .ref a4, .int mtaped, .ref a6, .int msize, .int mat, .int mfrom, .int mtoken, .int mvalue, .int mfaultKind, .int mfaultPlace, .ref a14, .ref a15, .int mgoal, .int mgoalDays, .int mgoalHearer, .ref a19, .ref a20, .int mleastOrder, .int mwordsMany, .ref a23, .ref a24, .ref a25, .ref a26, .ref a27, .ref a28])), (a1, .inl (g.2 0, 225, .inl mworld))]) := by
  refine Ct.of (by decide) (Nat.le_of_ble_eq_true rfl) ?_
  intro p e s m below meth c A ls FX hP hD hS hl
  obtain ⟨FC, hr, hlk, hKn, hA, hnm, hZ⟩ := id FX
  have FC : CallFix p m c cX12_isDay 2 s _ BIG RX12 := FC
  obtain ⟨hx, hb, hml, hown, hB⟩ := id FC
  have hl : lv_has ls 2 [(0, .ref h0), (1, .int p1)] := hl
  refine lv_iload_n hx hb dX12_isDay_0 rfl (lv_at hl 1 rfl) ?_
  refine lv_i2l (v := p1.toInt64) hx hb dX12_isDay_1 rfl ?_
  refine lv_topl (fun z1 e_z1 => ?_)
  have t_z1 : z1.toInt = p1.toInt := by rw [e_z1]; exact Int32.toInt_toInt64 _
  refine lv_lconst (v := 0) hx hb dX12_isDay_2 (by decide) ?_
  refine lv_aload_n hx hb dX12_isDay_3 rfl (lv_at hl 0 rfl) ?_
  refine g_get (C := RX12) (T := TX12) (N := 29) (ci := 12) (v := .ref a1) FC hKn hP i_X12 0 rfl rfl 1 (by decide) b_801 rfl dX12_isDay_4 ?_
  refine lv_iconst (v := 2) hx hb dX12_isDay_7 (by decide) ?_
  refine va_iald hx hb hKn.1 hP 1 0 rfl rfl (by unfold vp_in; decide) dX12_isDay_8 ?_
  have kc2 : (2 : Int32).toInt = 2 := by decide
  refine lv_topi (fun z2 e_z2 => ?_)
  have t_z2 : 0 ≤ z2.toInt ∧ z2.toInt ≤ 10 := by rw [e_z2]; exact wk_2 i_mworld.1
  have q_z2 : z2.toInt = (mworld 2).toInt := by rw [e_z2]; rfl
  refine lv_iconst (v := 1) hx hb dX12_isDay_9 (by decide) ?_
  refine lv_isub hx hb dX12_isDay_10 ?_
  have kc1 : (1 : Int32).toInt = 1 := by decide
  refine lv_topi (fun z3 e_z3 => ?_)
  have t_z3 : z3.toInt = z2.toInt - ((1 : Int32)).toInt := by rw [e_z3]; exact fb_subI (by omega) (by omega)
  refine lv_i2l (v := z3.toInt64) hx hb dX12_isDay_11 rfl ?_
  refine lv_topl (fun z4 e_z4 => ?_)
  have t_z4 : z4.toInt = z3.toInt := by rw [e_z4]; exact Int32.toInt_toInt64 _
  have kcl0 : (0 : Int64).toInt = 0 := by decide
  refine call_S (As := [.long z1, .long 0, .long z4]) (rest := []) (wr := [(h0, .inr (12, [.int mthrown, .ref a1, .ref a2, .ref a3, .ref a4, .int mtaped, .ref a6, .int msize, .int mat, .int mfrom, .int mtoken, .int mvalue, .int mfaultKind, .int mfaultPlace, .ref a14, .ref a15, .int mgoal, .int mgoalDays, .int mgoalHearer, .ref a19, .ref a20, .int mleastOrder, .int mwordsMany, .ref a23, .ref a24, .ref a25, .ref a26, .ref a27, .ref a28])), (a1, .inl (g.2 0, 225, .inl mworld))]) FC hKn hZ (k_X12_in l g z1 ((0 : Int64)) z4) m_yX12_in b_802 hP hD hS hA [] [0, 1] rfl (by decide) rfl (by decide) (by decide) rfl hl.1 rfl (Nat.le_of_ble_eq_true rfl) dX12_isDay_12 ⟨(Nat.le_of_ble_eq_true rfl), (Nat.le_of_ble_eq_true rfl)⟩ ⟨(Nat.le_of_ble_eq_true rfl), (Nat.le_of_ble_eq_true rfl)⟩ (fun u5 H locs q6 hP hD hS => ?_)
  obtain ⟨q6_0, q6_1, q6_2⟩ := q6
  have hP : va_P g.1 vwCl [(h0, .inr (12, [.int mthrown, .ref a1, .ref a2, .ref a3, .ref a4, .int mtaped, .ref a6, .int msize, .int mat, .int mfrom, .int mtoken, .int mvalue, .int mfaultKind, .int mfaultPlace, .ref a14, .ref a15, .int mgoal, .int mgoalDays, .int mgoalHearer, .ref a19, .ref a20, .int mleastOrder, .int mwordsMany, .ref a23, .ref a24, .ref a25, .ref a26, .ref a27, .ref a28])), (a1, .inl (g.2 0, 225, .inl mworld))] H := hP
  have hD : va_D A [(h0, .inr (12, [.int mthrown, .ref a1, .ref a2, .ref a3, .ref a4, .int mtaped, .ref a6, .int msize, .int mat, .int mfrom, .int mtoken, .int mvalue, .int mfaultKind, .int mfaultPlace, .ref a14, .ref a15, .int mgoal, .int mgoalDays, .int mgoalHearer, .ref a19, .ref a20, .int mleastOrder, .int mwordsMany, .ref a23, .ref a24, .ref a25, .ref a26, .ref a27, .ref a28])), (a1, .inl (g.2 0, 225, .inl mworld))] := hD
  refine W.eq (g2 := F0 m 15 ls [.int (u5.1 0)]) rfl ?_
  rcases (show (u5.1 0).toInt = 0 ∨ (u5.1 0).toInt = 1 by omega) with c7 | c7
  · skip
    exact rt_z FX (nb (by omega) (by omega)).1 ((fun k => match k with | 0 => u5.1 0 | _ => 0), (fun _ => fun _ => 0), (fun _ => fun _ => 0)) rfl ⟨(show 0 ≤ (u5.1 0).toInt ∧ (u5.1 0).toInt ≤ 1 by omega), (fun h9 => absurd (show (u5.1 0).toInt = 1 from h9) (by omega))⟩ (hP.sub [0, 1] rfl) (hD.sub [0, 1] (by decide) rfl) hS (Nat.le_of_ble_eq_true rfl) (Nat.le_of_ble_eq_true rfl) dX12_isDay_15
  · have c7_r := q6_2 c7
    exact rt_z FX (nb (by omega) (by omega)).1 ((fun k => match k with | 0 => u5.1 0 | _ => 0), (fun _ => fun _ => 0), (fun _ => fun _ => 0)) rfl ⟨(show 0 ≤ (u5.1 0).toInt ∧ (u5.1 0).toInt ≤ 1 by omega), (fun _ => by omega)⟩ (hP.sub [0, 1] rfl) (hD.sub [0, 1] (by decide) rfl) hS (Nat.le_of_ble_eq_true rfl) (Nat.le_of_ble_eq_true rfl) dX12_isDay_15
set_option maxRecDepth 100000 in
set_option maxHeartbeats 4000000 in
theorem k_X12_isPlan (l : Launch) (g : GG) (h0 : Nat) (a1 : Nat) (a2 : Nat) (a3 : Nat) (a4 : Nat) (a6 : Nat) (a14 : Nat) (a15 : Nat) (a19 : Nat) (a20 : Nat) (a23 : Nat) (a24 : Nat) (a25 : Nat) (a26 : Nat) (a27 : Nat) (a28 : Nat) (mthrown : Int32) (mtaped : Int32) (msize : Int32) (mat : Int32) (mfrom : Int32) (mtoken : Int32) (mvalue : Int32) (mfaultKind : Int32) (mfaultPlace : Int32) (mgoal : Int32) (mgoalDays : Int32) (mgoalHearer : Int32) (mleastOrder : Int32) (mwordsMany : Int32) (mworld : Nat → Int32) (p1 : Int32) (i_mtaped : 0 ≤ mtaped.toInt ∧ mtaped.toInt ≤ 900) (i_msize : 0 ≤ msize.toInt ∧ msize.toInt ≤ 900) (i_mat : 0 ≤ mat.toInt ∧ mat.toInt ≤ 900) (i_mfrom : 0 ≤ mfrom.toInt ∧ mfrom.toInt ≤ 900) (i_mtoken : 0 ≤ mtoken.toInt ∧ mtoken.toInt ≤ 4) (i_mvalue : 0 ≤ mvalue.toInt ∧ mvalue.toInt ≤ 99999) (i_mgoalHearer : 0 ≤ mgoalHearer.toInt ∧ mgoalHearer.toInt ≤ 3) (i_mwordsMany : 0 ≤ mwordsMany.toInt ∧ mwordsMany.toInt ≤ 10) (i_mworld : wod mworld) : Ct l g yX12_isPlan cX12_isPlan 2 (some .boolean) { frames := 1, cells := 0, slots := 0, locals := 25 } [.ref h0, .int p1] [(h0, .inr (12, [.int mthrown, .ref a1, .ref a2, .ref a3, .ref a4, .int mtaped, .ref a6, .int msize, .int mat, .int mfrom, .int mtoken, .int mvalue, .int mfaultKind, .int mfaultPlace, .ref a14, .ref a15, .int mgoal, .int mgoalDays, .int mgoalHearer, .ref a19, .ref a20, .int mleastOrder, .int mwordsMany, .ref a23, .ref a24, .ref a25, .ref a26, .ref a27, .ref a28])), (a1, .inl (g.2 0, 225, .inl mworld))] (S := (Nat → Int32) × (Nat → Nat → Int32) × (Nat → Nat → Int64)) (fun u => some (.int (u.1 0))) (fun u => (0 ≤ (u.1 0).toInt ∧ (u.1 0).toInt ≤ 1) ∧ ((u.1 0).toInt = 1 → 0 ≤ p1.toInt ∧ p1.toInt < (mworld 7).toInt ∧ p1.toInt ≤ 3 ∧ 1 ≤ (mworld 0).toInt ∧ 1 ≤ (mworld 2).toInt)) (fun u => [(h0, .inr (12, [.int mthrown, .ref a1, .ref a2, .ref a3, .ref a4, .int mtaped, .ref a6, .int msize, .int mat, .int mfrom, .int mtoken, .int mvalue, .int mfaultKind, .int mfaultPlace, .ref a14, .ref a15, .int mgoal, .int mgoalDays, .int mgoalHearer, .ref a19, .ref a20, .int mleastOrder, .int mwordsMany, .ref a23, .ref a24, .ref a25, .ref a26, .ref a27, .ref a28])), (a1, .inl (g.2 0, 225, .inl mworld))]) := by
  refine Ct.of (by decide) (Nat.le_of_ble_eq_true rfl) ?_
  intro p e s m below meth c A ls FX hP hD hS hl
  obtain ⟨FC, hr, hlk, hKn, hA, hnm, hZ⟩ := id FX
  have FC : CallFix p m c cX12_isPlan 2 s _ BIG RX12 := FC
  obtain ⟨hx, hb, hml, hown, hB⟩ := id FC
  have hl : lv_has ls 2 [(0, .ref h0), (1, .int p1)] := hl
  have hst : wst mworld := i_mworld.2
  unfold wst at hst
  refine lv_iload_n hx hb dX12_isPlan_0 rfl (lv_at hl 1 rfl) ?_
  refine lv_i2l (v := p1.toInt64) hx hb dX12_isPlan_1 rfl ?_
  refine lv_topl (fun z1 e_z1 => ?_)
  have t_z1 : z1.toInt = p1.toInt := by rw [e_z1]; exact Int32.toInt_toInt64 _
  refine lv_lconst (v := 0) hx hb dX12_isPlan_2 (by decide) ?_
  refine lv_aload_n hx hb dX12_isPlan_3 rfl (lv_at hl 0 rfl) ?_
  refine g_get (C := RX12) (T := TX12) (N := 29) (ci := 12) (v := .ref a1) FC hKn hP i_X12 0 rfl rfl 1 (by decide) b_801 rfl dX12_isPlan_4 ?_
  refine lv_bipush (v := 7) hx hb dX12_isPlan_7 (by decide) ?_
  refine va_iald hx hb hKn.1 hP 1 0 rfl rfl (by unfold vp_in; decide) dX12_isPlan_9 ?_
  have kc7 : (7 : Int32).toInt = 7 := by decide
  refine lv_topi (fun z2 e_z2 => ?_)
  have t_z2 : 0 ≤ z2.toInt ∧ z2.toInt ≤ 4 := by rw [e_z2]; exact wk_7 i_mworld.1
  have q_z2 : z2.toInt = (mworld 7).toInt := by rw [e_z2]; rfl
  refine lv_iconst (v := 1) hx hb dX12_isPlan_10 (by decide) ?_
  refine lv_isub hx hb dX12_isPlan_11 ?_
  have kc1 : (1 : Int32).toInt = 1 := by decide
  refine lv_topi (fun z3 e_z3 => ?_)
  have t_z3 : z3.toInt = z2.toInt - ((1 : Int32)).toInt := by rw [e_z3]; exact fb_subI (by omega) (by omega)
  refine lv_i2l (v := z3.toInt64) hx hb dX12_isPlan_12 rfl ?_
  refine lv_topl (fun z4 e_z4 => ?_)
  have t_z4 : z4.toInt = z3.toInt := by rw [e_z4]; exact Int32.toInt_toInt64 _
  have kcl0 : (0 : Int64).toInt = 0 := by decide
  refine call_S (As := [.long z1, .long 0, .long z4]) (rest := []) (wr := [(h0, .inr (12, [.int mthrown, .ref a1, .ref a2, .ref a3, .ref a4, .int mtaped, .ref a6, .int msize, .int mat, .int mfrom, .int mtoken, .int mvalue, .int mfaultKind, .int mfaultPlace, .ref a14, .ref a15, .int mgoal, .int mgoalDays, .int mgoalHearer, .ref a19, .ref a20, .int mleastOrder, .int mwordsMany, .ref a23, .ref a24, .ref a25, .ref a26, .ref a27, .ref a28])), (a1, .inl (g.2 0, 225, .inl mworld))]) FC hKn hZ (k_X12_in l g z1 ((0 : Int64)) z4) m_yX12_in b_802 hP hD hS hA [] [0, 1] rfl (by decide) rfl (by decide) (by decide) rfl hl.1 rfl (Nat.le_of_ble_eq_true rfl) dX12_isPlan_13 ⟨(Nat.le_of_ble_eq_true rfl), (Nat.le_of_ble_eq_true rfl)⟩ ⟨(Nat.le_of_ble_eq_true rfl), (Nat.le_of_ble_eq_true rfl)⟩ (fun u5 H locs q6 hP hD hS => ?_)
  obtain ⟨q6_0, q6_1, q6_2⟩ := q6
  have hP : va_P g.1 vwCl [(h0, .inr (12, [.int mthrown, .ref a1, .ref a2, .ref a3, .ref a4, .int mtaped, .ref a6, .int msize, .int mat, .int mfrom, .int mtoken, .int mvalue, .int mfaultKind, .int mfaultPlace, .ref a14, .ref a15, .int mgoal, .int mgoalDays, .int mgoalHearer, .ref a19, .ref a20, .int mleastOrder, .int mwordsMany, .ref a23, .ref a24, .ref a25, .ref a26, .ref a27, .ref a28])), (a1, .inl (g.2 0, 225, .inl mworld))] H := hP
  have hD : va_D A [(h0, .inr (12, [.int mthrown, .ref a1, .ref a2, .ref a3, .ref a4, .int mtaped, .ref a6, .int msize, .int mat, .int mfrom, .int mtoken, .int mvalue, .int mfaultKind, .int mfaultPlace, .ref a14, .ref a15, .int mgoal, .int mgoalDays, .int mgoalHearer, .ref a19, .ref a20, .int mleastOrder, .int mwordsMany, .ref a23, .ref a24, .ref a25, .ref a26, .ref a27, .ref a28])), (a1, .inl (g.2 0, 225, .inl mworld))] := hD
  refine W.eq (g2 := F0 m 16 ls [.int (u5.1 0)]) rfl ?_
  rcases (show (u5.1 0).toInt = 0 ∨ (u5.1 0).toInt = 1 by omega) with c7 | c7
  · skip
    exact rt_z FX (nb (by omega) (by omega)).1 ((fun k => match k with | 0 => u5.1 0 | _ => 0), (fun _ => fun _ => 0), (fun _ => fun _ => 0)) rfl ⟨(show 0 ≤ (u5.1 0).toInt ∧ (u5.1 0).toInt ≤ 1 by omega), (fun h9 => absurd (show (u5.1 0).toInt = 1 from h9) (by omega))⟩ (hP.sub [0, 1] rfl) (hD.sub [0, 1] (by decide) rfl) hS (Nat.le_of_ble_eq_true rfl) (Nat.le_of_ble_eq_true rfl) dX12_isPlan_16
  · have c7_r := q6_2 c7
    exact rt_z FX (nb (by omega) (by omega)).1 ((fun k => match k with | 0 => u5.1 0 | _ => 0), (fun _ => fun _ => 0), (fun _ => fun _ => 0)) rfl ⟨(show 0 ≤ (u5.1 0).toInt ∧ (u5.1 0).toInt ≤ 1 by omega), (fun _ => by omega)⟩ (hP.sub [0, 1] rfl) (hD.sub [0, 1] (by decide) rfl) hS (Nat.le_of_ble_eq_true rfl) (Nat.le_of_ble_eq_true rfl) dX12_isPlan_16
set_option maxRecDepth 100000 in
set_option maxHeartbeats 4000000 in
theorem k_X12_isWord (l : Launch) (g : GG) (h0 : Nat) (a1 : Nat) (a2 : Nat) (a3 : Nat) (a4 : Nat) (a6 : Nat) (a14 : Nat) (a15 : Nat) (a19 : Nat) (a20 : Nat) (a23 : Nat) (a24 : Nat) (a25 : Nat) (a26 : Nat) (a27 : Nat) (a28 : Nat) (mthrown : Int32) (mtaped : Int32) (msize : Int32) (mat : Int32) (mfrom : Int32) (mtoken : Int32) (mvalue : Int32) (mfaultKind : Int32) (mfaultPlace : Int32) (mgoal : Int32) (mgoalDays : Int32) (mgoalHearer : Int32) (mleastOrder : Int32) (mwordsMany : Int32) (mworld : Nat → Int32) (p1 : Int64) (i_mtaped : 0 ≤ mtaped.toInt ∧ mtaped.toInt ≤ 900) (i_msize : 0 ≤ msize.toInt ∧ msize.toInt ≤ 900) (i_mat : 0 ≤ mat.toInt ∧ mat.toInt ≤ 900) (i_mfrom : 0 ≤ mfrom.toInt ∧ mfrom.toInt ≤ 900) (i_mtoken : 0 ≤ mtoken.toInt ∧ mtoken.toInt ≤ 4) (i_mvalue : 0 ≤ mvalue.toInt ∧ mvalue.toInt ≤ 99999) (i_mgoalHearer : 0 ≤ mgoalHearer.toInt ∧ mgoalHearer.toInt ≤ 3) (i_mwordsMany : 0 ≤ mwordsMany.toInt ∧ mwordsMany.toInt ≤ 10) (i_mworld : wod mworld) : Ct l g yX12_isWord cX12_isWord 3 (some .boolean) { frames := 1, cells := 0, slots := 0, locals := 25 } [.ref h0, .long p1] [(h0, .inr (12, [.int mthrown, .ref a1, .ref a2, .ref a3, .ref a4, .int mtaped, .ref a6, .int msize, .int mat, .int mfrom, .int mtoken, .int mvalue, .int mfaultKind, .int mfaultPlace, .ref a14, .ref a15, .int mgoal, .int mgoalDays, .int mgoalHearer, .ref a19, .ref a20, .int mleastOrder, .int mwordsMany, .ref a23, .ref a24, .ref a25, .ref a26, .ref a27, .ref a28])), (a1, .inl (g.2 0, 225, .inl mworld))] (S := (Nat → Int32) × (Nat → Nat → Int32) × (Nat → Nat → Int64)) (fun u => some (.int (u.1 0))) (fun u => (0 ≤ (u.1 0).toInt ∧ (u.1 0).toInt ≤ 1) ∧ ((u.1 0).toInt = 1 → 0 ≤ p1.toInt ∧ p1.toInt < (mworld 6).toInt ∧ p1.toInt ≤ 7)) (fun u => [(h0, .inr (12, [.int mthrown, .ref a1, .ref a2, .ref a3, .ref a4, .int mtaped, .ref a6, .int msize, .int mat, .int mfrom, .int mtoken, .int mvalue, .int mfaultKind, .int mfaultPlace, .ref a14, .ref a15, .int mgoal, .int mgoalDays, .int mgoalHearer, .ref a19, .ref a20, .int mleastOrder, .int mwordsMany, .ref a23, .ref a24, .ref a25, .ref a26, .ref a27, .ref a28])), (a1, .inl (g.2 0, 225, .inl mworld))]) := by
  refine Ct.of (by decide) (Nat.le_of_ble_eq_true rfl) ?_
  intro p e s m below meth c A ls FX hP hD hS hl
  obtain ⟨FC, hr, hlk, hKn, hA, hnm, hZ⟩ := id FX
  have FC : CallFix p m c cX12_isWord 3 s _ BIG RX12 := FC
  obtain ⟨hx, hb, hml, hown, hB⟩ := id FC
  have hl : lv_has ls 3 [(0, .ref h0), (1, .long p1)] := hl
  refine lv_lload_n hx hb dX12_isWord_0 rfl (lv_at hl 1 rfl) ?_
  refine lv_lconst (v := 0) hx hb dX12_isWord_1 (by decide) ?_
  refine lv_aload_n hx hb dX12_isWord_2 rfl (lv_at hl 0 rfl) ?_
  refine g_get (C := RX12) (T := TX12) (N := 29) (ci := 12) (v := .ref a1) FC hKn hP i_X12 0 rfl rfl 1 (by decide) b_801 rfl dX12_isWord_3 ?_
  refine lv_bipush (v := 6) hx hb dX12_isWord_6 (by decide) ?_
  refine va_iald hx hb hKn.1 hP 1 0 rfl rfl (by unfold vp_in; decide) dX12_isWord_8 ?_
  have kc6 : (6 : Int32).toInt = 6 := by decide
  refine lv_topi (fun z1 e_z1 => ?_)
  have t_z1 : 0 ≤ z1.toInt ∧ z1.toInt ≤ 8 := by rw [e_z1]; exact wk_6 i_mworld.1
  have q_z1 : z1.toInt = (mworld 6).toInt := by rw [e_z1]; rfl
  refine lv_iconst (v := 1) hx hb dX12_isWord_9 (by decide) ?_
  refine lv_isub hx hb dX12_isWord_10 ?_
  have kc1 : (1 : Int32).toInt = 1 := by decide
  refine lv_topi (fun z2 e_z2 => ?_)
  have t_z2 : z2.toInt = z1.toInt - ((1 : Int32)).toInt := by rw [e_z2]; exact fb_subI (by omega) (by omega)
  refine lv_i2l (v := z2.toInt64) hx hb dX12_isWord_11 rfl ?_
  refine lv_topl (fun z3 e_z3 => ?_)
  have t_z3 : z3.toInt = z2.toInt := by rw [e_z3]; exact Int32.toInt_toInt64 _
  have kcl0 : (0 : Int64).toInt = 0 := by decide
  refine call_S (As := [.long p1, .long 0, .long z3]) (rest := []) (wr := [(h0, .inr (12, [.int mthrown, .ref a1, .ref a2, .ref a3, .ref a4, .int mtaped, .ref a6, .int msize, .int mat, .int mfrom, .int mtoken, .int mvalue, .int mfaultKind, .int mfaultPlace, .ref a14, .ref a15, .int mgoal, .int mgoalDays, .int mgoalHearer, .ref a19, .ref a20, .int mleastOrder, .int mwordsMany, .ref a23, .ref a24, .ref a25, .ref a26, .ref a27, .ref a28])), (a1, .inl (g.2 0, 225, .inl mworld))]) FC hKn hZ (k_X12_in l g p1 ((0 : Int64)) z3) m_yX12_in b_802 hP hD hS hA [] [0, 1] rfl (by decide) rfl (by decide) (by decide) rfl hl.1 rfl (Nat.le_of_ble_eq_true rfl) dX12_isWord_12 ⟨(Nat.le_of_ble_eq_true rfl), (Nat.le_of_ble_eq_true rfl)⟩ ⟨(Nat.le_of_ble_eq_true rfl), (Nat.le_of_ble_eq_true rfl)⟩ (fun u4 H locs q5 hP hD hS => ?_)
  obtain ⟨q5_0, q5_1, q5_2⟩ := q5
  have hP : va_P g.1 vwCl [(h0, .inr (12, [.int mthrown, .ref a1, .ref a2, .ref a3, .ref a4, .int mtaped, .ref a6, .int msize, .int mat, .int mfrom, .int mtoken, .int mvalue, .int mfaultKind, .int mfaultPlace, .ref a14, .ref a15, .int mgoal, .int mgoalDays, .int mgoalHearer, .ref a19, .ref a20, .int mleastOrder, .int mwordsMany, .ref a23, .ref a24, .ref a25, .ref a26, .ref a27, .ref a28])), (a1, .inl (g.2 0, 225, .inl mworld))] H := hP
  have hD : va_D A [(h0, .inr (12, [.int mthrown, .ref a1, .ref a2, .ref a3, .ref a4, .int mtaped, .ref a6, .int msize, .int mat, .int mfrom, .int mtoken, .int mvalue, .int mfaultKind, .int mfaultPlace, .ref a14, .ref a15, .int mgoal, .int mgoalDays, .int mgoalHearer, .ref a19, .ref a20, .int mleastOrder, .int mwordsMany, .ref a23, .ref a24, .ref a25, .ref a26, .ref a27, .ref a28])), (a1, .inl (g.2 0, 225, .inl mworld))] := hD
  refine W.eq (g2 := F0 m 15 ls [.int (u4.1 0)]) rfl ?_
  rcases (show (u4.1 0).toInt = 0 ∨ (u4.1 0).toInt = 1 by omega) with c6 | c6
  · skip
    exact rt_z FX (nb (by omega) (by omega)).1 ((fun k => match k with | 0 => u4.1 0 | _ => 0), (fun _ => fun _ => 0), (fun _ => fun _ => 0)) rfl ⟨(show 0 ≤ (u4.1 0).toInt ∧ (u4.1 0).toInt ≤ 1 by omega), (fun h9 => absurd (show (u4.1 0).toInt = 1 from h9) (by omega))⟩ (hP.sub [0, 1] rfl) (hD.sub [0, 1] (by decide) rfl) hS (Nat.le_of_ble_eq_true rfl) (Nat.le_of_ble_eq_true rfl) dX12_isWord_15
  · have c6_r := q5_2 c6
    exact rt_z FX (nb (by omega) (by omega)).1 ((fun k => match k with | 0 => u4.1 0 | _ => 0), (fun _ => fun _ => 0), (fun _ => fun _ => 0)) rfl ⟨(show 0 ≤ (u4.1 0).toInt ∧ (u4.1 0).toInt ≤ 1 by omega), (fun _ => by omega)⟩ (hP.sub [0, 1] rfl) (hD.sub [0, 1] (by decide) rfl) hS (Nat.le_of_ble_eq_true rfl) (Nat.le_of_ble_eq_true rfl) dX12_isWord_15
set_option maxRecDepth 100000 in
set_option maxHeartbeats 4000000 in
theorem k_X12_isTold (l : Launch) (g : GG) (h0 : Nat) (a1 : Nat) (a2 : Nat) (a3 : Nat) (a4 : Nat) (a6 : Nat) (a14 : Nat) (a15 : Nat) (a19 : Nat) (a20 : Nat) (a23 : Nat) (a24 : Nat) (a25 : Nat) (a26 : Nat) (a27 : Nat) (a28 : Nat) (mthrown : Int32) (mtaped : Int32) (msize : Int32) (mat : Int32) (mfrom : Int32) (mtoken : Int32) (mvalue : Int32) (mfaultKind : Int32) (mfaultPlace : Int32) (mgoal : Int32) (mgoalDays : Int32) (mgoalHearer : Int32) (mleastOrder : Int32) (mwordsMany : Int32) (mworld : Nat → Int32) (p1 : Int64) (i_mtaped : 0 ≤ mtaped.toInt ∧ mtaped.toInt ≤ 900) (i_msize : 0 ≤ msize.toInt ∧ msize.toInt ≤ 900) (i_mat : 0 ≤ mat.toInt ∧ mat.toInt ≤ 900) (i_mfrom : 0 ≤ mfrom.toInt ∧ mfrom.toInt ≤ 900) (i_mtoken : 0 ≤ mtoken.toInt ∧ mtoken.toInt ≤ 4) (i_mvalue : 0 ≤ mvalue.toInt ∧ mvalue.toInt ≤ 99999) (i_mgoalHearer : 0 ≤ mgoalHearer.toInt ∧ mgoalHearer.toInt ≤ 3) (i_mwordsMany : 0 ≤ mwordsMany.toInt ∧ mwordsMany.toInt ≤ 10) (i_mworld : wod mworld) : Ct l g yX12_isTold cX12_isTold 3 (some .boolean) { frames := 2, cells := 0, slots := 0, locals := 47 } [.ref h0, .long p1] [(h0, .inr (12, [.int mthrown, .ref a1, .ref a2, .ref a3, .ref a4, .int mtaped, .ref a6, .int msize, .int mat, .int mfrom, .int mtoken, .int mvalue, .int mfaultKind, .int mfaultPlace, .ref a14, .ref a15, .int mgoal, .int mgoalDays, .int mgoalHearer, .ref a19, .ref a20, .int mleastOrder, .int mwordsMany, .ref a23, .ref a24, .ref a25, .ref a26, .ref a27, .ref a28])), (a1, .inl (g.2 0, 225, .inl mworld))] (S := (Nat → Int32) × (Nat → Nat → Int32) × (Nat → Nat → Int64)) (fun u => some (.int (u.1 0))) (fun u => (0 ≤ (u.1 0).toInt ∧ (u.1 0).toInt ≤ 1) ∧ ((u.1 0).toInt = 1 → (p1.toInt = 8 ∨ (0 ≤ p1.toInt ∧ p1.toInt < (mworld 6).toInt)) ∧ p1.toInt ≤ 8)) (fun u => [(h0, .inr (12, [.int mthrown, .ref a1, .ref a2, .ref a3, .ref a4, .int mtaped, .ref a6, .int msize, .int mat, .int mfrom, .int mtoken, .int mvalue, .int mfaultKind, .int mfaultPlace, .ref a14, .ref a15, .int mgoal, .int mgoalDays, .int mgoalHearer, .ref a19, .ref a20, .int mleastOrder, .int mwordsMany, .ref a23, .ref a24, .ref a25, .ref a26, .ref a27, .ref a28])), (a1, .inl (g.2 0, 225, .inl mworld))]) := by
  refine Ct.of (by decide) (Nat.le_of_ble_eq_true rfl) ?_
  intro p e s m below meth c A ls FX hP hD hS hl
  obtain ⟨FC, hr, hlk, hKn, hA, hnm, hZ⟩ := id FX
  have FC : CallFix p m c cX12_isTold 3 s _ BIG RX12 := FC
  obtain ⟨hx, hb, hml, hown, hB⟩ := id FC
  have hl : lv_has ls 3 [(0, .ref h0), (1, .long p1)] := hl
  refine lv_aload_n hx hb dX12_isTold_0 rfl (lv_at hl 0 rfl) ?_
  refine lv_lload_n hx hb dX12_isTold_1 rfl (lv_at hl 1 rfl) ?_
  refine call_V (As := [.long p1]) (rest := []) (wr := []) FC hKn hZ (k_X12_isWord l g h0 a1 a2 a3 a4 a6 a14 a15 a19 a20 a23 a24 a25 a26 a27 a28 mthrown mtaped msize mat mfrom mtoken mvalue mfaultKind mfaultPlace mgoal mgoalDays mgoalHearer mleastOrder mwordsMany mworld p1 (by omega) (by omega) (by omega) (by omega) (by omega) (by omega) (by omega) (by omega) i_mworld) m_yX12_isWord b_803 (ci := 12) rfl rfl rfl hP hD hS hA [0, 1] [] rfl (by decide) rfl (by decide) (by decide) rfl hl.1 rfl (Nat.le_of_ble_eq_true rfl) dX12_isTold_2 ⟨(Nat.le_of_ble_eq_true rfl), (Nat.le_of_ble_eq_true rfl)⟩ ⟨(Nat.le_of_ble_eq_true rfl), (Nat.le_of_ble_eq_true rfl)⟩ (fun u1 H locs q2 hP hD hS => ?_)
  obtain ⟨q2_0, q2_1⟩ := q2
  have hP : va_P g.1 vwCl [(h0, .inr (12, [.int mthrown, .ref a1, .ref a2, .ref a3, .ref a4, .int mtaped, .ref a6, .int msize, .int mat, .int mfrom, .int mtoken, .int mvalue, .int mfaultKind, .int mfaultPlace, .ref a14, .ref a15, .int mgoal, .int mgoalDays, .int mgoalHearer, .ref a19, .ref a20, .int mleastOrder, .int mwordsMany, .ref a23, .ref a24, .ref a25, .ref a26, .ref a27, .ref a28])), (a1, .inl (g.2 0, 225, .inl mworld))] H := hP
  have hD : va_D A [(h0, .inr (12, [.int mthrown, .ref a1, .ref a2, .ref a3, .ref a4, .int mtaped, .ref a6, .int msize, .int mat, .int mfrom, .int mtoken, .int mvalue, .int mfaultKind, .int mfaultPlace, .ref a14, .ref a15, .int mgoal, .int mgoalDays, .int mgoalHearer, .ref a19, .ref a20, .int mleastOrder, .int mwordsMany, .ref a23, .ref a24, .ref a25, .ref a26, .ref a27, .ref a28])), (a1, .inl (g.2 0, 225, .inl mworld))] := hD
  refine W.eq (g2 := F0 m 5 ls [.int (u1.1 0)]) rfl ?_
  rcases (show (u1.1 0).toInt = 0 ∨ (u1.1 0).toInt = 1 by omega) with c3 | c3
  · skip
    refine lv_if_ne (tgt := 16) hx hb dX12_isTold_5 (by decide) (fun c4 => ?_) (fun c4 => ?_)
    · have c4 := k_ne (a := (u1.1 0).toInt) (b := 0) rfl (by decide) c4
      exfalso; omega
    · have c4 := k_eq (a := (u1.1 0).toInt) (b := 0) rfl (by decide) c4
      refine lv_lload_n hx hb dX12_isTold_8 rfl (lv_at hl 1 rfl) ?_
      refine lv_ldc2 hx hb hown (hB _ b_804) dX12_isTold_9 ?_
      refine W.lcmp hx hb dX12_isTold_12 ?_
      refine lv_if_ne (tgt := 20) hx hb dX12_isTold_13 (by decide) (fun c5 => ?_) (fun c5 => ?_)
      · have c5 := k_ne (a := (lg_cmp p1 8).toInt) (b := 0) rfl (by decide) c5
        have c5 := kc_neT c5
        have kLc5 : (8 : Int64).toInt = 8 := by decide
        refine lv_iconst (v := 0) hx hb dX12_isTold_20 (by decide) ?_
        exact rt_z FX rfl ((fun k => match k with | 0 => (0 : Int32) | _ => 0), (fun _ => fun _ => 0), (fun _ => fun _ => 0)) rfl ⟨(show 0 ≤ ((0 : Int32)).toInt ∧ ((0 : Int32)).toInt ≤ 1 by decide), (fun h => absurd h (by decide))⟩ (hP.sub [0, 1] rfl) (hD.sub [0, 1] (by decide) rfl) hS (Nat.le_of_ble_eq_true rfl) (Nat.le_of_ble_eq_true rfl) dX12_isTold_21
      · have c5 := k_eq (a := (lg_cmp p1 8).toInt) (b := 0) rfl (by decide) c5
        have c5 := kc_neF c5
        have kLc5 : (8 : Int64).toInt = 8 := by decide
        refine lv_iconst (v := 1) hx hb dX12_isTold_16 (by decide) ?_
        refine lv_goto (tgt := 21) hx hb dX12_isTold_17 (by decide) ?_
        exact rt_z FX rfl ((fun k => match k with | 0 => (1 : Int32) | _ => 0), (fun _ => fun _ => 0), (fun _ => fun _ => 0)) rfl ⟨(show 0 ≤ ((1 : Int32)).toInt ∧ ((1 : Int32)).toInt ≤ 1 by decide), (fun _ => by omega)⟩ (hP.sub [0, 1] rfl) (hD.sub [0, 1] (by decide) rfl) hS (Nat.le_of_ble_eq_true rfl) (Nat.le_of_ble_eq_true rfl) dX12_isTold_21
  · have c3_r := q2_1 c3
    refine lv_if_ne (tgt := 16) hx hb dX12_isTold_5 (by decide) (fun c6 => ?_) (fun c6 => ?_)
    · have c6 := k_ne (a := (u1.1 0).toInt) (b := 0) rfl (by decide) c6
      refine lv_iconst (v := 1) hx hb dX12_isTold_16 (by decide) ?_
      refine lv_goto (tgt := 21) hx hb dX12_isTold_17 (by decide) ?_
      exact rt_z FX rfl ((fun k => match k with | 0 => (1 : Int32) | _ => 0), (fun _ => fun _ => 0), (fun _ => fun _ => 0)) rfl ⟨(show 0 ≤ ((1 : Int32)).toInt ∧ ((1 : Int32)).toInt ≤ 1 by decide), (fun _ => by omega)⟩ (hP.sub [0, 1] rfl) (hD.sub [0, 1] (by decide) rfl) hS (Nat.le_of_ble_eq_true rfl) (Nat.le_of_ble_eq_true rfl) dX12_isTold_21
    · have c6 := k_eq (a := (u1.1 0).toInt) (b := 0) rfl (by decide) c6
      exfalso; omega
set_option maxRecDepth 100000 in
set_option maxHeartbeats 4000000 in
theorem k_X12_allStates (l : Launch) (g : GG) (h0 : Nat) (a1 : Nat) (a2 : Nat) (a3 : Nat) (a4 : Nat) (a6 : Nat) (a14 : Nat) (a15 : Nat) (a19 : Nat) (a20 : Nat) (a23 : Nat) (a24 : Nat) (a25 : Nat) (a26 : Nat) (a27 : Nat) (a28 : Nat) (mthrown : Int32) (mtaped : Int32) (msize : Int32) (mat : Int32) (mfrom : Int32) (mtoken : Int32) (mvalue : Int32) (mfaultKind : Int32) (mfaultPlace : Int32) (mgoal : Int32) (mgoalDays : Int32) (mgoalHearer : Int32) (mleastOrder : Int32) (mwordsMany : Int32) (mworld : Nat → Int32) (i_mtaped : 0 ≤ mtaped.toInt ∧ mtaped.toInt ≤ 900) (i_msize : 0 ≤ msize.toInt ∧ msize.toInt ≤ 900) (i_mat : 0 ≤ mat.toInt ∧ mat.toInt ≤ 900) (i_mfrom : 0 ≤ mfrom.toInt ∧ mfrom.toInt ≤ 900) (i_mtoken : 0 ≤ mtoken.toInt ∧ mtoken.toInt ≤ 4) (i_mvalue : 0 ≤ mvalue.toInt ∧ mvalue.toInt ≤ 99999) (i_mgoalHearer : 0 ≤ mgoalHearer.toInt ∧ mgoalHearer.toInt ≤ 3) (i_mwordsMany : 0 ≤ mwordsMany.toInt ∧ mwordsMany.toInt ≤ 10) (i_mworld : wod mworld) : Ct l g yX12_allStates cX12_allStates 1 (some .int) { frames := 0, cells := 0, slots := 0, locals := 0 } [.ref h0] [(h0, .inr (12, [.int mthrown, .ref a1, .ref a2, .ref a3, .ref a4, .int mtaped, .ref a6, .int msize, .int mat, .int mfrom, .int mtoken, .int mvalue, .int mfaultKind, .int mfaultPlace, .ref a14, .ref a15, .int mgoal, .int mgoalDays, .int mgoalHearer, .ref a19, .ref a20, .int mleastOrder, .int mwordsMany, .ref a23, .ref a24, .ref a25, .ref a26, .ref a27, .ref a28])), (a1, .inl (g.2 0, 225, .inl mworld))] (S := (Nat → Int32) × (Nat → Nat → Int32) × (Nat → Nat → Int64)) (fun u => some (.int (u.1 0))) (fun u => (0 ≤ (u.1 0).toInt ∧ (u.1 0).toInt ≤ 255) ∧ (u.1 0 = asF mworld) ∧ (1 ≤ (mworld 0).toInt → 1 ≤ (u.1 0).toInt)) (fun u => [(h0, .inr (12, [.int mthrown, .ref a1, .ref a2, .ref a3, .ref a4, .int mtaped, .ref a6, .int msize, .int mat, .int mfrom, .int mtoken, .int mvalue, .int mfaultKind, .int mfaultPlace, .ref a14, .ref a15, .int mgoal, .int mgoalDays, .int mgoalHearer, .ref a19, .ref a20, .int mleastOrder, .int mwordsMany, .ref a23, .ref a24, .ref a25, .ref a26, .ref a27, .ref a28])), (a1, .inl (g.2 0, 225, .inl mworld))]) := by
  refine Ct.of (by decide) (Nat.le_of_ble_eq_true rfl) ?_
  intro p e s m below meth c A ls FX hP hD hS hl
  obtain ⟨FC, hr, hlk, hKn, hA, hnm, hZ⟩ := id FX
  have FC : CallFix p m c cX12_allStates 1 s _ BIG RX12 := FC
  obtain ⟨hx, hb, hml, hown, hB⟩ := id FC
  have hl : lv_has ls 1 [(0, .ref h0)] := hl
  refine lv_iconst (v := 1) hx hb dX12_allStates_0 (by decide) ?_
  refine lv_aload_n hx hb dX12_allStates_1 rfl (lv_at hl 0 rfl) ?_
  refine g_get (C := RX12) (T := TX12) (N := 29) (ci := 12) (v := .ref a1) FC hKn hP i_X12 0 rfl rfl 1 (by decide) b_801 rfl dX12_allStates_2 ?_
  refine lv_iconst (v := 0) hx hb dX12_allStates_5 (by decide) ?_
  refine va_iald hx hb hKn.1 hP 1 0 rfl rfl (by unfold vp_in; decide) dX12_allStates_6 ?_
  have kc0 : (0 : Int32).toInt = 0 := by decide
  refine lv_topi (fun z1 e_z1 => ?_)
  have t_z1 : 0 ≤ z1.toInt ∧ z1.toInt ≤ 8 := by rw [e_z1]; exact wk_0 i_mworld.1
  have q_z1 : z1.toInt = (mworld 0).toInt := by rw [e_z1]; rfl
  refine lv_ishl hx hb dX12_allStates_7 ?_
  refine lv_topi (fun z2 e_z2 => ?_)
  have t_z2 : 1 ≤ z2.toInt ∧ z2.toInt ≤ 256 := by rw [e_z2]; exact shl_b (n := 8) (by omega) (by omega) (by decide)
  refine lv_iconst (v := 1) hx hb dX12_allStates_8 (by decide) ?_
  refine lv_isub hx hb dX12_allStates_9 ?_
  have kc1 : (1 : Int32).toInt = 1 := by decide
  refine lv_topi (fun z3 e_z3 => ?_)
  have t_z3 : z3.toInt = z2.toInt - ((1 : Int32)).toInt := by rw [e_z3]; exact fb_subI (by omega) (by omega)
  exact rt_i FX ((fun k => match k with | 0 => z3 | _ => 0), (fun _ => fun _ => 0), (fun _ => fun _ => 0)) rfl ⟨(show 0 ≤ z3.toInt ∧ z3.toInt ≤ 255 by omega), (show z3 = asF mworld from (show _ = _ by subst_vars; rfl)), (show 1 ≤ (mworld 0).toInt → 1 ≤ (z3).toInt from (fun q => by rw [show z3 = asF mworld by subst_vars; rfl]; exact as_b i_mworld.1 q))⟩ (hP.sub [0, 1] rfl) (hD.sub [0, 1] (by decide) rfl) hS (Nat.le_of_ble_eq_true rfl) (Nat.le_of_ble_eq_true rfl) dX12_allStates_10
set_option maxRecDepth 100000 in
set_option maxHeartbeats 4000000 in
theorem k_X12_isBelief (l : Launch) (g : GG) (h0 : Nat) (a1 : Nat) (a2 : Nat) (a3 : Nat) (a4 : Nat) (a6 : Nat) (a14 : Nat) (a15 : Nat) (a19 : Nat) (a20 : Nat) (a23 : Nat) (a24 : Nat) (a25 : Nat) (a26 : Nat) (a27 : Nat) (a28 : Nat) (mthrown : Int32) (mtaped : Int32) (msize : Int32) (mat : Int32) (mfrom : Int32) (mtoken : Int32) (mvalue : Int32) (mfaultKind : Int32) (mfaultPlace : Int32) (mgoal : Int32) (mgoalDays : Int32) (mgoalHearer : Int32) (mleastOrder : Int32) (mwordsMany : Int32) (mworld : Nat → Int32) (p1 : Int32) (i_mtaped : 0 ≤ mtaped.toInt ∧ mtaped.toInt ≤ 900) (i_msize : 0 ≤ msize.toInt ∧ msize.toInt ≤ 900) (i_mat : 0 ≤ mat.toInt ∧ mat.toInt ≤ 900) (i_mfrom : 0 ≤ mfrom.toInt ∧ mfrom.toInt ≤ 900) (i_mtoken : 0 ≤ mtoken.toInt ∧ mtoken.toInt ≤ 4) (i_mvalue : 0 ≤ mvalue.toInt ∧ mvalue.toInt ≤ 99999) (i_mgoalHearer : 0 ≤ mgoalHearer.toInt ∧ mgoalHearer.toInt ≤ 3) (i_mwordsMany : 0 ≤ mwordsMany.toInt ∧ mwordsMany.toInt ≤ 10) (i_mworld : wod mworld) : Ct l g yX12_isBelief cX12_isBelief 2 (some .boolean) { frames := 1, cells := 0, slots := 0, locals := 25 } [.ref h0, .int p1] [(h0, .inr (12, [.int mthrown, .ref a1, .ref a2, .ref a3, .ref a4, .int mtaped, .ref a6, .int msize, .int mat, .int mfrom, .int mtoken, .int mvalue, .int mfaultKind, .int mfaultPlace, .ref a14, .ref a15, .int mgoal, .int mgoalDays, .int mgoalHearer, .ref a19, .ref a20, .int mleastOrder, .int mwordsMany, .ref a23, .ref a24, .ref a25, .ref a26, .ref a27, .ref a28])), (a1, .inl (g.2 0, 225, .inl mworld))] (S := (Nat → Int32) × (Nat → Nat → Int32) × (Nat → Nat → Int64)) (fun u => some (.int (u.1 0))) (fun u => (0 ≤ (u.1 0).toInt ∧ (u.1 0).toInt ≤ 1) ∧ ((u.1 0).toInt = 1 → 1 ≤ p1.toInt ∧ p1.toInt ≤ 255 ∧ 1 ≤ (mworld 0).toInt ∧ 1 ≤ (mworld 2).toInt)) (fun u => [(h0, .inr (12, [.int mthrown, .ref a1, .ref a2, .ref a3, .ref a4, .int mtaped, .ref a6, .int msize, .int mat, .int mfrom, .int mtoken, .int mvalue, .int mfaultKind, .int mfaultPlace, .ref a14, .ref a15, .int mgoal, .int mgoalDays, .int mgoalHearer, .ref a19, .ref a20, .int mleastOrder, .int mwordsMany, .ref a23, .ref a24, .ref a25, .ref a26, .ref a27, .ref a28])), (a1, .inl (g.2 0, 225, .inl mworld))]) := by
  refine Ct.of (by decide) (Nat.le_of_ble_eq_true rfl) ?_
  intro p e s m below meth c A ls FX hP hD hS hl
  obtain ⟨FC, hr, hlk, hKn, hA, hnm, hZ⟩ := id FX
  have FC : CallFix p m c cX12_isBelief 2 s _ BIG RX12 := FC
  obtain ⟨hx, hb, hml, hown, hB⟩ := id FC
  have hl : lv_has ls 2 [(0, .ref h0), (1, .int p1)] := hl
  refine lv_aload_n hx hb dX12_isBelief_0 rfl (lv_at hl 0 rfl) ?_
  refine call_V (As := []) (rest := []) (wr := []) FC hKn hZ (k_X12_isDesk l g h0 a1 a2 a3 a4 a6 a14 a15 a19 a20 a23 a24 a25 a26 a27 a28 mthrown mtaped msize mat mfrom mtoken mvalue mfaultKind mfaultPlace mgoal mgoalDays mgoalHearer mleastOrder mwordsMany mworld (by omega) (by omega) (by omega) (by omega) (by omega) (by omega) (by omega) (by omega) i_mworld) m_yX12_isDesk b_805 (ci := 12) rfl rfl rfl hP hD hS hA [0, 1] [] rfl (by decide) rfl (by decide) (by decide) rfl hl.1 rfl (Nat.le_of_ble_eq_true rfl) dX12_isBelief_1 ⟨(Nat.le_of_ble_eq_true rfl), (Nat.le_of_ble_eq_true rfl)⟩ ⟨(Nat.le_of_ble_eq_true rfl), (Nat.le_of_ble_eq_true rfl)⟩ (fun u1 H locs q2 hP hD hS => ?_)
  obtain ⟨q2_0, q2_1⟩ := q2
  have hP : va_P g.1 vwCl [(h0, .inr (12, [.int mthrown, .ref a1, .ref a2, .ref a3, .ref a4, .int mtaped, .ref a6, .int msize, .int mat, .int mfrom, .int mtoken, .int mvalue, .int mfaultKind, .int mfaultPlace, .ref a14, .ref a15, .int mgoal, .int mgoalDays, .int mgoalHearer, .ref a19, .ref a20, .int mleastOrder, .int mwordsMany, .ref a23, .ref a24, .ref a25, .ref a26, .ref a27, .ref a28])), (a1, .inl (g.2 0, 225, .inl mworld))] H := hP
  have hD : va_D A [(h0, .inr (12, [.int mthrown, .ref a1, .ref a2, .ref a3, .ref a4, .int mtaped, .ref a6, .int msize, .int mat, .int mfrom, .int mtoken, .int mvalue, .int mfaultKind, .int mfaultPlace, .ref a14, .ref a15, .int mgoal, .int mgoalDays, .int mgoalHearer, .ref a19, .ref a20, .int mleastOrder, .int mwordsMany, .ref a23, .ref a24, .ref a25, .ref a26, .ref a27, .ref a28])), (a1, .inl (g.2 0, 225, .inl mworld))] := hD
  refine W.eq (g2 := F0 m 4 ls [.int (u1.1 0)]) rfl ?_
  rcases (show (u1.1 0).toInt = 0 ∨ (u1.1 0).toInt = 1 by omega) with c3 | c3
  · skip
    refine lv_if_eq (tgt := 25) hx hb dX12_isBelief_4 (by decide) (fun c4 => ?_) (fun c4 => ?_)
    · have c4 := k_eq (a := (u1.1 0).toInt) (b := 0) rfl (by decide) c4
      refine lv_iconst (v := 0) hx hb dX12_isBelief_25 (by decide) ?_
      exact rt_z FX rfl ((fun k => match k with | 0 => (0 : Int32) | _ => 0), (fun _ => fun _ => 0), (fun _ => fun _ => 0)) rfl ⟨(show 0 ≤ ((0 : Int32)).toInt ∧ ((0 : Int32)).toInt ≤ 1 by decide), (fun h => absurd h (by decide))⟩ (hP.sub [0, 1] rfl) (hD.sub [0, 1] (by decide) rfl) hS (Nat.le_of_ble_eq_true rfl) (Nat.le_of_ble_eq_true rfl) dX12_isBelief_26
    · have c4 := k_ne (a := (u1.1 0).toInt) (b := 0) rfl (by decide) c4
      exfalso; omega
  · have c3_r := q2_1 c3
    refine lv_if_eq (tgt := 25) hx hb dX12_isBelief_4 (by decide) (fun c5 => ?_) (fun c5 => ?_)
    · have c5 := k_eq (a := (u1.1 0).toInt) (b := 0) rfl (by decide) c5
      exfalso; omega
    · have c5 := k_ne (a := (u1.1 0).toInt) (b := 0) rfl (by decide) c5
      refine lv_iload_n hx hb dX12_isBelief_7 rfl (lv_at hl 1 rfl) ?_
      refine lv_i2l (v := p1.toInt64) hx hb dX12_isBelief_8 rfl ?_
      refine lv_topl (fun z6 e_z6 => ?_)
      have t_z6 : z6.toInt = p1.toInt := by rw [e_z6]; exact Int32.toInt_toInt64 _
      refine lv_lconst (v := 1) hx hb dX12_isBelief_9 (by decide) ?_
      refine lv_aload_n hx hb dX12_isBelief_10 rfl (lv_at hl 0 rfl) ?_
      refine call_V (As := []) (rest := [.long 1, .long z6]) (wr := []) FC hKn hZ (k_X12_allStates l g h0 a1 a2 a3 a4 a6 a14 a15 a19 a20 a23 a24 a25 a26 a27 a28 mthrown mtaped msize mat mfrom mtoken mvalue mfaultKind mfaultPlace mgoal mgoalDays mgoalHearer mleastOrder mwordsMany mworld (by omega) (by omega) (by omega) (by omega) (by omega) (by omega) (by omega) (by omega) i_mworld) m_yX12_allStates b_806 (ci := 12) rfl rfl rfl hP hD hS hA [0, 1] [] rfl (by decide) rfl (by decide) (by decide) rfl hl.1 rfl (Nat.le_of_ble_eq_true rfl) dX12_isBelief_11 ⟨(Nat.le_of_ble_eq_true rfl), (Nat.le_of_ble_eq_true rfl)⟩ ⟨(Nat.le_of_ble_eq_true rfl), (Nat.le_of_ble_eq_true rfl)⟩ (fun u7 H locs q8 hP hD hS => ?_)
      obtain ⟨q8_0, q8_1, q8_2⟩ := q8
      have hP : va_P g.1 vwCl [(h0, .inr (12, [.int mthrown, .ref a1, .ref a2, .ref a3, .ref a4, .int mtaped, .ref a6, .int msize, .int mat, .int mfrom, .int mtoken, .int mvalue, .int mfaultKind, .int mfaultPlace, .ref a14, .ref a15, .int mgoal, .int mgoalDays, .int mgoalHearer, .ref a19, .ref a20, .int mleastOrder, .int mwordsMany, .ref a23, .ref a24, .ref a25, .ref a26, .ref a27, .ref a28])), (a1, .inl (g.2 0, 225, .inl mworld))] H := hP
      have hD : va_D A [(h0, .inr (12, [.int mthrown, .ref a1, .ref a2, .ref a3, .ref a4, .int mtaped, .ref a6, .int msize, .int mat, .int mfrom, .int mtoken, .int mvalue, .int mfaultKind, .int mfaultPlace, .ref a14, .ref a15, .int mgoal, .int mgoalDays, .int mgoalHearer, .ref a19, .ref a20, .int mleastOrder, .int mwordsMany, .ref a23, .ref a24, .ref a25, .ref a26, .ref a27, .ref a28])), (a1, .inl (g.2 0, 225, .inl mworld))] := hD
      refine W.eq (g2 := F0 m 14 ls [.int (u7.1 0), .long 1, .long z6]) rfl ?_
      rw [q8_1] at q8_0
      rw [q8_1] at q8_2
      refine tp_i (v := asF mworld) q8_1 ?_
      refine lv_i2l (v := (asF mworld).toInt64) hx hb dX12_isBelief_14 rfl ?_
      refine lv_topl (fun z9 e_z9 => ?_)
      have t_z9 : z9.toInt = (asF mworld).toInt := by rw [e_z9]; exact Int32.toInt_toInt64 _
      have kcl1 : (1 : Int64).toInt = 1 := by decide
      refine call_S (As := [.long z6, .long 1, .long z9]) (rest := []) (wr := [(h0, .inr (12, [.int mthrown, .ref a1, .ref a2, .ref a3, .ref a4, .int mtaped, .ref a6, .int msize, .int mat, .int mfrom, .int mtoken, .int mvalue, .int mfaultKind, .int mfaultPlace, .ref a14, .ref a15, .int mgoal, .int mgoalDays, .int mgoalHearer, .ref a19, .ref a20, .int mleastOrder, .int mwordsMany, .ref a23, .ref a24, .ref a25, .ref a26, .ref a27, .ref a28])), (a1, .inl (g.2 0, 225, .inl mworld))]) FC hKn hZ (k_X12_in l g z6 ((1 : Int64)) z9) m_yX12_in b_802 hP hD hS hA [] [0, 1] rfl (by decide) rfl (by decide) (by decide) rfl hl.1 rfl (Nat.le_of_ble_eq_true rfl) dX12_isBelief_15 ⟨(Nat.le_of_ble_eq_true rfl), (Nat.le_of_ble_eq_true rfl)⟩ ⟨(Nat.le_of_ble_eq_true rfl), (Nat.le_of_ble_eq_true rfl)⟩ (fun u10 H locs q11 hP hD hS => ?_)
      obtain ⟨q11_0, q11_1, q11_2⟩ := q11
      have hP : va_P g.1 vwCl [(h0, .inr (12, [.int mthrown, .ref a1, .ref a2, .ref a3, .ref a4, .int mtaped, .ref a6, .int msize, .int mat, .int mfrom, .int mtoken, .int mvalue, .int mfaultKind, .int mfaultPlace, .ref a14, .ref a15, .int mgoal, .int mgoalDays, .int mgoalHearer, .ref a19, .ref a20, .int mleastOrder, .int mwordsMany, .ref a23, .ref a24, .ref a25, .ref a26, .ref a27, .ref a28])), (a1, .inl (g.2 0, 225, .inl mworld))] H := hP
      have hD : va_D A [(h0, .inr (12, [.int mthrown, .ref a1, .ref a2, .ref a3, .ref a4, .int mtaped, .ref a6, .int msize, .int mat, .int mfrom, .int mtoken, .int mvalue, .int mfaultKind, .int mfaultPlace, .ref a14, .ref a15, .int mgoal, .int mgoalDays, .int mgoalHearer, .ref a19, .ref a20, .int mleastOrder, .int mwordsMany, .ref a23, .ref a24, .ref a25, .ref a26, .ref a27, .ref a28])), (a1, .inl (g.2 0, 225, .inl mworld))] := hD
      refine W.eq (g2 := F0 m 18 ls [.int (u10.1 0)]) rfl ?_
      rcases (show (u10.1 0).toInt = 0 ∨ (u10.1 0).toInt = 1 by omega) with c12 | c12
      · skip
        refine lv_if_eq (tgt := 25) hx hb dX12_isBelief_18 (by decide) (fun c13 => ?_) (fun c13 => ?_)
        · have c13 := k_eq (a := (u10.1 0).toInt) (b := 0) rfl (by decide) c13
          refine lv_iconst (v := 0) hx hb dX12_isBelief_25 (by decide) ?_
          exact rt_z FX rfl ((fun k => match k with | 0 => (0 : Int32) | _ => 0), (fun _ => fun _ => 0), (fun _ => fun _ => 0)) rfl ⟨(show 0 ≤ ((0 : Int32)).toInt ∧ ((0 : Int32)).toInt ≤ 1 by decide), (fun h => absurd h (by decide))⟩ (hP.sub [0, 1] rfl) (hD.sub [0, 1] (by decide) rfl) hS (Nat.le_of_ble_eq_true rfl) (Nat.le_of_ble_eq_true rfl) dX12_isBelief_26
        · have c13 := k_ne (a := (u10.1 0).toInt) (b := 0) rfl (by decide) c13
          exfalso; omega
      · have c12_r := q11_2 c12
        refine lv_if_eq (tgt := 25) hx hb dX12_isBelief_18 (by decide) (fun c14 => ?_) (fun c14 => ?_)
        · have c14 := k_eq (a := (u10.1 0).toInt) (b := 0) rfl (by decide) c14
          exfalso; omega
        · have c14 := k_ne (a := (u10.1 0).toInt) (b := 0) rfl (by decide) c14
          refine lv_iconst (v := 1) hx hb dX12_isBelief_21 (by decide) ?_
          refine lv_goto (tgt := 26) hx hb dX12_isBelief_22 (by decide) ?_
          exact rt_z FX rfl ((fun k => match k with | 0 => (1 : Int32) | _ => 0), (fun _ => fun _ => 0), (fun _ => fun _ => 0)) rfl ⟨(show 0 ≤ ((1 : Int32)).toInt ∧ ((1 : Int32)).toInt ≤ 1 by decide), (fun _ => by omega)⟩ (hP.sub [0, 1] rfl) (hD.sub [0, 1] (by decide) rfl) hS (Nat.le_of_ble_eq_true rfl) (Nat.le_of_ble_eq_true rfl) dX12_isBelief_26
set_option maxRecDepth 100000 in
set_option maxHeartbeats 4000000 in
theorem k_X12_reallySet (l : Launch) (g : GG) (h0 : Nat) (a1 : Nat) (a2 : Nat) (a3 : Nat) (a4 : Nat) (a6 : Nat) (a14 : Nat) (a15 : Nat) (a19 : Nat) (a20 : Nat) (a23 : Nat) (a24 : Nat) (a25 : Nat) (a26 : Nat) (a27 : Nat) (a28 : Nat) (mthrown : Int32) (mtaped : Int32) (msize : Int32) (mat : Int32) (mfrom : Int32) (mtoken : Int32) (mvalue : Int32) (mfaultKind : Int32) (mfaultPlace : Int32) (mgoal : Int32) (mgoalDays : Int32) (mgoalHearer : Int32) (mleastOrder : Int32) (mwordsMany : Int32) (mworld : Nat → Int32) (i_mtaped : 0 ≤ mtaped.toInt ∧ mtaped.toInt ≤ 900) (i_msize : 0 ≤ msize.toInt ∧ msize.toInt ≤ 900) (i_mat : 0 ≤ mat.toInt ∧ mat.toInt ≤ 900) (i_mfrom : 0 ≤ mfrom.toInt ∧ mfrom.toInt ≤ 900) (i_mtoken : 0 ≤ mtoken.toInt ∧ mtoken.toInt ≤ 4) (i_mvalue : 0 ≤ mvalue.toInt ∧ mvalue.toInt ≤ 99999) (i_mgoalHearer : 0 ≤ mgoalHearer.toInt ∧ mgoalHearer.toInt ≤ 3) (i_mwordsMany : 0 ≤ mwordsMany.toInt ∧ mwordsMany.toInt ≤ 10) (i_mworld : wod mworld) : Ct l g yX12_reallySet cX12_reallySet 1 (some .int) { frames := 0, cells := 0, slots := 0, locals := 0 } [.ref h0] [(h0, .inr (12, [.int mthrown, .ref a1, .ref a2, .ref a3, .ref a4, .int mtaped, .ref a6, .int msize, .int mat, .int mfrom, .int mtoken, .int mvalue, .int mfaultKind, .int mfaultPlace, .ref a14, .ref a15, .int mgoal, .int mgoalDays, .int mgoalHearer, .ref a19, .ref a20, .int mleastOrder, .int mwordsMany, .ref a23, .ref a24, .ref a25, .ref a26, .ref a27, .ref a28])), (a1, .inl (g.2 0, 225, .inl mworld))] (S := (Nat → Int32) × (Nat → Nat → Int32) × (Nat → Nat → Int64)) (fun u => some (.int (u.1 0))) (fun u => (1 ≤ (u.1 0).toInt ∧ (u.1 0).toInt ≤ 128)) (fun u => [(h0, .inr (12, [.int mthrown, .ref a1, .ref a2, .ref a3, .ref a4, .int mtaped, .ref a6, .int msize, .int mat, .int mfrom, .int mtoken, .int mvalue, .int mfaultKind, .int mfaultPlace, .ref a14, .ref a15, .int mgoal, .int mgoalDays, .int mgoalHearer, .ref a19, .ref a20, .int mleastOrder, .int mwordsMany, .ref a23, .ref a24, .ref a25, .ref a26, .ref a27, .ref a28])), (a1, .inl (g.2 0, 225, .inl mworld))]) := by
  refine Ct.of (by decide) (Nat.le_of_ble_eq_true rfl) ?_
  intro p e s m below meth c A ls FX hP hD hS hl
  obtain ⟨FC, hr, hlk, hKn, hA, hnm, hZ⟩ := id FX
  have FC : CallFix p m c cX12_reallySet 1 s _ BIG RX12 := FC
  obtain ⟨hx, hb, hml, hown, hB⟩ := id FC
  have hl : lv_has ls 1 [(0, .ref h0)] := hl
  refine lv_iconst (v := 1) hx hb dX12_reallySet_0 (by decide) ?_
  refine lv_aload_n hx hb dX12_reallySet_1 rfl (lv_at hl 0 rfl) ?_
  refine g_get (C := RX12) (T := TX12) (N := 29) (ci := 12) (v := .ref a1) FC hKn hP i_X12 0 rfl rfl 1 (by decide) b_801 rfl dX12_reallySet_2 ?_
  refine lv_iconst (v := 1) hx hb dX12_reallySet_5 (by decide) ?_
  refine va_iald hx hb hKn.1 hP 1 0 rfl rfl (by unfold vp_in; decide) dX12_reallySet_6 ?_
  have kc1 : (1 : Int32).toInt = 1 := by decide
  refine lv_topi (fun z1 e_z1 => ?_)
  have t_z1 : 0 ≤ z1.toInt ∧ z1.toInt ≤ 7 := by rw [e_z1]; exact wk_1 i_mworld.1
  have q_z1 : z1.toInt = (mworld 1).toInt := by rw [e_z1]; rfl
  refine lv_ishl hx hb dX12_reallySet_7 ?_
  refine lv_topi (fun z2 e_z2 => ?_)
  have t_z2 : 1 ≤ z2.toInt ∧ z2.toInt ≤ 128 := by rw [e_z2]; exact shl_b (n := 7) (by omega) (by omega) (by decide)
  exact rt_i FX ((fun k => match k with | 0 => z2 | _ => 0), (fun _ => fun _ => 0), (fun _ => fun _ => 0)) rfl (show 1 ≤ z2.toInt ∧ z2.toInt ≤ 128 by omega) (hP.sub [0, 1] rfl) (hD.sub [0, 1] (by decide) rfl) hS (Nat.le_of_ble_eq_true rfl) (Nat.le_of_ble_eq_true rfl) dX12_reallySet_8
set_option maxRecDepth 100000 in
set_option maxHeartbeats 4000000 in
theorem k_X12_allHearers (l : Launch) (g : GG) (h0 : Nat) (a1 : Nat) (a2 : Nat) (a3 : Nat) (a4 : Nat) (a6 : Nat) (a14 : Nat) (a15 : Nat) (a19 : Nat) (a20 : Nat) (a23 : Nat) (a24 : Nat) (a25 : Nat) (a26 : Nat) (a27 : Nat) (a28 : Nat) (mthrown : Int32) (mtaped : Int32) (msize : Int32) (mat : Int32) (mfrom : Int32) (mtoken : Int32) (mvalue : Int32) (mfaultKind : Int32) (mfaultPlace : Int32) (mgoal : Int32) (mgoalDays : Int32) (mgoalHearer : Int32) (mleastOrder : Int32) (mwordsMany : Int32) (mworld : Nat → Int32) (i_mtaped : 0 ≤ mtaped.toInt ∧ mtaped.toInt ≤ 900) (i_msize : 0 ≤ msize.toInt ∧ msize.toInt ≤ 900) (i_mat : 0 ≤ mat.toInt ∧ mat.toInt ≤ 900) (i_mfrom : 0 ≤ mfrom.toInt ∧ mfrom.toInt ≤ 900) (i_mtoken : 0 ≤ mtoken.toInt ∧ mtoken.toInt ≤ 4) (i_mvalue : 0 ≤ mvalue.toInt ∧ mvalue.toInt ≤ 99999) (i_mgoalHearer : 0 ≤ mgoalHearer.toInt ∧ mgoalHearer.toInt ≤ 3) (i_mwordsMany : 0 ≤ mwordsMany.toInt ∧ mwordsMany.toInt ≤ 10) (i_mworld : wod mworld) : Ct l g yX12_allHearers cX12_allHearers 1 (some .int) { frames := 0, cells := 0, slots := 0, locals := 0 } [.ref h0] [(h0, .inr (12, [.int mthrown, .ref a1, .ref a2, .ref a3, .ref a4, .int mtaped, .ref a6, .int msize, .int mat, .int mfrom, .int mtoken, .int mvalue, .int mfaultKind, .int mfaultPlace, .ref a14, .ref a15, .int mgoal, .int mgoalDays, .int mgoalHearer, .ref a19, .ref a20, .int mleastOrder, .int mwordsMany, .ref a23, .ref a24, .ref a25, .ref a26, .ref a27, .ref a28])), (a1, .inl (g.2 0, 225, .inl mworld))] (S := (Nat → Int32) × (Nat → Nat → Int32) × (Nat → Nat → Int64)) (fun u => some (.int (u.1 0))) (fun u => (0 ≤ (u.1 0).toInt ∧ (u.1 0).toInt ≤ 15)) (fun u => [(h0, .inr (12, [.int mthrown, .ref a1, .ref a2, .ref a3, .ref a4, .int mtaped, .ref a6, .int msize, .int mat, .int mfrom, .int mtoken, .int mvalue, .int mfaultKind, .int mfaultPlace, .ref a14, .ref a15, .int mgoal, .int mgoalDays, .int mgoalHearer, .ref a19, .ref a20, .int mleastOrder, .int mwordsMany, .ref a23, .ref a24, .ref a25, .ref a26, .ref a27, .ref a28])), (a1, .inl (g.2 0, 225, .inl mworld))]) := by
  refine Ct.of (by decide) (Nat.le_of_ble_eq_true rfl) ?_
  intro p e s m below meth c A ls FX hP hD hS hl
  obtain ⟨FC, hr, hlk, hKn, hA, hnm, hZ⟩ := id FX
  have FC : CallFix p m c cX12_allHearers 1 s _ BIG RX12 := FC
  obtain ⟨hx, hb, hml, hown, hB⟩ := id FC
  have hl : lv_has ls 1 [(0, .ref h0)] := hl
  refine lv_iconst (v := 1) hx hb dX12_allHearers_0 (by decide) ?_
  refine lv_aload_n hx hb dX12_allHearers_1 rfl (lv_at hl 0 rfl) ?_
  refine g_get (C := RX12) (T := TX12) (N := 29) (ci := 12) (v := .ref a1) FC hKn hP i_X12 0 rfl rfl 1 (by decide) b_801 rfl dX12_allHearers_2 ?_
  refine lv_iconst (v := 5) hx hb dX12_allHearers_5 (by decide) ?_
  refine va_iald hx hb hKn.1 hP 1 0 rfl rfl (by unfold vp_in; decide) dX12_allHearers_6 ?_
  have kc5 : (5 : Int32).toInt = 5 := by decide
  refine lv_topi (fun z1 e_z1 => ?_)
  have t_z1 : 0 ≤ z1.toInt ∧ z1.toInt ≤ 4 := by rw [e_z1]; exact wk_5 i_mworld.1
  have q_z1 : z1.toInt = (mworld 5).toInt := by rw [e_z1]; rfl
  refine lv_ishl hx hb dX12_allHearers_7 ?_
  refine lv_topi (fun z2 e_z2 => ?_)
  have t_z2 : 1 ≤ z2.toInt ∧ z2.toInt ≤ 16 := by rw [e_z2]; exact shl_b (n := 4) (by omega) (by omega) (by decide)
  refine lv_iconst (v := 1) hx hb dX12_allHearers_8 (by decide) ?_
  refine lv_isub hx hb dX12_allHearers_9 ?_
  have kc1 : (1 : Int32).toInt = 1 := by decide
  refine lv_topi (fun z3 e_z3 => ?_)
  have t_z3 : z3.toInt = z2.toInt - ((1 : Int32)).toInt := by rw [e_z3]; exact fb_subI (by omega) (by omega)
  exact rt_i FX ((fun k => match k with | 0 => z3 | _ => 0), (fun _ => fun _ => 0), (fun _ => fun _ => 0)) rfl (show 0 ≤ z3.toInt ∧ z3.toInt ≤ 15 by omega) (hP.sub [0, 1] rfl) (hD.sub [0, 1] (by decide) rfl) hS (Nat.le_of_ble_eq_true rfl) (Nat.le_of_ble_eq_true rfl) dX12_allHearers_10
