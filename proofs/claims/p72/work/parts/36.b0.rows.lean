set_option maxRecDepth 100000 in
set_option maxHeartbeats 4000000 in
theorem k_J0_coder_7d493 (l : Launch) (g : GG) (ii : Nat) (hi : ii < 36) : Ct l g yJ0_coder_7d493 cJ0_coder_7d493 1 (some .byte) { frames := 0, cells := 0, slots := 0, locals := 0 } [.ref (sa g ii)] [] (S := (Nat → Int32) × (Nat → Nat → Int32) × (Nat → Nat → Int64)) (fun u => some (.int (u.1 0))) (fun u => (0 ≤ (u.1 0).toInt ∧ (u.1 0).toInt ≤ 0)) (fun u => []) := by
  refine Ct.of (by decide) (Nat.le_of_ble_eq_true rfl) ?_
  intro p e s m below meth c A ls FX hP hD hS hl
  obtain ⟨FC, hr, hlk, hKn, hA, hnm, hZ⟩ := id FX
  have FC : CallFix p m c cJ0_coder_7d493 1 s _ BIG RJ0 := FC
  obtain ⟨hx, hb, hml, hown, hB⟩ := id FC
  have hl : lv_has ls 1 [(0, .ref (sa g ii))] := hl
  obtain ⟨qs, hqs, hq1, hq2, hq3⟩ := str_q hi
  have hsl := sl_b hi
  refine va_gets hx hb hZ.1 hS hown (hB _ b_613) (fun _ h => h) dJ0_coder_7d493_0 ?_
  refine lv_if_eq (tgt := 13) hx hb dJ0_coder_7d493_3 (by decide) (fun h => absurd h (by decide)) (fun _ => ?_)
  refine lv_aload_n hx hb dJ0_coder_7d493_6 rfl (lv_at hl 0 rfl) ?_
  refine vk_getf hx hb (hZ.2.2 _ _ hqs).2.2.1 hS hown (hB _ b_614) (fun _ h => h) dJ0_coder_7d493_7 ?_
  refine lv_goto (tgt := 14) hx hb dJ0_coder_7d493_10 (by decide) ?_
  exact rt_y FX rfl ((fun k => match k with | 0 => (0 : Int32) | _ => 0), (fun _ => fun _ => 0), (fun _ => fun _ => 0)) rfl (show 0 ≤ ((0 : Int32)).toInt ∧ ((0 : Int32)).toInt ≤ 0 by decide) (hP.sub [] rfl) (hD.sub [] (by decide) rfl) hS (Nat.le_of_ble_eq_true rfl) (Nat.le_of_ble_eq_true rfl) dJ0_coder_7d493_14
set_option maxRecDepth 100000 in
set_option maxHeartbeats 4000000 in
theorem k_J0_isLatin1_aae02 (l : Launch) (g : GG) (ii : Nat) (hi : ii < 36) : Ct l g yJ0_isLatin1_aae02 cJ0_isLatin1_aae02 1 (some .boolean) { frames := 0, cells := 0, slots := 0, locals := 0 } [.ref (sa g ii)] [] (S := (Nat → Int32) × (Nat → Nat → Int32) × (Nat → Nat → Int64)) (fun u => some (.int (u.1 0))) (fun u => (1 ≤ (u.1 0).toInt ∧ (u.1 0).toInt ≤ 1)) (fun u => []) := by
  refine Ct.of (by decide) (Nat.le_of_ble_eq_true rfl) ?_
  intro p e s m below meth c A ls FX hP hD hS hl
  obtain ⟨FC, hr, hlk, hKn, hA, hnm, hZ⟩ := id FX
  have FC : CallFix p m c cJ0_isLatin1_aae02 1 s _ BIG RJ0 := FC
  obtain ⟨hx, hb, hml, hown, hB⟩ := id FC
  have hl : lv_has ls 1 [(0, .ref (sa g ii))] := hl
  obtain ⟨qs, hqs, hq1, hq2, hq3⟩ := str_q hi
  have hsl := sl_b hi
  refine va_gets hx hb hZ.1 hS hown (hB _ b_613) (fun _ h => h) dJ0_isLatin1_aae02_0 ?_
  refine lv_if_eq (tgt := 17) hx hb dJ0_isLatin1_aae02_3 (by decide) (fun h => absurd h (by decide)) (fun _ => ?_)
  refine lv_aload_n hx hb dJ0_isLatin1_aae02_6 rfl (lv_at hl 0 rfl) ?_
  refine vk_getf hx hb (hZ.2.2 _ _ hqs).2.2.1 hS hown (hB _ b_614) (fun _ h => h) dJ0_isLatin1_aae02_7 ?_
  refine lv_if_ne (tgt := 17) hx hb dJ0_isLatin1_aae02_10 (by decide) (fun h => absurd h (by decide)) (fun _ => ?_)
  refine lv_iconst (v := 1) hx hb dJ0_isLatin1_aae02_13 (by decide) ?_
  refine lv_goto (tgt := 18) hx hb dJ0_isLatin1_aae02_14 (by decide) ?_
  exact rt_z FX rfl ((fun k => match k with | 0 => (1 : Int32) | _ => 0), (fun _ => fun _ => 0), (fun _ => fun _ => 0)) rfl (show 1 ≤ ((1 : Int32)).toInt ∧ ((1 : Int32)).toInt ≤ 1 by decide) (hP.sub [] rfl) (hD.sub [] (by decide) rfl) hS (Nat.le_of_ble_eq_true rfl) (Nat.le_of_ble_eq_true rfl) dJ0_isLatin1_aae02_18
set_option maxRecDepth 100000 in
set_option maxHeartbeats 4000000 in
theorem k_J0_length_8abf5 (l : Launch) (g : GG) (ii : Nat) (hi : ii < 36) : Ct l g yJ0_length_8abf5 cJ0_length_8abf5 1 (some .int) { frames := 1, cells := 0, slots := 0, locals := 20 } [.ref (sa g ii)] [] (S := (Nat → Int32) × (Nat → Nat → Int32) × (Nat → Nat → Int64)) (fun u => some (.int (u.1 0))) (fun u => (1 ≤ (u.1 0).toInt ∧ (u.1 0).toInt ≤ 7) ∧ ((u.1 0).toInt = (sl ii).toInt)) (fun u => []) := by
  refine Ct.of (by decide) (Nat.le_of_ble_eq_true rfl) ?_
  intro p e s m below meth c A ls FX hP hD hS hl
  obtain ⟨FC, hr, hlk, hKn, hA, hnm, hZ⟩ := id FX
  have FC : CallFix p m c cJ0_length_8abf5 1 s _ BIG RJ0 := FC
  obtain ⟨hx, hb, hml, hown, hB⟩ := id FC
  have hl : lv_has ls 1 [(0, .ref (sa g ii))] := hl
  obtain ⟨qs, hqs, hq1, hq2, hq3⟩ := str_q hi
  have hsl := sl_b hi
  refine lv_aload_n hx hb dJ0_length_8abf5_0 rfl (lv_at hl 0 rfl) ?_
  refine vk_getf hx hb (hZ.2.2 _ _ hqs).2.2.2.1 hS hown (hB _ b_615) (fun _ h => h) dJ0_length_8abf5_1 ?_
  refine va_tlen hx hb (hZ.2.2 _ _ hqs).2.2.2.2 hS (v := sl ii) hq2 dJ0_length_8abf5_4 ?_
  refine lv_aload_n hx hb dJ0_length_8abf5_5 rfl (lv_at hl 0 rfl) ?_
  refine call_VS (As := []) (rest := [.int (sl ii)]) (wr := []) FC hKn hZ (k_J0_coder_7d493 l g ii (by omega)) m_yJ0_coder_7d493 b_616 (hZ.recv hS (by omega)) hP hD hS hA [] [] rfl (by decide) rfl (by decide) (by decide) rfl hl.1 rfl (Nat.le_of_ble_eq_true rfl) dJ0_length_8abf5_6 ⟨(Nat.le_of_ble_eq_true rfl), (Nat.le_of_ble_eq_true rfl)⟩ ⟨(Nat.le_of_ble_eq_true rfl), (Nat.le_of_ble_eq_true rfl)⟩ (fun u1 H locs q2 hP hD hS => ?_)
  have q2_0 : 0 ≤ (u1.1 0).toInt ∧ (u1.1 0).toInt ≤ 0 := q2
  have hP : va_P g.1 vwCl [] H := hP
  have hD : va_D A [] := hD
  refine W.eq (g2 := F0 m 9 ls [.int (u1.1 0), .int (sl ii)]) rfl ?_
  refine tp_i (v := 0) (Int32.toInt_inj.mp (show (u1.1 0).toInt = (0 : Int32).toInt by rw [show (0 : Int32).toInt = 0 by decide]; omega)) ?_
  refine lv_ishr hx hb dJ0_length_8abf5_9 ?_
  refine tp_i (v := sl ii) (sl_shr (by omega)) ?_
  exact rt_i FX ((fun k => match k with | 0 => sl ii | _ => 0), (fun _ => fun _ => 0), (fun _ => fun _ => 0)) rfl ⟨(show 1 ≤ (sl ii).toInt ∧ (sl ii).toInt ≤ 7 by omega), (show (sl ii).toInt = (sl ii).toInt by omega)⟩ (hP.sub [] rfl) (hD.sub [] (by decide) rfl) hS (Nat.le_of_ble_eq_true rfl) (Nat.le_of_ble_eq_true rfl) dJ0_length_8abf5_10
set_option maxRecDepth 100000 in
set_option maxHeartbeats 4000000 in
theorem k_pci_n (l : Launch) (g : GG) (p0 : Int32) (p1 : Int32) (hrr : 0 ≤ p0.toInt ∧ p0.toInt < p1.toInt) : Ct l g yJ3_checkIndex_8e157 cJ3_checkIndex_8e157 3 (some .int) { frames := 0, cells := 0, slots := 0, locals := 0 } [.int p0, .int p1, .null] [] (S := (Nat → Int32) × (Nat → Nat → Int32) × (Nat → Nat → Int64)) (fun u => some (.int (u.1 0))) (fun u => True) (fun u => []) := by
  refine Ct.of (by decide) (Nat.le_of_ble_eq_true rfl) ?_
  intro p e s m below meth c A ls FX hP hD hS hl
  obtain ⟨FC, hr, hlk, hKn, hA, hnm, hZ⟩ := id FX
  have FC : CallFix p m c cJ3_checkIndex_8e157 3 s _ BIG RJ3 := FC
  obtain ⟨hx, hb, hml, hown, hB⟩ := id FC
  have hl : lv_has ls 3 [(0, .int p0), (1, .int p1), (2, .null)] := hl
  refine lv_iload_n hx hb dJ3_checkIndex_8e157_0 rfl (lv_at hl 0 rfl) ?_
  refine lv_if_lt (tgt := 9) hx hb dJ3_checkIndex_8e157_1 (by decide) (fun c1 => ?_) (fun c1 => ?_)
  · have c1 := k_lt (a := p0.toInt) (b := 0) rfl (by decide) c1
    exfalso; omega
  · have c1 := k_nlt (a := p0.toInt) (b := 0) rfl (by decide) c1
    refine lv_iload_n hx hb dJ3_checkIndex_8e157_4 rfl (lv_at hl 0 rfl) ?_
    refine lv_iload_n hx hb dJ3_checkIndex_8e157_5 rfl (lv_at hl 1 rfl) ?_
    refine lv_icmp_lt (tgt := 16) hx hb dJ3_checkIndex_8e157_6 (by decide) (fun c2 => ?_) (fun c2 => ?_)
    · have c2 := k_lt (a := p0.toInt) (b := p1.toInt) rfl rfl c2
      refine lv_iload_n hx hb dJ3_checkIndex_8e157_16 rfl (lv_at hl 0 rfl) ?_
      exact rt_i FX ((fun k => match k with | 0 => p0 | _ => 0), (fun _ => fun _ => 0), (fun _ => fun _ => 0)) rfl trivial (hP.sub [] rfl) (hD.sub [] (by decide) rfl) hS (Nat.le_of_ble_eq_true rfl) (Nat.le_of_ble_eq_true rfl) dJ3_checkIndex_8e157_17
    · have c2 := k_nlt (a := p0.toInt) (b := p1.toInt) rfl rfl c2
      exfalso; omega
set_option maxRecDepth 100000 in
set_option maxHeartbeats 4000000 in
theorem k_pci_r (l : Launch) (g : GG) (tq : Nat) (p0 : Int32) (p1 : Int32) (hrr : 0 ≤ p0.toInt ∧ p0.toInt < p1.toInt) : Ct l g yJ3_checkIndex_8e157 cJ3_checkIndex_8e157 3 (some .int) { frames := 0, cells := 0, slots := 0, locals := 0 } [.int p0, .int p1, .ref tq] [] (S := (Nat → Int32) × (Nat → Nat → Int32) × (Nat → Nat → Int64)) (fun u => some (.int (u.1 0))) (fun u => True) (fun u => []) := by
  refine Ct.of (by decide) (Nat.le_of_ble_eq_true rfl) ?_
  intro p e s m below meth c A ls FX hP hD hS hl
  obtain ⟨FC, hr, hlk, hKn, hA, hnm, hZ⟩ := id FX
  have FC : CallFix p m c cJ3_checkIndex_8e157 3 s _ BIG RJ3 := FC
  obtain ⟨hx, hb, hml, hown, hB⟩ := id FC
  have hl : lv_has ls 3 [(0, .int p0), (1, .int p1), (2, .ref tq)] := hl
  refine lv_iload_n hx hb dJ3_checkIndex_8e157_0 rfl (lv_at hl 0 rfl) ?_
  refine lv_if_lt (tgt := 9) hx hb dJ3_checkIndex_8e157_1 (by decide) (fun c1 => ?_) (fun c1 => ?_)
  · have c1 := k_lt (a := p0.toInt) (b := 0) rfl (by decide) c1
    exfalso; omega
  · have c1 := k_nlt (a := p0.toInt) (b := 0) rfl (by decide) c1
    refine lv_iload_n hx hb dJ3_checkIndex_8e157_4 rfl (lv_at hl 0 rfl) ?_
    refine lv_iload_n hx hb dJ3_checkIndex_8e157_5 rfl (lv_at hl 1 rfl) ?_
    refine lv_icmp_lt (tgt := 16) hx hb dJ3_checkIndex_8e157_6 (by decide) (fun c2 => ?_) (fun c2 => ?_)
    · have c2 := k_lt (a := p0.toInt) (b := p1.toInt) rfl rfl c2
      refine lv_iload_n hx hb dJ3_checkIndex_8e157_16 rfl (lv_at hl 0 rfl) ?_
      exact rt_i FX ((fun k => match k with | 0 => p0 | _ => 0), (fun _ => fun _ => 0), (fun _ => fun _ => 0)) rfl trivial (hP.sub [] rfl) (hD.sub [] (by decide) rfl) hS (Nat.le_of_ble_eq_true rfl) (Nat.le_of_ble_eq_true rfl) dJ3_checkIndex_8e157_17
    · have c2 := k_nlt (a := p0.toInt) (b := p1.toInt) rfl rfl c2
      exfalso; omega
set_option maxRecDepth 100000 in
set_option maxHeartbeats 4000000 in
theorem k_J0_checkIndex_df160 (l : Launch) (g : GG) (p0 : Int32) (p1 : Int32) (hrr : 0 ≤ p0.toInt ∧ p0.toInt < p1.toInt) : Ct l g yJ0_checkIndex_df160 cJ0_checkIndex_df160 2 none { frames := 1, cells := 0, slots := 0, locals := 22 } [.int p0, .int p1] [] (S := (Nat → Int32) × (Nat → Nat → Int32) × (Nat → Nat → Int64)) (fun _ => none) (fun u => True) (fun u => []) := by
  refine Ct.of (by decide) (Nat.le_of_ble_eq_true rfl) ?_
  intro p e s m below meth c A ls FX hP hD hS hl
  obtain ⟨FC, hr, hlk, hKn, hA, hnm, hZ⟩ := id FX
  have FC : CallFix p m c cJ0_checkIndex_df160 2 s _ BIG RJ0 := FC
  obtain ⟨hx, hb, hml, hown, hB⟩ := id FC
  have hl : lv_has ls 2 [(0, .int p0), (1, .int p1)] := hl
  refine lv_iload_n hx hb dJ0_checkIndex_df160_0 rfl (lv_at hl 0 rfl) ?_
  refine lv_iload_n hx hb dJ0_checkIndex_df160_1 rfl (lv_at hl 1 rfl) ?_
  rcases hZ.2.1 with hzq | ⟨tq, hzq⟩
  · refine va_gets hx hb hzq hS hown (hB _ b_617) (fun _ h => h) dJ0_checkIndex_df160_2 ?_
    refine call_S (As := [.int p0, .int p1, .null]) (rest := []) (wr := []) FC hKn hZ (k_pci_n l g p0 p1 (by omega)) m_yJ3_checkIndex_8e157 b_618 hP hD hS hA [] [] rfl (by decide) rfl (by decide) (by decide) rfl hl.1 rfl (Nat.le_of_ble_eq_true rfl) dJ0_checkIndex_df160_5 ⟨(Nat.le_of_ble_eq_true rfl), (Nat.le_of_ble_eq_true rfl)⟩ ⟨(Nat.le_of_ble_eq_true rfl), (Nat.le_of_ble_eq_true rfl)⟩ (fun u1 H locs q2 hP hD hS => ?_)
    have hP : va_P g.1 vwCl [] H := hP
    have hD : va_D A [] := hD
    refine W.eq (g2 := F0 m 8 ls [.int (u1.1 0)]) rfl ?_
    refine lv_pop hx hb dJ0_checkIndex_df160_8 rfl ?_
    exact rt_v FX ((fun k => match k with | 0 => 0 | _ => 0), (fun _ => fun _ => 0), (fun _ => fun _ => 0)) rfl trivial (hP.sub [] rfl) (hD.sub [] (by decide) rfl) hS (Nat.le_of_ble_eq_true rfl) (Nat.le_of_ble_eq_true rfl) dJ0_checkIndex_df160_9
  · refine va_gets hx hb hzq hS hown (hB _ b_617) (fun _ h => h) dJ0_checkIndex_df160_2 ?_
    refine call_S (As := [.int p0, .int p1, .ref tq]) (rest := []) (wr := []) FC hKn hZ (k_pci_r l g tq p0 p1 (by omega)) m_yJ3_checkIndex_8e157 b_618 hP hD hS hA [] [] rfl (by decide) rfl (by decide) (by decide) rfl hl.1 rfl (Nat.le_of_ble_eq_true rfl) dJ0_checkIndex_df160_5 ⟨(Nat.le_of_ble_eq_true rfl), (Nat.le_of_ble_eq_true rfl)⟩ ⟨(Nat.le_of_ble_eq_true rfl), (Nat.le_of_ble_eq_true rfl)⟩ (fun u3 H locs q4 hP hD hS => ?_)
    have hP : va_P g.1 vwCl [] H := hP
    have hD : va_D A [] := hD
    refine W.eq (g2 := F0 m 8 ls [.int (u3.1 0)]) rfl ?_
    refine lv_pop hx hb dJ0_checkIndex_df160_8 rfl ?_
    exact rt_v FX ((fun k => match k with | 0 => 0 | _ => 0), (fun _ => fun _ => 0), (fun _ => fun _ => 0)) rfl trivial (hP.sub [] rfl) (hD.sub [] (by decide) rfl) hS (Nat.le_of_ble_eq_true rfl) (Nat.le_of_ble_eq_true rfl) dJ0_checkIndex_df160_9
set_option maxRecDepth 100000 in
set_option maxHeartbeats 4000000 in
theorem k_J1_charAt_3b067 (l : Launch) (g : GG) (ii : Nat) (p1 : Int32) (hi : ii < 36) (hrr : 0 ≤ p1.toInt ∧ p1.toInt < (sl ii).toInt) : Ct l g yJ1_charAt_3b067 cJ1_charAt_3b067 2 (some .char) { frames := 2, cells := 0, slots := 0, locals := 43 } [.ref (sv g ii), .int p1] [] (S := (Nat → Int32) × (Nat → Nat → Int32) × (Nat → Nat → Int64)) (fun u => some (.int (u.1 0))) (fun u => (u.1 0 = chr ii p1.toNatClampNeg)) (fun u => []) := by
  refine Ct.of (by decide) (Nat.le_of_ble_eq_true rfl) ?_
  intro p e s m below meth c A ls FX hP hD hS hl
  obtain ⟨FC, hr, hlk, hKn, hA, hnm, hZ⟩ := id FX
  have FC : CallFix p m c cJ1_charAt_3b067 2 s _ BIG RJ1 := FC
  obtain ⟨hx, hb, hml, hown, hB⟩ := id FC
  have hl : lv_has ls 2 [(0, .ref (sv g ii)), (1, .int p1)] := hl
  obtain ⟨qs, hqs, hq1, hq2, hq3⟩ := str_q hi
  have hsl := sl_b hi
  refine lv_iload_n hx hb dJ1_charAt_3b067_0 rfl (lv_at hl 1 rfl) ?_
  refine lv_aload_n hx hb dJ1_charAt_3b067_1 rfl (lv_at hl 0 rfl) ?_
  refine va_tlen hx hb (hZ.2.2 _ _ hqs).2.2.2.2 hS (v := sl ii) hq2 dJ1_charAt_3b067_2 ?_
  refine call_S (As := [.int p1, .int (sl ii)]) (rest := []) (wr := []) FC hKn hZ (k_J0_checkIndex_df160 l g p1 (sl ii) (by omega)) m_yJ0_checkIndex_df160 b_619 hP hD hS hA [] [] rfl (by decide) rfl (by decide) (by decide) rfl hl.1 rfl (Nat.le_of_ble_eq_true rfl) dJ1_charAt_3b067_3 ⟨(Nat.le_of_ble_eq_true rfl), (Nat.le_of_ble_eq_true rfl)⟩ ⟨(Nat.le_of_ble_eq_true rfl), (Nat.le_of_ble_eq_true rfl)⟩ (fun u1 H locs q2 hP hD hS => ?_)
  have hP : va_P g.1 vwCl [] H := hP
  have hD : va_D A [] := hD
  refine W.eq (g2 := F0 m 6 ls []) rfl ?_
  refine lv_aload_n hx hb dJ1_charAt_3b067_6 rfl (lv_at hl 0 rfl) ?_
  refine lv_iload_n hx hb dJ1_charAt_3b067_7 rfl (lv_at hl 1 rfl) ?_
  refine va_tb hx hb (hZ.2.2 _ _ hqs).2.2.2.2 hS (vp_in_iff.mpr ⟨by omega, by omega⟩) (v := .int (sch ii p1.toNatClampNeg)) (congrArg Value.int (hq3 _)) dJ1_charAt_3b067_8 ?_
  refine lv_sipush (v := 255) hx hb dJ1_charAt_3b067_9 (by decide) ?_
  refine lv_iand hx hb dJ1_charAt_3b067_12 ?_
  refine lv_i2c hx hb dJ1_charAt_3b067_13 (sc_c2 _) ?_
  exact rt_y FX (sc_nar _) ((fun k => match k with | 0 => sch ii p1.toNatClampNeg &&& 255 | _ => 0), (fun _ => fun _ => 0), (fun _ => fun _ => 0)) rfl (show sch ii p1.toNatClampNeg &&& 255 = chr ii p1.toNatClampNeg from (show _ = _ from rfl)) (hP.sub [] rfl) (hD.sub [] (by decide) rfl) hS (Nat.le_of_ble_eq_true rfl) (Nat.le_of_ble_eq_true rfl) dJ1_charAt_3b067_14
set_option maxRecDepth 100000 in
set_option maxHeartbeats 4000000 in
theorem k_J0_charAt_5068e (l : Launch) (g : GG) (ii : Nat) (p1 : Int32) (hi : ii < 36) (hrr : 0 ≤ p1.toInt ∧ p1.toInt < (sl ii).toInt) : Ct l g yJ0_charAt_5068e cJ0_charAt_5068e 2 (some .char) { frames := 3, cells := 0, slots := 0, locals := 64 } [.ref (sa g ii), .int p1] [] (S := (Nat → Int32) × (Nat → Nat → Int32) × (Nat → Nat → Int64)) (fun u => some (.int (u.1 0))) (fun u => (u.1 0 = chr ii p1.toNatClampNeg)) (fun u => []) := by
  refine Ct.of (by decide) (Nat.le_of_ble_eq_true rfl) ?_
  intro p e s m below meth c A ls FX hP hD hS hl
  obtain ⟨FC, hr, hlk, hKn, hA, hnm, hZ⟩ := id FX
  have FC : CallFix p m c cJ0_charAt_5068e 2 s _ BIG RJ0 := FC
  obtain ⟨hx, hb, hml, hown, hB⟩ := id FC
  have hl : lv_has ls 2 [(0, .ref (sa g ii)), (1, .int p1)] := hl
  obtain ⟨qs, hqs, hq1, hq2, hq3⟩ := str_q hi
  have hsl := sl_b hi
  refine lv_aload_n hx hb dJ0_charAt_5068e_0 rfl (lv_at hl 0 rfl) ?_
  refine call_VS (As := []) (rest := []) (wr := []) FC hKn hZ (k_J0_isLatin1_aae02 l g ii (by omega)) m_yJ0_isLatin1_aae02 b_620 (hZ.recv hS (by omega)) hP hD hS hA [] [] rfl (by decide) rfl (by decide) (by decide) rfl hl.1 rfl (Nat.le_of_ble_eq_true rfl) dJ0_charAt_5068e_1 ⟨(Nat.le_of_ble_eq_true rfl), (Nat.le_of_ble_eq_true rfl)⟩ ⟨(Nat.le_of_ble_eq_true rfl), (Nat.le_of_ble_eq_true rfl)⟩ (fun u1 H locs q2 hP hD hS => ?_)
  have q2_0 : 1 ≤ (u1.1 0).toInt ∧ (u1.1 0).toInt ≤ 1 := q2
  have hP : va_P g.1 vwCl [] H := hP
  have hD : va_D A [] := hD
  refine W.eq (g2 := F0 m 4 ls [.int (u1.1 0)]) rfl ?_
  refine tp_i (v := 1) (Int32.toInt_inj.mp (show (u1.1 0).toInt = (1 : Int32).toInt by rw [show (1 : Int32).toInt = 1 by decide]; omega)) ?_
  refine lv_if_eq (tgt := 16) hx hb dJ0_charAt_5068e_4 (by decide) (fun h => absurd h (by decide)) (fun _ => ?_)
  refine lv_aload_n hx hb dJ0_charAt_5068e_7 rfl (lv_at hl 0 rfl) ?_
  refine vk_getf hx hb (hZ.2.2 _ _ hqs).2.2.2.1 hS hown (hB _ b_615) (fun _ h => h) dJ0_charAt_5068e_8 ?_
  refine lv_iload_n hx hb dJ0_charAt_5068e_11 rfl (lv_at hl 1 rfl) ?_
  refine call_S (As := [.ref (sv g ii), .int p1]) (rest := []) (wr := []) FC hKn hZ (k_J1_charAt_3b067 l g ii p1 (by omega) (by omega)) m_yJ1_charAt_3b067 b_621 hP hD hS hA [] [] rfl (by decide) rfl (by decide) (by decide) rfl hl.1 rfl (Nat.le_of_ble_eq_true rfl) dJ0_charAt_5068e_12 ⟨(Nat.le_of_ble_eq_true rfl), (Nat.le_of_ble_eq_true rfl)⟩ ⟨(Nat.le_of_ble_eq_true rfl), (Nat.le_of_ble_eq_true rfl)⟩ (fun u3 H locs q4 hP hD hS => ?_)
  have q4_0 : u3.1 0 = chr ii p1.toNatClampNeg := q4
  have hP : va_P g.1 vwCl [] H := hP
  have hD : va_D A [] := hD
  refine W.eq (g2 := F0 m 15 ls [.int (u3.1 0)]) rfl ?_
  refine tp_i (v := chr ii p1.toNatClampNeg) q4_0 ?_
  exact rt_y FX (sc_nar _) ((fun k => match k with | 0 => chr ii p1.toNatClampNeg | _ => 0), (fun _ => fun _ => 0), (fun _ => fun _ => 0)) rfl (show chr ii p1.toNatClampNeg = chr ii p1.toNatClampNeg from (show _ = _ from rfl)) (hP.sub [] rfl) (hD.sub [] (by decide) rfl) hS (Nat.le_of_ble_eq_true rfl) (Nat.le_of_ble_eq_true rfl) dJ0_charAt_5068e_15
