set_option maxRecDepth 100000 in
set_option maxHeartbeats 4000000 in
theorem k_bitCount_15 (l : Launch) (g : GG) (p1 : Int32) (i_p1 : 0 ≤ p1.toInt ∧ p1.toInt ≤ 15) : Ct l g yJ6_bitCount_0f7a4 cJ6_bitCount_0f7a4 1 (some .int) { frames := 0, cells := 0, slots := 0, locals := 0 } [.int p1] [] (S := (Nat → Int32) × (Nat → Nat → Int32) × (Nat → Nat → Int64)) (fun u => some (.int (u.1 0))) (fun u => (0 ≤ (u.1 0).toInt ∧ (u.1 0).toInt ≤ 4) ∧ ((u.1 0).toInt = 1 → 1 ≤ p1.toInt)) (fun u => []) := by
  refine Ct.of (by decide) (Nat.le_of_ble_eq_true rfl) ?_
  intro p e s m below meth c A ls FX hP hD hS hl
  obtain ⟨FC, hr, hlk, hKn, hA, hnm, hZ⟩ := id FX
  have FC : CallFix p m c cJ6_bitCount_0f7a4 1 s _ BIG RJ6 := FC
  obtain ⟨hx, hb, hml, hown, hB⟩ := id FC
  have hl : lv_has ls 1 [(0, .int p1)] := hl
  rcases (show p1.toInt = 0 ∨ p1.toInt = 1 ∨ p1.toInt = 2 ∨ p1.toInt = 3 ∨ p1.toInt = 4 ∨ p1.toInt = 5 ∨ p1.toInt = 6 ∨ p1.toInt = 7 ∨ p1.toInt = 8 ∨ p1.toInt = 9 ∨ p1.toInt = 10 ∨ p1.toInt = 11 ∨ p1.toInt = 12 ∨ p1.toInt = 13 ∨ p1.toInt = 14 ∨ p1.toInt = 15 by omega) with hv | hv | hv | hv | hv | hv | hv | hv | hv | hv | hv | hv | hv | hv | hv | hv
  · obtain rfl : p1 = 0 := Int32.toInt_inj.mp (hv.trans (by decide))
    refine lv_iload_n hx hb dJ6_bitCount_0f7a4_0 rfl (lv_at hl 0 rfl) ?_
    refine lv_iload_n hx hb dJ6_bitCount_0f7a4_1 rfl (lv_at hl 0 rfl) ?_
    refine lv_iconst (v := 1) hx hb dJ6_bitCount_0f7a4_2 (by decide) ?_
    refine lv_iushr hx hb dJ6_bitCount_0f7a4_3 rfl ?_
    refine tp_i (v := 0) (by decide) ?_
    refine lv_ldcw hx hb hown (hB _ b_267) dJ6_bitCount_0f7a4_4 ?_
    refine lv_iand hx hb dJ6_bitCount_0f7a4_7 ?_
    refine tp_i (v := 0) (by decide) ?_
    refine lv_isub hx hb dJ6_bitCount_0f7a4_8 ?_
    refine tp_i (v := 0) (by decide) ?_
    refine lv_istore_n (lv' := [(0, .int 0)]) hx hb dJ6_bitCount_0f7a4_9 rfl hl (by decide) rfl (fun ls hl => ?_)
    refine lv_iload_n hx hb dJ6_bitCount_0f7a4_10 rfl (lv_at hl 0 rfl) ?_
    refine lv_ldcw hx hb hown (hB _ b_268) dJ6_bitCount_0f7a4_11 ?_
    refine lv_iand hx hb dJ6_bitCount_0f7a4_14 ?_
    refine tp_i (v := 0) (by decide) ?_
    refine lv_iload_n hx hb dJ6_bitCount_0f7a4_15 rfl (lv_at hl 0 rfl) ?_
    refine lv_iconst (v := 2) hx hb dJ6_bitCount_0f7a4_16 (by decide) ?_
    refine lv_iushr hx hb dJ6_bitCount_0f7a4_17 rfl ?_
    refine tp_i (v := 0) (by decide) ?_
    refine lv_ldcw hx hb hown (hB _ b_268) dJ6_bitCount_0f7a4_18 ?_
    refine lv_iand hx hb dJ6_bitCount_0f7a4_21 ?_
    refine tp_i (v := 0) (by decide) ?_
    refine lv_iadd hx hb dJ6_bitCount_0f7a4_22 ?_
    refine tp_i (v := 0) (by decide) ?_
    refine lv_istore_n (lv' := [(0, .int 0)]) hx hb dJ6_bitCount_0f7a4_23 rfl hl (by decide) rfl (fun ls hl => ?_)
    refine lv_iload_n hx hb dJ6_bitCount_0f7a4_24 rfl (lv_at hl 0 rfl) ?_
    refine lv_iload_n hx hb dJ6_bitCount_0f7a4_25 rfl (lv_at hl 0 rfl) ?_
    refine lv_iconst (v := 4) hx hb dJ6_bitCount_0f7a4_26 (by decide) ?_
    refine lv_iushr hx hb dJ6_bitCount_0f7a4_27 rfl ?_
    refine tp_i (v := 0) (by decide) ?_
    refine lv_iadd hx hb dJ6_bitCount_0f7a4_28 ?_
    refine tp_i (v := 0) (by decide) ?_
    refine lv_ldcw hx hb hown (hB _ b_269) dJ6_bitCount_0f7a4_29 ?_
    refine lv_iand hx hb dJ6_bitCount_0f7a4_32 ?_
    refine tp_i (v := 0) (by decide) ?_
    refine lv_istore_n (lv' := [(0, .int 0)]) hx hb dJ6_bitCount_0f7a4_33 rfl hl (by decide) rfl (fun ls hl => ?_)
    refine lv_iload_n hx hb dJ6_bitCount_0f7a4_34 rfl (lv_at hl 0 rfl) ?_
    refine lv_iload_n hx hb dJ6_bitCount_0f7a4_35 rfl (lv_at hl 0 rfl) ?_
    refine lv_bipush (v := 8) hx hb dJ6_bitCount_0f7a4_36 (by decide) ?_
    refine lv_iushr hx hb dJ6_bitCount_0f7a4_38 rfl ?_
    refine tp_i (v := 0) (by decide) ?_
    refine lv_iadd hx hb dJ6_bitCount_0f7a4_39 ?_
    refine tp_i (v := 0) (by decide) ?_
    refine lv_istore_n (lv' := [(0, .int 0)]) hx hb dJ6_bitCount_0f7a4_40 rfl hl (by decide) rfl (fun ls hl => ?_)
    refine lv_iload_n hx hb dJ6_bitCount_0f7a4_41 rfl (lv_at hl 0 rfl) ?_
    refine lv_iload_n hx hb dJ6_bitCount_0f7a4_42 rfl (lv_at hl 0 rfl) ?_
    refine lv_bipush (v := 16) hx hb dJ6_bitCount_0f7a4_43 (by decide) ?_
    refine lv_iushr hx hb dJ6_bitCount_0f7a4_45 rfl ?_
    refine tp_i (v := 0) (by decide) ?_
    refine lv_iadd hx hb dJ6_bitCount_0f7a4_46 ?_
    refine tp_i (v := 0) (by decide) ?_
    refine lv_istore_n (lv' := [(0, .int 0)]) hx hb dJ6_bitCount_0f7a4_47 rfl hl (by decide) rfl (fun ls hl => ?_)
    refine lv_iload_n hx hb dJ6_bitCount_0f7a4_48 rfl (lv_at hl 0 rfl) ?_
    refine lv_bipush (v := 63) hx hb dJ6_bitCount_0f7a4_49 (by decide) ?_
    refine lv_iand hx hb dJ6_bitCount_0f7a4_51 ?_
    refine tp_i (v := 0) (by decide) ?_
    have kc0 : (0 : Int32).toInt = 0 := by decide
    exact rt_i FX ((fun k => match k with | 0 => (0 : Int32) | _ => 0), (fun _ => fun _ => 0), (fun _ => fun _ => 0)) rfl ⟨(show 0 ≤ ((0 : Int32)).toInt ∧ ((0 : Int32)).toInt ≤ 4 by decide), (show ((0 : Int32)).toInt = 1 → 1 ≤ (0 : Int32).toInt by omega)⟩ (hP.sub [] rfl) (hD.sub [] (by decide) rfl) hS (Nat.le_of_ble_eq_true rfl) (Nat.le_of_ble_eq_true rfl) dJ6_bitCount_0f7a4_52
  · obtain rfl : p1 = 1 := Int32.toInt_inj.mp (hv.trans (by decide))
    refine lv_iload_n hx hb dJ6_bitCount_0f7a4_0 rfl (lv_at hl 0 rfl) ?_
    refine lv_iload_n hx hb dJ6_bitCount_0f7a4_1 rfl (lv_at hl 0 rfl) ?_
    refine lv_iconst (v := 1) hx hb dJ6_bitCount_0f7a4_2 (by decide) ?_
    refine lv_iushr hx hb dJ6_bitCount_0f7a4_3 rfl ?_
    refine tp_i (v := 0) (by decide) ?_
    refine lv_ldcw hx hb hown (hB _ b_267) dJ6_bitCount_0f7a4_4 ?_
    refine lv_iand hx hb dJ6_bitCount_0f7a4_7 ?_
    refine tp_i (v := 0) (by decide) ?_
    refine lv_isub hx hb dJ6_bitCount_0f7a4_8 ?_
    refine tp_i (v := 1) (by decide) ?_
    refine lv_istore_n (lv' := [(0, .int 1)]) hx hb dJ6_bitCount_0f7a4_9 rfl hl (by decide) rfl (fun ls hl => ?_)
    refine lv_iload_n hx hb dJ6_bitCount_0f7a4_10 rfl (lv_at hl 0 rfl) ?_
    refine lv_ldcw hx hb hown (hB _ b_268) dJ6_bitCount_0f7a4_11 ?_
    refine lv_iand hx hb dJ6_bitCount_0f7a4_14 ?_
    refine tp_i (v := 1) (by decide) ?_
    refine lv_iload_n hx hb dJ6_bitCount_0f7a4_15 rfl (lv_at hl 0 rfl) ?_
    refine lv_iconst (v := 2) hx hb dJ6_bitCount_0f7a4_16 (by decide) ?_
    refine lv_iushr hx hb dJ6_bitCount_0f7a4_17 rfl ?_
    refine tp_i (v := 0) (by decide) ?_
    refine lv_ldcw hx hb hown (hB _ b_268) dJ6_bitCount_0f7a4_18 ?_
    refine lv_iand hx hb dJ6_bitCount_0f7a4_21 ?_
    refine tp_i (v := 0) (by decide) ?_
    refine lv_iadd hx hb dJ6_bitCount_0f7a4_22 ?_
    refine tp_i (v := 1) (by decide) ?_
    refine lv_istore_n (lv' := [(0, .int 1)]) hx hb dJ6_bitCount_0f7a4_23 rfl hl (by decide) rfl (fun ls hl => ?_)
    refine lv_iload_n hx hb dJ6_bitCount_0f7a4_24 rfl (lv_at hl 0 rfl) ?_
    refine lv_iload_n hx hb dJ6_bitCount_0f7a4_25 rfl (lv_at hl 0 rfl) ?_
    refine lv_iconst (v := 4) hx hb dJ6_bitCount_0f7a4_26 (by decide) ?_
    refine lv_iushr hx hb dJ6_bitCount_0f7a4_27 rfl ?_
    refine tp_i (v := 0) (by decide) ?_
    refine lv_iadd hx hb dJ6_bitCount_0f7a4_28 ?_
    refine tp_i (v := 1) (by decide) ?_
    refine lv_ldcw hx hb hown (hB _ b_269) dJ6_bitCount_0f7a4_29 ?_
    refine lv_iand hx hb dJ6_bitCount_0f7a4_32 ?_
    refine tp_i (v := 1) (by decide) ?_
    refine lv_istore_n (lv' := [(0, .int 1)]) hx hb dJ6_bitCount_0f7a4_33 rfl hl (by decide) rfl (fun ls hl => ?_)
    refine lv_iload_n hx hb dJ6_bitCount_0f7a4_34 rfl (lv_at hl 0 rfl) ?_
    refine lv_iload_n hx hb dJ6_bitCount_0f7a4_35 rfl (lv_at hl 0 rfl) ?_
    refine lv_bipush (v := 8) hx hb dJ6_bitCount_0f7a4_36 (by decide) ?_
    refine lv_iushr hx hb dJ6_bitCount_0f7a4_38 rfl ?_
    refine tp_i (v := 0) (by decide) ?_
    refine lv_iadd hx hb dJ6_bitCount_0f7a4_39 ?_
    refine tp_i (v := 1) (by decide) ?_
    refine lv_istore_n (lv' := [(0, .int 1)]) hx hb dJ6_bitCount_0f7a4_40 rfl hl (by decide) rfl (fun ls hl => ?_)
    refine lv_iload_n hx hb dJ6_bitCount_0f7a4_41 rfl (lv_at hl 0 rfl) ?_
    refine lv_iload_n hx hb dJ6_bitCount_0f7a4_42 rfl (lv_at hl 0 rfl) ?_
    refine lv_bipush (v := 16) hx hb dJ6_bitCount_0f7a4_43 (by decide) ?_
    refine lv_iushr hx hb dJ6_bitCount_0f7a4_45 rfl ?_
    refine tp_i (v := 0) (by decide) ?_
    refine lv_iadd hx hb dJ6_bitCount_0f7a4_46 ?_
    refine tp_i (v := 1) (by decide) ?_
    refine lv_istore_n (lv' := [(0, .int 1)]) hx hb dJ6_bitCount_0f7a4_47 rfl hl (by decide) rfl (fun ls hl => ?_)
    refine lv_iload_n hx hb dJ6_bitCount_0f7a4_48 rfl (lv_at hl 0 rfl) ?_
    refine lv_bipush (v := 63) hx hb dJ6_bitCount_0f7a4_49 (by decide) ?_
    refine lv_iand hx hb dJ6_bitCount_0f7a4_51 ?_
    refine tp_i (v := 1) (by decide) ?_
    have kc1 : (1 : Int32).toInt = 1 := by decide
    exact rt_i FX ((fun k => match k with | 0 => (1 : Int32) | _ => 0), (fun _ => fun _ => 0), (fun _ => fun _ => 0)) rfl ⟨(show 0 ≤ ((1 : Int32)).toInt ∧ ((1 : Int32)).toInt ≤ 4 by decide), (show ((1 : Int32)).toInt = 1 → 1 ≤ (1 : Int32).toInt by omega)⟩ (hP.sub [] rfl) (hD.sub [] (by decide) rfl) hS (Nat.le_of_ble_eq_true rfl) (Nat.le_of_ble_eq_true rfl) dJ6_bitCount_0f7a4_52
  · obtain rfl : p1 = 2 := Int32.toInt_inj.mp (hv.trans (by decide))
    refine lv_iload_n hx hb dJ6_bitCount_0f7a4_0 rfl (lv_at hl 0 rfl) ?_
    refine lv_iload_n hx hb dJ6_bitCount_0f7a4_1 rfl (lv_at hl 0 rfl) ?_
    refine lv_iconst (v := 1) hx hb dJ6_bitCount_0f7a4_2 (by decide) ?_
    refine lv_iushr hx hb dJ6_bitCount_0f7a4_3 rfl ?_
    refine tp_i (v := 1) (by decide) ?_
    refine lv_ldcw hx hb hown (hB _ b_267) dJ6_bitCount_0f7a4_4 ?_
    refine lv_iand hx hb dJ6_bitCount_0f7a4_7 ?_
    refine tp_i (v := 1) (by decide) ?_
    refine lv_isub hx hb dJ6_bitCount_0f7a4_8 ?_
    refine tp_i (v := 1) (by decide) ?_
    refine lv_istore_n (lv' := [(0, .int 1)]) hx hb dJ6_bitCount_0f7a4_9 rfl hl (by decide) rfl (fun ls hl => ?_)
    refine lv_iload_n hx hb dJ6_bitCount_0f7a4_10 rfl (lv_at hl 0 rfl) ?_
    refine lv_ldcw hx hb hown (hB _ b_268) dJ6_bitCount_0f7a4_11 ?_
    refine lv_iand hx hb dJ6_bitCount_0f7a4_14 ?_
    refine tp_i (v := 1) (by decide) ?_
    refine lv_iload_n hx hb dJ6_bitCount_0f7a4_15 rfl (lv_at hl 0 rfl) ?_
    refine lv_iconst (v := 2) hx hb dJ6_bitCount_0f7a4_16 (by decide) ?_
    refine lv_iushr hx hb dJ6_bitCount_0f7a4_17 rfl ?_
    refine tp_i (v := 0) (by decide) ?_
    refine lv_ldcw hx hb hown (hB _ b_268) dJ6_bitCount_0f7a4_18 ?_
    refine lv_iand hx hb dJ6_bitCount_0f7a4_21 ?_
    refine tp_i (v := 0) (by decide) ?_
    refine lv_iadd hx hb dJ6_bitCount_0f7a4_22 ?_
    refine tp_i (v := 1) (by decide) ?_
    refine lv_istore_n (lv' := [(0, .int 1)]) hx hb dJ6_bitCount_0f7a4_23 rfl hl (by decide) rfl (fun ls hl => ?_)
    refine lv_iload_n hx hb dJ6_bitCount_0f7a4_24 rfl (lv_at hl 0 rfl) ?_
    refine lv_iload_n hx hb dJ6_bitCount_0f7a4_25 rfl (lv_at hl 0 rfl) ?_
    refine lv_iconst (v := 4) hx hb dJ6_bitCount_0f7a4_26 (by decide) ?_
    refine lv_iushr hx hb dJ6_bitCount_0f7a4_27 rfl ?_
    refine tp_i (v := 0) (by decide) ?_
    refine lv_iadd hx hb dJ6_bitCount_0f7a4_28 ?_
    refine tp_i (v := 1) (by decide) ?_
    refine lv_ldcw hx hb hown (hB _ b_269) dJ6_bitCount_0f7a4_29 ?_
    refine lv_iand hx hb dJ6_bitCount_0f7a4_32 ?_
    refine tp_i (v := 1) (by decide) ?_
    refine lv_istore_n (lv' := [(0, .int 1)]) hx hb dJ6_bitCount_0f7a4_33 rfl hl (by decide) rfl (fun ls hl => ?_)
    refine lv_iload_n hx hb dJ6_bitCount_0f7a4_34 rfl (lv_at hl 0 rfl) ?_
    refine lv_iload_n hx hb dJ6_bitCount_0f7a4_35 rfl (lv_at hl 0 rfl) ?_
    refine lv_bipush (v := 8) hx hb dJ6_bitCount_0f7a4_36 (by decide) ?_
    refine lv_iushr hx hb dJ6_bitCount_0f7a4_38 rfl ?_
    refine tp_i (v := 0) (by decide) ?_
    refine lv_iadd hx hb dJ6_bitCount_0f7a4_39 ?_
    refine tp_i (v := 1) (by decide) ?_
    refine lv_istore_n (lv' := [(0, .int 1)]) hx hb dJ6_bitCount_0f7a4_40 rfl hl (by decide) rfl (fun ls hl => ?_)
    refine lv_iload_n hx hb dJ6_bitCount_0f7a4_41 rfl (lv_at hl 0 rfl) ?_
    refine lv_iload_n hx hb dJ6_bitCount_0f7a4_42 rfl (lv_at hl 0 rfl) ?_
    refine lv_bipush (v := 16) hx hb dJ6_bitCount_0f7a4_43 (by decide) ?_
    refine lv_iushr hx hb dJ6_bitCount_0f7a4_45 rfl ?_
    refine tp_i (v := 0) (by decide) ?_
    refine lv_iadd hx hb dJ6_bitCount_0f7a4_46 ?_
    refine tp_i (v := 1) (by decide) ?_
    refine lv_istore_n (lv' := [(0, .int 1)]) hx hb dJ6_bitCount_0f7a4_47 rfl hl (by decide) rfl (fun ls hl => ?_)
    refine lv_iload_n hx hb dJ6_bitCount_0f7a4_48 rfl (lv_at hl 0 rfl) ?_
    refine lv_bipush (v := 63) hx hb dJ6_bitCount_0f7a4_49 (by decide) ?_
    refine lv_iand hx hb dJ6_bitCount_0f7a4_51 ?_
    refine tp_i (v := 1) (by decide) ?_
    have kc1 : (1 : Int32).toInt = 1 := by decide
    have kc2 : (2 : Int32).toInt = 2 := by decide
    exact rt_i FX ((fun k => match k with | 0 => (1 : Int32) | _ => 0), (fun _ => fun _ => 0), (fun _ => fun _ => 0)) rfl ⟨(show 0 ≤ ((1 : Int32)).toInt ∧ ((1 : Int32)).toInt ≤ 4 by decide), (show ((1 : Int32)).toInt = 1 → 1 ≤ (2 : Int32).toInt by omega)⟩ (hP.sub [] rfl) (hD.sub [] (by decide) rfl) hS (Nat.le_of_ble_eq_true rfl) (Nat.le_of_ble_eq_true rfl) dJ6_bitCount_0f7a4_52
  · obtain rfl : p1 = 3 := Int32.toInt_inj.mp (hv.trans (by decide))
    refine lv_iload_n hx hb dJ6_bitCount_0f7a4_0 rfl (lv_at hl 0 rfl) ?_
    refine lv_iload_n hx hb dJ6_bitCount_0f7a4_1 rfl (lv_at hl 0 rfl) ?_
    refine lv_iconst (v := 1) hx hb dJ6_bitCount_0f7a4_2 (by decide) ?_
    refine lv_iushr hx hb dJ6_bitCount_0f7a4_3 rfl ?_
    refine tp_i (v := 1) (by decide) ?_
    refine lv_ldcw hx hb hown (hB _ b_267) dJ6_bitCount_0f7a4_4 ?_
    refine lv_iand hx hb dJ6_bitCount_0f7a4_7 ?_
    refine tp_i (v := 1) (by decide) ?_
    refine lv_isub hx hb dJ6_bitCount_0f7a4_8 ?_
    refine tp_i (v := 2) (by decide) ?_
    refine lv_istore_n (lv' := [(0, .int 2)]) hx hb dJ6_bitCount_0f7a4_9 rfl hl (by decide) rfl (fun ls hl => ?_)
    refine lv_iload_n hx hb dJ6_bitCount_0f7a4_10 rfl (lv_at hl 0 rfl) ?_
    refine lv_ldcw hx hb hown (hB _ b_268) dJ6_bitCount_0f7a4_11 ?_
    refine lv_iand hx hb dJ6_bitCount_0f7a4_14 ?_
    refine tp_i (v := 2) (by decide) ?_
    refine lv_iload_n hx hb dJ6_bitCount_0f7a4_15 rfl (lv_at hl 0 rfl) ?_
    refine lv_iconst (v := 2) hx hb dJ6_bitCount_0f7a4_16 (by decide) ?_
    refine lv_iushr hx hb dJ6_bitCount_0f7a4_17 rfl ?_
    refine tp_i (v := 0) (by decide) ?_
    refine lv_ldcw hx hb hown (hB _ b_268) dJ6_bitCount_0f7a4_18 ?_
    refine lv_iand hx hb dJ6_bitCount_0f7a4_21 ?_
    refine tp_i (v := 0) (by decide) ?_
    refine lv_iadd hx hb dJ6_bitCount_0f7a4_22 ?_
    refine tp_i (v := 2) (by decide) ?_
    refine lv_istore_n (lv' := [(0, .int 2)]) hx hb dJ6_bitCount_0f7a4_23 rfl hl (by decide) rfl (fun ls hl => ?_)
    refine lv_iload_n hx hb dJ6_bitCount_0f7a4_24 rfl (lv_at hl 0 rfl) ?_
    refine lv_iload_n hx hb dJ6_bitCount_0f7a4_25 rfl (lv_at hl 0 rfl) ?_
    refine lv_iconst (v := 4) hx hb dJ6_bitCount_0f7a4_26 (by decide) ?_
    refine lv_iushr hx hb dJ6_bitCount_0f7a4_27 rfl ?_
    refine tp_i (v := 0) (by decide) ?_
    refine lv_iadd hx hb dJ6_bitCount_0f7a4_28 ?_
    refine tp_i (v := 2) (by decide) ?_
    refine lv_ldcw hx hb hown (hB _ b_269) dJ6_bitCount_0f7a4_29 ?_
    refine lv_iand hx hb dJ6_bitCount_0f7a4_32 ?_
    refine tp_i (v := 2) (by decide) ?_
    refine lv_istore_n (lv' := [(0, .int 2)]) hx hb dJ6_bitCount_0f7a4_33 rfl hl (by decide) rfl (fun ls hl => ?_)
    refine lv_iload_n hx hb dJ6_bitCount_0f7a4_34 rfl (lv_at hl 0 rfl) ?_
    refine lv_iload_n hx hb dJ6_bitCount_0f7a4_35 rfl (lv_at hl 0 rfl) ?_
    refine lv_bipush (v := 8) hx hb dJ6_bitCount_0f7a4_36 (by decide) ?_
    refine lv_iushr hx hb dJ6_bitCount_0f7a4_38 rfl ?_
    refine tp_i (v := 0) (by decide) ?_
    refine lv_iadd hx hb dJ6_bitCount_0f7a4_39 ?_
    refine tp_i (v := 2) (by decide) ?_
    refine lv_istore_n (lv' := [(0, .int 2)]) hx hb dJ6_bitCount_0f7a4_40 rfl hl (by decide) rfl (fun ls hl => ?_)
    refine lv_iload_n hx hb dJ6_bitCount_0f7a4_41 rfl (lv_at hl 0 rfl) ?_
    refine lv_iload_n hx hb dJ6_bitCount_0f7a4_42 rfl (lv_at hl 0 rfl) ?_
    refine lv_bipush (v := 16) hx hb dJ6_bitCount_0f7a4_43 (by decide) ?_
    refine lv_iushr hx hb dJ6_bitCount_0f7a4_45 rfl ?_
    refine tp_i (v := 0) (by decide) ?_
    refine lv_iadd hx hb dJ6_bitCount_0f7a4_46 ?_
    refine tp_i (v := 2) (by decide) ?_
    refine lv_istore_n (lv' := [(0, .int 2)]) hx hb dJ6_bitCount_0f7a4_47 rfl hl (by decide) rfl (fun ls hl => ?_)
    refine lv_iload_n hx hb dJ6_bitCount_0f7a4_48 rfl (lv_at hl 0 rfl) ?_
    refine lv_bipush (v := 63) hx hb dJ6_bitCount_0f7a4_49 (by decide) ?_
    refine lv_iand hx hb dJ6_bitCount_0f7a4_51 ?_
    refine tp_i (v := 2) (by decide) ?_
    have kc2 : (2 : Int32).toInt = 2 := by decide
    have kc3 : (3 : Int32).toInt = 3 := by decide
    exact rt_i FX ((fun k => match k with | 0 => (2 : Int32) | _ => 0), (fun _ => fun _ => 0), (fun _ => fun _ => 0)) rfl ⟨(show 0 ≤ ((2 : Int32)).toInt ∧ ((2 : Int32)).toInt ≤ 4 by decide), (show ((2 : Int32)).toInt = 1 → 1 ≤ (3 : Int32).toInt by omega)⟩ (hP.sub [] rfl) (hD.sub [] (by decide) rfl) hS (Nat.le_of_ble_eq_true rfl) (Nat.le_of_ble_eq_true rfl) dJ6_bitCount_0f7a4_52
  · obtain rfl : p1 = 4 := Int32.toInt_inj.mp (hv.trans (by decide))
    refine lv_iload_n hx hb dJ6_bitCount_0f7a4_0 rfl (lv_at hl 0 rfl) ?_
    refine lv_iload_n hx hb dJ6_bitCount_0f7a4_1 rfl (lv_at hl 0 rfl) ?_
    refine lv_iconst (v := 1) hx hb dJ6_bitCount_0f7a4_2 (by decide) ?_
    refine lv_iushr hx hb dJ6_bitCount_0f7a4_3 rfl ?_
    refine tp_i (v := 2) (by decide) ?_
    refine lv_ldcw hx hb hown (hB _ b_267) dJ6_bitCount_0f7a4_4 ?_
    refine lv_iand hx hb dJ6_bitCount_0f7a4_7 ?_
    refine tp_i (v := 0) (by decide) ?_
    refine lv_isub hx hb dJ6_bitCount_0f7a4_8 ?_
    refine tp_i (v := 4) (by decide) ?_
    refine lv_istore_n (lv' := [(0, .int 4)]) hx hb dJ6_bitCount_0f7a4_9 rfl hl (by decide) rfl (fun ls hl => ?_)
    refine lv_iload_n hx hb dJ6_bitCount_0f7a4_10 rfl (lv_at hl 0 rfl) ?_
    refine lv_ldcw hx hb hown (hB _ b_268) dJ6_bitCount_0f7a4_11 ?_
    refine lv_iand hx hb dJ6_bitCount_0f7a4_14 ?_
    refine tp_i (v := 0) (by decide) ?_
    refine lv_iload_n hx hb dJ6_bitCount_0f7a4_15 rfl (lv_at hl 0 rfl) ?_
    refine lv_iconst (v := 2) hx hb dJ6_bitCount_0f7a4_16 (by decide) ?_
    refine lv_iushr hx hb dJ6_bitCount_0f7a4_17 rfl ?_
    refine tp_i (v := 1) (by decide) ?_
    refine lv_ldcw hx hb hown (hB _ b_268) dJ6_bitCount_0f7a4_18 ?_
    refine lv_iand hx hb dJ6_bitCount_0f7a4_21 ?_
    refine tp_i (v := 1) (by decide) ?_
    refine lv_iadd hx hb dJ6_bitCount_0f7a4_22 ?_
    refine tp_i (v := 1) (by decide) ?_
    refine lv_istore_n (lv' := [(0, .int 1)]) hx hb dJ6_bitCount_0f7a4_23 rfl hl (by decide) rfl (fun ls hl => ?_)
    refine lv_iload_n hx hb dJ6_bitCount_0f7a4_24 rfl (lv_at hl 0 rfl) ?_
    refine lv_iload_n hx hb dJ6_bitCount_0f7a4_25 rfl (lv_at hl 0 rfl) ?_
    refine lv_iconst (v := 4) hx hb dJ6_bitCount_0f7a4_26 (by decide) ?_
    refine lv_iushr hx hb dJ6_bitCount_0f7a4_27 rfl ?_
    refine tp_i (v := 0) (by decide) ?_
    refine lv_iadd hx hb dJ6_bitCount_0f7a4_28 ?_
    refine tp_i (v := 1) (by decide) ?_
    refine lv_ldcw hx hb hown (hB _ b_269) dJ6_bitCount_0f7a4_29 ?_
    refine lv_iand hx hb dJ6_bitCount_0f7a4_32 ?_
    refine tp_i (v := 1) (by decide) ?_
    refine lv_istore_n (lv' := [(0, .int 1)]) hx hb dJ6_bitCount_0f7a4_33 rfl hl (by decide) rfl (fun ls hl => ?_)
    refine lv_iload_n hx hb dJ6_bitCount_0f7a4_34 rfl (lv_at hl 0 rfl) ?_
    refine lv_iload_n hx hb dJ6_bitCount_0f7a4_35 rfl (lv_at hl 0 rfl) ?_
    refine lv_bipush (v := 8) hx hb dJ6_bitCount_0f7a4_36 (by decide) ?_
    refine lv_iushr hx hb dJ6_bitCount_0f7a4_38 rfl ?_
    refine tp_i (v := 0) (by decide) ?_
    refine lv_iadd hx hb dJ6_bitCount_0f7a4_39 ?_
    refine tp_i (v := 1) (by decide) ?_
    refine lv_istore_n (lv' := [(0, .int 1)]) hx hb dJ6_bitCount_0f7a4_40 rfl hl (by decide) rfl (fun ls hl => ?_)
    refine lv_iload_n hx hb dJ6_bitCount_0f7a4_41 rfl (lv_at hl 0 rfl) ?_
    refine lv_iload_n hx hb dJ6_bitCount_0f7a4_42 rfl (lv_at hl 0 rfl) ?_
    refine lv_bipush (v := 16) hx hb dJ6_bitCount_0f7a4_43 (by decide) ?_
    refine lv_iushr hx hb dJ6_bitCount_0f7a4_45 rfl ?_
    refine tp_i (v := 0) (by decide) ?_
    refine lv_iadd hx hb dJ6_bitCount_0f7a4_46 ?_
    refine tp_i (v := 1) (by decide) ?_
    refine lv_istore_n (lv' := [(0, .int 1)]) hx hb dJ6_bitCount_0f7a4_47 rfl hl (by decide) rfl (fun ls hl => ?_)
    refine lv_iload_n hx hb dJ6_bitCount_0f7a4_48 rfl (lv_at hl 0 rfl) ?_
    refine lv_bipush (v := 63) hx hb dJ6_bitCount_0f7a4_49 (by decide) ?_
    refine lv_iand hx hb dJ6_bitCount_0f7a4_51 ?_
    refine tp_i (v := 1) (by decide) ?_
    have kc1 : (1 : Int32).toInt = 1 := by decide
    have kc4 : (4 : Int32).toInt = 4 := by decide
    exact rt_i FX ((fun k => match k with | 0 => (1 : Int32) | _ => 0), (fun _ => fun _ => 0), (fun _ => fun _ => 0)) rfl ⟨(show 0 ≤ ((1 : Int32)).toInt ∧ ((1 : Int32)).toInt ≤ 4 by decide), (show ((1 : Int32)).toInt = 1 → 1 ≤ (4 : Int32).toInt by omega)⟩ (hP.sub [] rfl) (hD.sub [] (by decide) rfl) hS (Nat.le_of_ble_eq_true rfl) (Nat.le_of_ble_eq_true rfl) dJ6_bitCount_0f7a4_52
  · obtain rfl : p1 = 5 := Int32.toInt_inj.mp (hv.trans (by decide))
    refine lv_iload_n hx hb dJ6_bitCount_0f7a4_0 rfl (lv_at hl 0 rfl) ?_
    refine lv_iload_n hx hb dJ6_bitCount_0f7a4_1 rfl (lv_at hl 0 rfl) ?_
    refine lv_iconst (v := 1) hx hb dJ6_bitCount_0f7a4_2 (by decide) ?_
    refine lv_iushr hx hb dJ6_bitCount_0f7a4_3 rfl ?_
    refine tp_i (v := 2) (by decide) ?_
    refine lv_ldcw hx hb hown (hB _ b_267) dJ6_bitCount_0f7a4_4 ?_
    refine lv_iand hx hb dJ6_bitCount_0f7a4_7 ?_
    refine tp_i (v := 0) (by decide) ?_
    refine lv_isub hx hb dJ6_bitCount_0f7a4_8 ?_
    refine tp_i (v := 5) (by decide) ?_
    refine lv_istore_n (lv' := [(0, .int 5)]) hx hb dJ6_bitCount_0f7a4_9 rfl hl (by decide) rfl (fun ls hl => ?_)
    refine lv_iload_n hx hb dJ6_bitCount_0f7a4_10 rfl (lv_at hl 0 rfl) ?_
    refine lv_ldcw hx hb hown (hB _ b_268) dJ6_bitCount_0f7a4_11 ?_
    refine lv_iand hx hb dJ6_bitCount_0f7a4_14 ?_
    refine tp_i (v := 1) (by decide) ?_
    refine lv_iload_n hx hb dJ6_bitCount_0f7a4_15 rfl (lv_at hl 0 rfl) ?_
    refine lv_iconst (v := 2) hx hb dJ6_bitCount_0f7a4_16 (by decide) ?_
    refine lv_iushr hx hb dJ6_bitCount_0f7a4_17 rfl ?_
    refine tp_i (v := 1) (by decide) ?_
    refine lv_ldcw hx hb hown (hB _ b_268) dJ6_bitCount_0f7a4_18 ?_
    refine lv_iand hx hb dJ6_bitCount_0f7a4_21 ?_
    refine tp_i (v := 1) (by decide) ?_
    refine lv_iadd hx hb dJ6_bitCount_0f7a4_22 ?_
    refine tp_i (v := 2) (by decide) ?_
    refine lv_istore_n (lv' := [(0, .int 2)]) hx hb dJ6_bitCount_0f7a4_23 rfl hl (by decide) rfl (fun ls hl => ?_)
    refine lv_iload_n hx hb dJ6_bitCount_0f7a4_24 rfl (lv_at hl 0 rfl) ?_
    refine lv_iload_n hx hb dJ6_bitCount_0f7a4_25 rfl (lv_at hl 0 rfl) ?_
    refine lv_iconst (v := 4) hx hb dJ6_bitCount_0f7a4_26 (by decide) ?_
    refine lv_iushr hx hb dJ6_bitCount_0f7a4_27 rfl ?_
    refine tp_i (v := 0) (by decide) ?_
    refine lv_iadd hx hb dJ6_bitCount_0f7a4_28 ?_
    refine tp_i (v := 2) (by decide) ?_
    refine lv_ldcw hx hb hown (hB _ b_269) dJ6_bitCount_0f7a4_29 ?_
    refine lv_iand hx hb dJ6_bitCount_0f7a4_32 ?_
    refine tp_i (v := 2) (by decide) ?_
    refine lv_istore_n (lv' := [(0, .int 2)]) hx hb dJ6_bitCount_0f7a4_33 rfl hl (by decide) rfl (fun ls hl => ?_)
    refine lv_iload_n hx hb dJ6_bitCount_0f7a4_34 rfl (lv_at hl 0 rfl) ?_
    refine lv_iload_n hx hb dJ6_bitCount_0f7a4_35 rfl (lv_at hl 0 rfl) ?_
    refine lv_bipush (v := 8) hx hb dJ6_bitCount_0f7a4_36 (by decide) ?_
    refine lv_iushr hx hb dJ6_bitCount_0f7a4_38 rfl ?_
    refine tp_i (v := 0) (by decide) ?_
    refine lv_iadd hx hb dJ6_bitCount_0f7a4_39 ?_
    refine tp_i (v := 2) (by decide) ?_
    refine lv_istore_n (lv' := [(0, .int 2)]) hx hb dJ6_bitCount_0f7a4_40 rfl hl (by decide) rfl (fun ls hl => ?_)
    refine lv_iload_n hx hb dJ6_bitCount_0f7a4_41 rfl (lv_at hl 0 rfl) ?_
    refine lv_iload_n hx hb dJ6_bitCount_0f7a4_42 rfl (lv_at hl 0 rfl) ?_
    refine lv_bipush (v := 16) hx hb dJ6_bitCount_0f7a4_43 (by decide) ?_
    refine lv_iushr hx hb dJ6_bitCount_0f7a4_45 rfl ?_
    refine tp_i (v := 0) (by decide) ?_
    refine lv_iadd hx hb dJ6_bitCount_0f7a4_46 ?_
    refine tp_i (v := 2) (by decide) ?_
    refine lv_istore_n (lv' := [(0, .int 2)]) hx hb dJ6_bitCount_0f7a4_47 rfl hl (by decide) rfl (fun ls hl => ?_)
    refine lv_iload_n hx hb dJ6_bitCount_0f7a4_48 rfl (lv_at hl 0 rfl) ?_
    refine lv_bipush (v := 63) hx hb dJ6_bitCount_0f7a4_49 (by decide) ?_
    refine lv_iand hx hb dJ6_bitCount_0f7a4_51 ?_
    refine tp_i (v := 2) (by decide) ?_
    have kc2 : (2 : Int32).toInt = 2 := by decide
    have kc5 : (5 : Int32).toInt = 5 := by decide
    exact rt_i FX ((fun k => match k with | 0 => (2 : Int32) | _ => 0), (fun _ => fun _ => 0), (fun _ => fun _ => 0)) rfl ⟨(show 0 ≤ ((2 : Int32)).toInt ∧ ((2 : Int32)).toInt ≤ 4 by decide), (show ((2 : Int32)).toInt = 1 → 1 ≤ (5 : Int32).toInt by omega)⟩ (hP.sub [] rfl) (hD.sub [] (by decide) rfl) hS (Nat.le_of_ble_eq_true rfl) (Nat.le_of_ble_eq_true rfl) dJ6_bitCount_0f7a4_52
  · obtain rfl : p1 = 6 := Int32.toInt_inj.mp (hv.trans (by decide))
    refine lv_iload_n hx hb dJ6_bitCount_0f7a4_0 rfl (lv_at hl 0 rfl) ?_
    refine lv_iload_n hx hb dJ6_bitCount_0f7a4_1 rfl (lv_at hl 0 rfl) ?_
    refine lv_iconst (v := 1) hx hb dJ6_bitCount_0f7a4_2 (by decide) ?_
    refine lv_iushr hx hb dJ6_bitCount_0f7a4_3 rfl ?_
    refine tp_i (v := 3) (by decide) ?_
    refine lv_ldcw hx hb hown (hB _ b_267) dJ6_bitCount_0f7a4_4 ?_
    refine lv_iand hx hb dJ6_bitCount_0f7a4_7 ?_
    refine tp_i (v := 1) (by decide) ?_
    refine lv_isub hx hb dJ6_bitCount_0f7a4_8 ?_
    refine tp_i (v := 5) (by decide) ?_
    refine lv_istore_n (lv' := [(0, .int 5)]) hx hb dJ6_bitCount_0f7a4_9 rfl hl (by decide) rfl (fun ls hl => ?_)
    refine lv_iload_n hx hb dJ6_bitCount_0f7a4_10 rfl (lv_at hl 0 rfl) ?_
    refine lv_ldcw hx hb hown (hB _ b_268) dJ6_bitCount_0f7a4_11 ?_
    refine lv_iand hx hb dJ6_bitCount_0f7a4_14 ?_
    refine tp_i (v := 1) (by decide) ?_
    refine lv_iload_n hx hb dJ6_bitCount_0f7a4_15 rfl (lv_at hl 0 rfl) ?_
    refine lv_iconst (v := 2) hx hb dJ6_bitCount_0f7a4_16 (by decide) ?_
    refine lv_iushr hx hb dJ6_bitCount_0f7a4_17 rfl ?_
    refine tp_i (v := 1) (by decide) ?_
    refine lv_ldcw hx hb hown (hB _ b_268) dJ6_bitCount_0f7a4_18 ?_
    refine lv_iand hx hb dJ6_bitCount_0f7a4_21 ?_
    refine tp_i (v := 1) (by decide) ?_
    refine lv_iadd hx hb dJ6_bitCount_0f7a4_22 ?_
    refine tp_i (v := 2) (by decide) ?_
    refine lv_istore_n (lv' := [(0, .int 2)]) hx hb dJ6_bitCount_0f7a4_23 rfl hl (by decide) rfl (fun ls hl => ?_)
    refine lv_iload_n hx hb dJ6_bitCount_0f7a4_24 rfl (lv_at hl 0 rfl) ?_
    refine lv_iload_n hx hb dJ6_bitCount_0f7a4_25 rfl (lv_at hl 0 rfl) ?_
    refine lv_iconst (v := 4) hx hb dJ6_bitCount_0f7a4_26 (by decide) ?_
    refine lv_iushr hx hb dJ6_bitCount_0f7a4_27 rfl ?_
    refine tp_i (v := 0) (by decide) ?_
    refine lv_iadd hx hb dJ6_bitCount_0f7a4_28 ?_
    refine tp_i (v := 2) (by decide) ?_
    refine lv_ldcw hx hb hown (hB _ b_269) dJ6_bitCount_0f7a4_29 ?_
    refine lv_iand hx hb dJ6_bitCount_0f7a4_32 ?_
    refine tp_i (v := 2) (by decide) ?_
    refine lv_istore_n (lv' := [(0, .int 2)]) hx hb dJ6_bitCount_0f7a4_33 rfl hl (by decide) rfl (fun ls hl => ?_)
    refine lv_iload_n hx hb dJ6_bitCount_0f7a4_34 rfl (lv_at hl 0 rfl) ?_
    refine lv_iload_n hx hb dJ6_bitCount_0f7a4_35 rfl (lv_at hl 0 rfl) ?_
    refine lv_bipush (v := 8) hx hb dJ6_bitCount_0f7a4_36 (by decide) ?_
    refine lv_iushr hx hb dJ6_bitCount_0f7a4_38 rfl ?_
    refine tp_i (v := 0) (by decide) ?_
    refine lv_iadd hx hb dJ6_bitCount_0f7a4_39 ?_
    refine tp_i (v := 2) (by decide) ?_
    refine lv_istore_n (lv' := [(0, .int 2)]) hx hb dJ6_bitCount_0f7a4_40 rfl hl (by decide) rfl (fun ls hl => ?_)
    refine lv_iload_n hx hb dJ6_bitCount_0f7a4_41 rfl (lv_at hl 0 rfl) ?_
    refine lv_iload_n hx hb dJ6_bitCount_0f7a4_42 rfl (lv_at hl 0 rfl) ?_
    refine lv_bipush (v := 16) hx hb dJ6_bitCount_0f7a4_43 (by decide) ?_
    refine lv_iushr hx hb dJ6_bitCount_0f7a4_45 rfl ?_
    refine tp_i (v := 0) (by decide) ?_
    refine lv_iadd hx hb dJ6_bitCount_0f7a4_46 ?_
    refine tp_i (v := 2) (by decide) ?_
    refine lv_istore_n (lv' := [(0, .int 2)]) hx hb dJ6_bitCount_0f7a4_47 rfl hl (by decide) rfl (fun ls hl => ?_)
    refine lv_iload_n hx hb dJ6_bitCount_0f7a4_48 rfl (lv_at hl 0 rfl) ?_
    refine lv_bipush (v := 63) hx hb dJ6_bitCount_0f7a4_49 (by decide) ?_
    refine lv_iand hx hb dJ6_bitCount_0f7a4_51 ?_
    refine tp_i (v := 2) (by decide) ?_
    have kc2 : (2 : Int32).toInt = 2 := by decide
    have kc6 : (6 : Int32).toInt = 6 := by decide
    exact rt_i FX ((fun k => match k with | 0 => (2 : Int32) | _ => 0), (fun _ => fun _ => 0), (fun _ => fun _ => 0)) rfl ⟨(show 0 ≤ ((2 : Int32)).toInt ∧ ((2 : Int32)).toInt ≤ 4 by decide), (show ((2 : Int32)).toInt = 1 → 1 ≤ (6 : Int32).toInt by omega)⟩ (hP.sub [] rfl) (hD.sub [] (by decide) rfl) hS (Nat.le_of_ble_eq_true rfl) (Nat.le_of_ble_eq_true rfl) dJ6_bitCount_0f7a4_52
  · obtain rfl : p1 = 7 := Int32.toInt_inj.mp (hv.trans (by decide))
    refine lv_iload_n hx hb dJ6_bitCount_0f7a4_0 rfl (lv_at hl 0 rfl) ?_
    refine lv_iload_n hx hb dJ6_bitCount_0f7a4_1 rfl (lv_at hl 0 rfl) ?_
    refine lv_iconst (v := 1) hx hb dJ6_bitCount_0f7a4_2 (by decide) ?_
    refine lv_iushr hx hb dJ6_bitCount_0f7a4_3 rfl ?_
    refine tp_i (v := 3) (by decide) ?_
    refine lv_ldcw hx hb hown (hB _ b_267) dJ6_bitCount_0f7a4_4 ?_
    refine lv_iand hx hb dJ6_bitCount_0f7a4_7 ?_
    refine tp_i (v := 1) (by decide) ?_
    refine lv_isub hx hb dJ6_bitCount_0f7a4_8 ?_
    refine tp_i (v := 6) (by decide) ?_
    refine lv_istore_n (lv' := [(0, .int 6)]) hx hb dJ6_bitCount_0f7a4_9 rfl hl (by decide) rfl (fun ls hl => ?_)
    refine lv_iload_n hx hb dJ6_bitCount_0f7a4_10 rfl (lv_at hl 0 rfl) ?_
    refine lv_ldcw hx hb hown (hB _ b_268) dJ6_bitCount_0f7a4_11 ?_
    refine lv_iand hx hb dJ6_bitCount_0f7a4_14 ?_
    refine tp_i (v := 2) (by decide) ?_
    refine lv_iload_n hx hb dJ6_bitCount_0f7a4_15 rfl (lv_at hl 0 rfl) ?_
    refine lv_iconst (v := 2) hx hb dJ6_bitCount_0f7a4_16 (by decide) ?_
    refine lv_iushr hx hb dJ6_bitCount_0f7a4_17 rfl ?_
    refine tp_i (v := 1) (by decide) ?_
    refine lv_ldcw hx hb hown (hB _ b_268) dJ6_bitCount_0f7a4_18 ?_
    refine lv_iand hx hb dJ6_bitCount_0f7a4_21 ?_
    refine tp_i (v := 1) (by decide) ?_
    refine lv_iadd hx hb dJ6_bitCount_0f7a4_22 ?_
    refine tp_i (v := 3) (by decide) ?_
    refine lv_istore_n (lv' := [(0, .int 3)]) hx hb dJ6_bitCount_0f7a4_23 rfl hl (by decide) rfl (fun ls hl => ?_)
    refine lv_iload_n hx hb dJ6_bitCount_0f7a4_24 rfl (lv_at hl 0 rfl) ?_
    refine lv_iload_n hx hb dJ6_bitCount_0f7a4_25 rfl (lv_at hl 0 rfl) ?_
    refine lv_iconst (v := 4) hx hb dJ6_bitCount_0f7a4_26 (by decide) ?_
    refine lv_iushr hx hb dJ6_bitCount_0f7a4_27 rfl ?_
    refine tp_i (v := 0) (by decide) ?_
    refine lv_iadd hx hb dJ6_bitCount_0f7a4_28 ?_
    refine tp_i (v := 3) (by decide) ?_
    refine lv_ldcw hx hb hown (hB _ b_269) dJ6_bitCount_0f7a4_29 ?_
    refine lv_iand hx hb dJ6_bitCount_0f7a4_32 ?_
    refine tp_i (v := 3) (by decide) ?_
    refine lv_istore_n (lv' := [(0, .int 3)]) hx hb dJ6_bitCount_0f7a4_33 rfl hl (by decide) rfl (fun ls hl => ?_)
    refine lv_iload_n hx hb dJ6_bitCount_0f7a4_34 rfl (lv_at hl 0 rfl) ?_
    refine lv_iload_n hx hb dJ6_bitCount_0f7a4_35 rfl (lv_at hl 0 rfl) ?_
    refine lv_bipush (v := 8) hx hb dJ6_bitCount_0f7a4_36 (by decide) ?_
    refine lv_iushr hx hb dJ6_bitCount_0f7a4_38 rfl ?_
    refine tp_i (v := 0) (by decide) ?_
    refine lv_iadd hx hb dJ6_bitCount_0f7a4_39 ?_
    refine tp_i (v := 3) (by decide) ?_
    refine lv_istore_n (lv' := [(0, .int 3)]) hx hb dJ6_bitCount_0f7a4_40 rfl hl (by decide) rfl (fun ls hl => ?_)
    refine lv_iload_n hx hb dJ6_bitCount_0f7a4_41 rfl (lv_at hl 0 rfl) ?_
    refine lv_iload_n hx hb dJ6_bitCount_0f7a4_42 rfl (lv_at hl 0 rfl) ?_
    refine lv_bipush (v := 16) hx hb dJ6_bitCount_0f7a4_43 (by decide) ?_
    refine lv_iushr hx hb dJ6_bitCount_0f7a4_45 rfl ?_
    refine tp_i (v := 0) (by decide) ?_
    refine lv_iadd hx hb dJ6_bitCount_0f7a4_46 ?_
    refine tp_i (v := 3) (by decide) ?_
    refine lv_istore_n (lv' := [(0, .int 3)]) hx hb dJ6_bitCount_0f7a4_47 rfl hl (by decide) rfl (fun ls hl => ?_)
    refine lv_iload_n hx hb dJ6_bitCount_0f7a4_48 rfl (lv_at hl 0 rfl) ?_
    refine lv_bipush (v := 63) hx hb dJ6_bitCount_0f7a4_49 (by decide) ?_
    refine lv_iand hx hb dJ6_bitCount_0f7a4_51 ?_
    refine tp_i (v := 3) (by decide) ?_
    have kc3 : (3 : Int32).toInt = 3 := by decide
    have kc7 : (7 : Int32).toInt = 7 := by decide
    exact rt_i FX ((fun k => match k with | 0 => (3 : Int32) | _ => 0), (fun _ => fun _ => 0), (fun _ => fun _ => 0)) rfl ⟨(show 0 ≤ ((3 : Int32)).toInt ∧ ((3 : Int32)).toInt ≤ 4 by decide), (show ((3 : Int32)).toInt = 1 → 1 ≤ (7 : Int32).toInt by omega)⟩ (hP.sub [] rfl) (hD.sub [] (by decide) rfl) hS (Nat.le_of_ble_eq_true rfl) (Nat.le_of_ble_eq_true rfl) dJ6_bitCount_0f7a4_52
  · obtain rfl : p1 = 8 := Int32.toInt_inj.mp (hv.trans (by decide))
    refine lv_iload_n hx hb dJ6_bitCount_0f7a4_0 rfl (lv_at hl 0 rfl) ?_
    refine lv_iload_n hx hb dJ6_bitCount_0f7a4_1 rfl (lv_at hl 0 rfl) ?_
    refine lv_iconst (v := 1) hx hb dJ6_bitCount_0f7a4_2 (by decide) ?_
    refine lv_iushr hx hb dJ6_bitCount_0f7a4_3 rfl ?_
    refine tp_i (v := 4) (by decide) ?_
    refine lv_ldcw hx hb hown (hB _ b_267) dJ6_bitCount_0f7a4_4 ?_
    refine lv_iand hx hb dJ6_bitCount_0f7a4_7 ?_
    refine tp_i (v := 4) (by decide) ?_
    refine lv_isub hx hb dJ6_bitCount_0f7a4_8 ?_
    refine tp_i (v := 4) (by decide) ?_
    refine lv_istore_n (lv' := [(0, .int 4)]) hx hb dJ6_bitCount_0f7a4_9 rfl hl (by decide) rfl (fun ls hl => ?_)
    refine lv_iload_n hx hb dJ6_bitCount_0f7a4_10 rfl (lv_at hl 0 rfl) ?_
    refine lv_ldcw hx hb hown (hB _ b_268) dJ6_bitCount_0f7a4_11 ?_
    refine lv_iand hx hb dJ6_bitCount_0f7a4_14 ?_
    refine tp_i (v := 0) (by decide) ?_
    refine lv_iload_n hx hb dJ6_bitCount_0f7a4_15 rfl (lv_at hl 0 rfl) ?_
    refine lv_iconst (v := 2) hx hb dJ6_bitCount_0f7a4_16 (by decide) ?_
    refine lv_iushr hx hb dJ6_bitCount_0f7a4_17 rfl ?_
    refine tp_i (v := 1) (by decide) ?_
    refine lv_ldcw hx hb hown (hB _ b_268) dJ6_bitCount_0f7a4_18 ?_
    refine lv_iand hx hb dJ6_bitCount_0f7a4_21 ?_
    refine tp_i (v := 1) (by decide) ?_
    refine lv_iadd hx hb dJ6_bitCount_0f7a4_22 ?_
    refine tp_i (v := 1) (by decide) ?_
    refine lv_istore_n (lv' := [(0, .int 1)]) hx hb dJ6_bitCount_0f7a4_23 rfl hl (by decide) rfl (fun ls hl => ?_)
    refine lv_iload_n hx hb dJ6_bitCount_0f7a4_24 rfl (lv_at hl 0 rfl) ?_
    refine lv_iload_n hx hb dJ6_bitCount_0f7a4_25 rfl (lv_at hl 0 rfl) ?_
    refine lv_iconst (v := 4) hx hb dJ6_bitCount_0f7a4_26 (by decide) ?_
    refine lv_iushr hx hb dJ6_bitCount_0f7a4_27 rfl ?_
    refine tp_i (v := 0) (by decide) ?_
    refine lv_iadd hx hb dJ6_bitCount_0f7a4_28 ?_
    refine tp_i (v := 1) (by decide) ?_
    refine lv_ldcw hx hb hown (hB _ b_269) dJ6_bitCount_0f7a4_29 ?_
    refine lv_iand hx hb dJ6_bitCount_0f7a4_32 ?_
    refine tp_i (v := 1) (by decide) ?_
    refine lv_istore_n (lv' := [(0, .int 1)]) hx hb dJ6_bitCount_0f7a4_33 rfl hl (by decide) rfl (fun ls hl => ?_)
    refine lv_iload_n hx hb dJ6_bitCount_0f7a4_34 rfl (lv_at hl 0 rfl) ?_
    refine lv_iload_n hx hb dJ6_bitCount_0f7a4_35 rfl (lv_at hl 0 rfl) ?_
    refine lv_bipush (v := 8) hx hb dJ6_bitCount_0f7a4_36 (by decide) ?_
    refine lv_iushr hx hb dJ6_bitCount_0f7a4_38 rfl ?_
    refine tp_i (v := 0) (by decide) ?_
    refine lv_iadd hx hb dJ6_bitCount_0f7a4_39 ?_
    refine tp_i (v := 1) (by decide) ?_
    refine lv_istore_n (lv' := [(0, .int 1)]) hx hb dJ6_bitCount_0f7a4_40 rfl hl (by decide) rfl (fun ls hl => ?_)
    refine lv_iload_n hx hb dJ6_bitCount_0f7a4_41 rfl (lv_at hl 0 rfl) ?_
    refine lv_iload_n hx hb dJ6_bitCount_0f7a4_42 rfl (lv_at hl 0 rfl) ?_
    refine lv_bipush (v := 16) hx hb dJ6_bitCount_0f7a4_43 (by decide) ?_
    refine lv_iushr hx hb dJ6_bitCount_0f7a4_45 rfl ?_
    refine tp_i (v := 0) (by decide) ?_
    refine lv_iadd hx hb dJ6_bitCount_0f7a4_46 ?_
    refine tp_i (v := 1) (by decide) ?_
    refine lv_istore_n (lv' := [(0, .int 1)]) hx hb dJ6_bitCount_0f7a4_47 rfl hl (by decide) rfl (fun ls hl => ?_)
    refine lv_iload_n hx hb dJ6_bitCount_0f7a4_48 rfl (lv_at hl 0 rfl) ?_
    refine lv_bipush (v := 63) hx hb dJ6_bitCount_0f7a4_49 (by decide) ?_
    refine lv_iand hx hb dJ6_bitCount_0f7a4_51 ?_
    refine tp_i (v := 1) (by decide) ?_
    have kc1 : (1 : Int32).toInt = 1 := by decide
    have kc8 : (8 : Int32).toInt = 8 := by decide
    exact rt_i FX ((fun k => match k with | 0 => (1 : Int32) | _ => 0), (fun _ => fun _ => 0), (fun _ => fun _ => 0)) rfl ⟨(show 0 ≤ ((1 : Int32)).toInt ∧ ((1 : Int32)).toInt ≤ 4 by decide), (show ((1 : Int32)).toInt = 1 → 1 ≤ (8 : Int32).toInt by omega)⟩ (hP.sub [] rfl) (hD.sub [] (by decide) rfl) hS (Nat.le_of_ble_eq_true rfl) (Nat.le_of_ble_eq_true rfl) dJ6_bitCount_0f7a4_52
  · obtain rfl : p1 = 9 := Int32.toInt_inj.mp (hv.trans (by decide))
    refine lv_iload_n hx hb dJ6_bitCount_0f7a4_0 rfl (lv_at hl 0 rfl) ?_
    refine lv_iload_n hx hb dJ6_bitCount_0f7a4_1 rfl (lv_at hl 0 rfl) ?_
    refine lv_iconst (v := 1) hx hb dJ6_bitCount_0f7a4_2 (by decide) ?_
    refine lv_iushr hx hb dJ6_bitCount_0f7a4_3 rfl ?_
    refine tp_i (v := 4) (by decide) ?_
    refine lv_ldcw hx hb hown (hB _ b_267) dJ6_bitCount_0f7a4_4 ?_
    refine lv_iand hx hb dJ6_bitCount_0f7a4_7 ?_
    refine tp_i (v := 4) (by decide) ?_
    refine lv_isub hx hb dJ6_bitCount_0f7a4_8 ?_
    refine tp_i (v := 5) (by decide) ?_
    refine lv_istore_n (lv' := [(0, .int 5)]) hx hb dJ6_bitCount_0f7a4_9 rfl hl (by decide) rfl (fun ls hl => ?_)
    refine lv_iload_n hx hb dJ6_bitCount_0f7a4_10 rfl (lv_at hl 0 rfl) ?_
    refine lv_ldcw hx hb hown (hB _ b_268) dJ6_bitCount_0f7a4_11 ?_
    refine lv_iand hx hb dJ6_bitCount_0f7a4_14 ?_
    refine tp_i (v := 1) (by decide) ?_
    refine lv_iload_n hx hb dJ6_bitCount_0f7a4_15 rfl (lv_at hl 0 rfl) ?_
    refine lv_iconst (v := 2) hx hb dJ6_bitCount_0f7a4_16 (by decide) ?_
    refine lv_iushr hx hb dJ6_bitCount_0f7a4_17 rfl ?_
    refine tp_i (v := 1) (by decide) ?_
    refine lv_ldcw hx hb hown (hB _ b_268) dJ6_bitCount_0f7a4_18 ?_
    refine lv_iand hx hb dJ6_bitCount_0f7a4_21 ?_
    refine tp_i (v := 1) (by decide) ?_
    refine lv_iadd hx hb dJ6_bitCount_0f7a4_22 ?_
    refine tp_i (v := 2) (by decide) ?_
    refine lv_istore_n (lv' := [(0, .int 2)]) hx hb dJ6_bitCount_0f7a4_23 rfl hl (by decide) rfl (fun ls hl => ?_)
    refine lv_iload_n hx hb dJ6_bitCount_0f7a4_24 rfl (lv_at hl 0 rfl) ?_
    refine lv_iload_n hx hb dJ6_bitCount_0f7a4_25 rfl (lv_at hl 0 rfl) ?_
    refine lv_iconst (v := 4) hx hb dJ6_bitCount_0f7a4_26 (by decide) ?_
    refine lv_iushr hx hb dJ6_bitCount_0f7a4_27 rfl ?_
    refine tp_i (v := 0) (by decide) ?_
    refine lv_iadd hx hb dJ6_bitCount_0f7a4_28 ?_
    refine tp_i (v := 2) (by decide) ?_
    refine lv_ldcw hx hb hown (hB _ b_269) dJ6_bitCount_0f7a4_29 ?_
    refine lv_iand hx hb dJ6_bitCount_0f7a4_32 ?_
    refine tp_i (v := 2) (by decide) ?_
    refine lv_istore_n (lv' := [(0, .int 2)]) hx hb dJ6_bitCount_0f7a4_33 rfl hl (by decide) rfl (fun ls hl => ?_)
    refine lv_iload_n hx hb dJ6_bitCount_0f7a4_34 rfl (lv_at hl 0 rfl) ?_
    refine lv_iload_n hx hb dJ6_bitCount_0f7a4_35 rfl (lv_at hl 0 rfl) ?_
    refine lv_bipush (v := 8) hx hb dJ6_bitCount_0f7a4_36 (by decide) ?_
    refine lv_iushr hx hb dJ6_bitCount_0f7a4_38 rfl ?_
    refine tp_i (v := 0) (by decide) ?_
    refine lv_iadd hx hb dJ6_bitCount_0f7a4_39 ?_
    refine tp_i (v := 2) (by decide) ?_
    refine lv_istore_n (lv' := [(0, .int 2)]) hx hb dJ6_bitCount_0f7a4_40 rfl hl (by decide) rfl (fun ls hl => ?_)
    refine lv_iload_n hx hb dJ6_bitCount_0f7a4_41 rfl (lv_at hl 0 rfl) ?_
    refine lv_iload_n hx hb dJ6_bitCount_0f7a4_42 rfl (lv_at hl 0 rfl) ?_
    refine lv_bipush (v := 16) hx hb dJ6_bitCount_0f7a4_43 (by decide) ?_
    refine lv_iushr hx hb dJ6_bitCount_0f7a4_45 rfl ?_
    refine tp_i (v := 0) (by decide) ?_
    refine lv_iadd hx hb dJ6_bitCount_0f7a4_46 ?_
    refine tp_i (v := 2) (by decide) ?_
    refine lv_istore_n (lv' := [(0, .int 2)]) hx hb dJ6_bitCount_0f7a4_47 rfl hl (by decide) rfl (fun ls hl => ?_)
    refine lv_iload_n hx hb dJ6_bitCount_0f7a4_48 rfl (lv_at hl 0 rfl) ?_
    refine lv_bipush (v := 63) hx hb dJ6_bitCount_0f7a4_49 (by decide) ?_
    refine lv_iand hx hb dJ6_bitCount_0f7a4_51 ?_
    refine tp_i (v := 2) (by decide) ?_
    have kc2 : (2 : Int32).toInt = 2 := by decide
    have kc9 : (9 : Int32).toInt = 9 := by decide
    exact rt_i FX ((fun k => match k with | 0 => (2 : Int32) | _ => 0), (fun _ => fun _ => 0), (fun _ => fun _ => 0)) rfl ⟨(show 0 ≤ ((2 : Int32)).toInt ∧ ((2 : Int32)).toInt ≤ 4 by decide), (show ((2 : Int32)).toInt = 1 → 1 ≤ (9 : Int32).toInt by omega)⟩ (hP.sub [] rfl) (hD.sub [] (by decide) rfl) hS (Nat.le_of_ble_eq_true rfl) (Nat.le_of_ble_eq_true rfl) dJ6_bitCount_0f7a4_52
  · obtain rfl : p1 = 10 := Int32.toInt_inj.mp (hv.trans (by decide))
    refine lv_iload_n hx hb dJ6_bitCount_0f7a4_0 rfl (lv_at hl 0 rfl) ?_
    refine lv_iload_n hx hb dJ6_bitCount_0f7a4_1 rfl (lv_at hl 0 rfl) ?_
    refine lv_iconst (v := 1) hx hb dJ6_bitCount_0f7a4_2 (by decide) ?_
    refine lv_iushr hx hb dJ6_bitCount_0f7a4_3 rfl ?_
    refine tp_i (v := 5) (by decide) ?_
    refine lv_ldcw hx hb hown (hB _ b_267) dJ6_bitCount_0f7a4_4 ?_
    refine lv_iand hx hb dJ6_bitCount_0f7a4_7 ?_
    refine tp_i (v := 5) (by decide) ?_
    refine lv_isub hx hb dJ6_bitCount_0f7a4_8 ?_
    refine tp_i (v := 5) (by decide) ?_
    refine lv_istore_n (lv' := [(0, .int 5)]) hx hb dJ6_bitCount_0f7a4_9 rfl hl (by decide) rfl (fun ls hl => ?_)
    refine lv_iload_n hx hb dJ6_bitCount_0f7a4_10 rfl (lv_at hl 0 rfl) ?_
    refine lv_ldcw hx hb hown (hB _ b_268) dJ6_bitCount_0f7a4_11 ?_
    refine lv_iand hx hb dJ6_bitCount_0f7a4_14 ?_
    refine tp_i (v := 1) (by decide) ?_
    refine lv_iload_n hx hb dJ6_bitCount_0f7a4_15 rfl (lv_at hl 0 rfl) ?_
    refine lv_iconst (v := 2) hx hb dJ6_bitCount_0f7a4_16 (by decide) ?_
    refine lv_iushr hx hb dJ6_bitCount_0f7a4_17 rfl ?_
    refine tp_i (v := 1) (by decide) ?_
    refine lv_ldcw hx hb hown (hB _ b_268) dJ6_bitCount_0f7a4_18 ?_
    refine lv_iand hx hb dJ6_bitCount_0f7a4_21 ?_
    refine tp_i (v := 1) (by decide) ?_
    refine lv_iadd hx hb dJ6_bitCount_0f7a4_22 ?_
    refine tp_i (v := 2) (by decide) ?_
    refine lv_istore_n (lv' := [(0, .int 2)]) hx hb dJ6_bitCount_0f7a4_23 rfl hl (by decide) rfl (fun ls hl => ?_)
    refine lv_iload_n hx hb dJ6_bitCount_0f7a4_24 rfl (lv_at hl 0 rfl) ?_
    refine lv_iload_n hx hb dJ6_bitCount_0f7a4_25 rfl (lv_at hl 0 rfl) ?_
    refine lv_iconst (v := 4) hx hb dJ6_bitCount_0f7a4_26 (by decide) ?_
    refine lv_iushr hx hb dJ6_bitCount_0f7a4_27 rfl ?_
    refine tp_i (v := 0) (by decide) ?_
    refine lv_iadd hx hb dJ6_bitCount_0f7a4_28 ?_
    refine tp_i (v := 2) (by decide) ?_
    refine lv_ldcw hx hb hown (hB _ b_269) dJ6_bitCount_0f7a4_29 ?_
    refine lv_iand hx hb dJ6_bitCount_0f7a4_32 ?_
    refine tp_i (v := 2) (by decide) ?_
    refine lv_istore_n (lv' := [(0, .int 2)]) hx hb dJ6_bitCount_0f7a4_33 rfl hl (by decide) rfl (fun ls hl => ?_)
    refine lv_iload_n hx hb dJ6_bitCount_0f7a4_34 rfl (lv_at hl 0 rfl) ?_
    refine lv_iload_n hx hb dJ6_bitCount_0f7a4_35 rfl (lv_at hl 0 rfl) ?_
    refine lv_bipush (v := 8) hx hb dJ6_bitCount_0f7a4_36 (by decide) ?_
    refine lv_iushr hx hb dJ6_bitCount_0f7a4_38 rfl ?_
    refine tp_i (v := 0) (by decide) ?_
    refine lv_iadd hx hb dJ6_bitCount_0f7a4_39 ?_
    refine tp_i (v := 2) (by decide) ?_
    refine lv_istore_n (lv' := [(0, .int 2)]) hx hb dJ6_bitCount_0f7a4_40 rfl hl (by decide) rfl (fun ls hl => ?_)
    refine lv_iload_n hx hb dJ6_bitCount_0f7a4_41 rfl (lv_at hl 0 rfl) ?_
    refine lv_iload_n hx hb dJ6_bitCount_0f7a4_42 rfl (lv_at hl 0 rfl) ?_
    refine lv_bipush (v := 16) hx hb dJ6_bitCount_0f7a4_43 (by decide) ?_
    refine lv_iushr hx hb dJ6_bitCount_0f7a4_45 rfl ?_
    refine tp_i (v := 0) (by decide) ?_
    refine lv_iadd hx hb dJ6_bitCount_0f7a4_46 ?_
    refine tp_i (v := 2) (by decide) ?_
    refine lv_istore_n (lv' := [(0, .int 2)]) hx hb dJ6_bitCount_0f7a4_47 rfl hl (by decide) rfl (fun ls hl => ?_)
    refine lv_iload_n hx hb dJ6_bitCount_0f7a4_48 rfl (lv_at hl 0 rfl) ?_
    refine lv_bipush (v := 63) hx hb dJ6_bitCount_0f7a4_49 (by decide) ?_
    refine lv_iand hx hb dJ6_bitCount_0f7a4_51 ?_
    refine tp_i (v := 2) (by decide) ?_
    have kc2 : (2 : Int32).toInt = 2 := by decide
    have kc10 : (10 : Int32).toInt = 10 := by decide
    exact rt_i FX ((fun k => match k with | 0 => (2 : Int32) | _ => 0), (fun _ => fun _ => 0), (fun _ => fun _ => 0)) rfl ⟨(show 0 ≤ ((2 : Int32)).toInt ∧ ((2 : Int32)).toInt ≤ 4 by decide), (show ((2 : Int32)).toInt = 1 → 1 ≤ (10 : Int32).toInt by omega)⟩ (hP.sub [] rfl) (hD.sub [] (by decide) rfl) hS (Nat.le_of_ble_eq_true rfl) (Nat.le_of_ble_eq_true rfl) dJ6_bitCount_0f7a4_52
  · obtain rfl : p1 = 11 := Int32.toInt_inj.mp (hv.trans (by decide))
    refine lv_iload_n hx hb dJ6_bitCount_0f7a4_0 rfl (lv_at hl 0 rfl) ?_
    refine lv_iload_n hx hb dJ6_bitCount_0f7a4_1 rfl (lv_at hl 0 rfl) ?_
    refine lv_iconst (v := 1) hx hb dJ6_bitCount_0f7a4_2 (by decide) ?_
    refine lv_iushr hx hb dJ6_bitCount_0f7a4_3 rfl ?_
    refine tp_i (v := 5) (by decide) ?_
    refine lv_ldcw hx hb hown (hB _ b_267) dJ6_bitCount_0f7a4_4 ?_
    refine lv_iand hx hb dJ6_bitCount_0f7a4_7 ?_
    refine tp_i (v := 5) (by decide) ?_
    refine lv_isub hx hb dJ6_bitCount_0f7a4_8 ?_
    refine tp_i (v := 6) (by decide) ?_
    refine lv_istore_n (lv' := [(0, .int 6)]) hx hb dJ6_bitCount_0f7a4_9 rfl hl (by decide) rfl (fun ls hl => ?_)
    refine lv_iload_n hx hb dJ6_bitCount_0f7a4_10 rfl (lv_at hl 0 rfl) ?_
    refine lv_ldcw hx hb hown (hB _ b_268) dJ6_bitCount_0f7a4_11 ?_
    refine lv_iand hx hb dJ6_bitCount_0f7a4_14 ?_
    refine tp_i (v := 2) (by decide) ?_
    refine lv_iload_n hx hb dJ6_bitCount_0f7a4_15 rfl (lv_at hl 0 rfl) ?_
    refine lv_iconst (v := 2) hx hb dJ6_bitCount_0f7a4_16 (by decide) ?_
    refine lv_iushr hx hb dJ6_bitCount_0f7a4_17 rfl ?_
    refine tp_i (v := 1) (by decide) ?_
    refine lv_ldcw hx hb hown (hB _ b_268) dJ6_bitCount_0f7a4_18 ?_
    refine lv_iand hx hb dJ6_bitCount_0f7a4_21 ?_
    refine tp_i (v := 1) (by decide) ?_
    refine lv_iadd hx hb dJ6_bitCount_0f7a4_22 ?_
    refine tp_i (v := 3) (by decide) ?_
    refine lv_istore_n (lv' := [(0, .int 3)]) hx hb dJ6_bitCount_0f7a4_23 rfl hl (by decide) rfl (fun ls hl => ?_)
    refine lv_iload_n hx hb dJ6_bitCount_0f7a4_24 rfl (lv_at hl 0 rfl) ?_
    refine lv_iload_n hx hb dJ6_bitCount_0f7a4_25 rfl (lv_at hl 0 rfl) ?_
    refine lv_iconst (v := 4) hx hb dJ6_bitCount_0f7a4_26 (by decide) ?_
    refine lv_iushr hx hb dJ6_bitCount_0f7a4_27 rfl ?_
    refine tp_i (v := 0) (by decide) ?_
    refine lv_iadd hx hb dJ6_bitCount_0f7a4_28 ?_
    refine tp_i (v := 3) (by decide) ?_
    refine lv_ldcw hx hb hown (hB _ b_269) dJ6_bitCount_0f7a4_29 ?_
    refine lv_iand hx hb dJ6_bitCount_0f7a4_32 ?_
    refine tp_i (v := 3) (by decide) ?_
    refine lv_istore_n (lv' := [(0, .int 3)]) hx hb dJ6_bitCount_0f7a4_33 rfl hl (by decide) rfl (fun ls hl => ?_)
    refine lv_iload_n hx hb dJ6_bitCount_0f7a4_34 rfl (lv_at hl 0 rfl) ?_
    refine lv_iload_n hx hb dJ6_bitCount_0f7a4_35 rfl (lv_at hl 0 rfl) ?_
    refine lv_bipush (v := 8) hx hb dJ6_bitCount_0f7a4_36 (by decide) ?_
    refine lv_iushr hx hb dJ6_bitCount_0f7a4_38 rfl ?_
    refine tp_i (v := 0) (by decide) ?_
    refine lv_iadd hx hb dJ6_bitCount_0f7a4_39 ?_
    refine tp_i (v := 3) (by decide) ?_
    refine lv_istore_n (lv' := [(0, .int 3)]) hx hb dJ6_bitCount_0f7a4_40 rfl hl (by decide) rfl (fun ls hl => ?_)
    refine lv_iload_n hx hb dJ6_bitCount_0f7a4_41 rfl (lv_at hl 0 rfl) ?_
    refine lv_iload_n hx hb dJ6_bitCount_0f7a4_42 rfl (lv_at hl 0 rfl) ?_
    refine lv_bipush (v := 16) hx hb dJ6_bitCount_0f7a4_43 (by decide) ?_
    refine lv_iushr hx hb dJ6_bitCount_0f7a4_45 rfl ?_
    refine tp_i (v := 0) (by decide) ?_
    refine lv_iadd hx hb dJ6_bitCount_0f7a4_46 ?_
    refine tp_i (v := 3) (by decide) ?_
    refine lv_istore_n (lv' := [(0, .int 3)]) hx hb dJ6_bitCount_0f7a4_47 rfl hl (by decide) rfl (fun ls hl => ?_)
    refine lv_iload_n hx hb dJ6_bitCount_0f7a4_48 rfl (lv_at hl 0 rfl) ?_
    refine lv_bipush (v := 63) hx hb dJ6_bitCount_0f7a4_49 (by decide) ?_
    refine lv_iand hx hb dJ6_bitCount_0f7a4_51 ?_
    refine tp_i (v := 3) (by decide) ?_
    have kc3 : (3 : Int32).toInt = 3 := by decide
    have kc11 : (11 : Int32).toInt = 11 := by decide
    exact rt_i FX ((fun k => match k with | 0 => (3 : Int32) | _ => 0), (fun _ => fun _ => 0), (fun _ => fun _ => 0)) rfl ⟨(show 0 ≤ ((3 : Int32)).toInt ∧ ((3 : Int32)).toInt ≤ 4 by decide), (show ((3 : Int32)).toInt = 1 → 1 ≤ (11 : Int32).toInt by omega)⟩ (hP.sub [] rfl) (hD.sub [] (by decide) rfl) hS (Nat.le_of_ble_eq_true rfl) (Nat.le_of_ble_eq_true rfl) dJ6_bitCount_0f7a4_52
  · obtain rfl : p1 = 12 := Int32.toInt_inj.mp (hv.trans (by decide))
    refine lv_iload_n hx hb dJ6_bitCount_0f7a4_0 rfl (lv_at hl 0 rfl) ?_
    refine lv_iload_n hx hb dJ6_bitCount_0f7a4_1 rfl (lv_at hl 0 rfl) ?_
    refine lv_iconst (v := 1) hx hb dJ6_bitCount_0f7a4_2 (by decide) ?_
    refine lv_iushr hx hb dJ6_bitCount_0f7a4_3 rfl ?_
    refine tp_i (v := 6) (by decide) ?_
    refine lv_ldcw hx hb hown (hB _ b_267) dJ6_bitCount_0f7a4_4 ?_
    refine lv_iand hx hb dJ6_bitCount_0f7a4_7 ?_
    refine tp_i (v := 4) (by decide) ?_
    refine lv_isub hx hb dJ6_bitCount_0f7a4_8 ?_
    refine tp_i (v := 8) (by decide) ?_
    refine lv_istore_n (lv' := [(0, .int 8)]) hx hb dJ6_bitCount_0f7a4_9 rfl hl (by decide) rfl (fun ls hl => ?_)
    refine lv_iload_n hx hb dJ6_bitCount_0f7a4_10 rfl (lv_at hl 0 rfl) ?_
    refine lv_ldcw hx hb hown (hB _ b_268) dJ6_bitCount_0f7a4_11 ?_
    refine lv_iand hx hb dJ6_bitCount_0f7a4_14 ?_
    refine tp_i (v := 0) (by decide) ?_
    refine lv_iload_n hx hb dJ6_bitCount_0f7a4_15 rfl (lv_at hl 0 rfl) ?_
    refine lv_iconst (v := 2) hx hb dJ6_bitCount_0f7a4_16 (by decide) ?_
    refine lv_iushr hx hb dJ6_bitCount_0f7a4_17 rfl ?_
    refine tp_i (v := 2) (by decide) ?_
    refine lv_ldcw hx hb hown (hB _ b_268) dJ6_bitCount_0f7a4_18 ?_
    refine lv_iand hx hb dJ6_bitCount_0f7a4_21 ?_
    refine tp_i (v := 2) (by decide) ?_
    refine lv_iadd hx hb dJ6_bitCount_0f7a4_22 ?_
    refine tp_i (v := 2) (by decide) ?_
    refine lv_istore_n (lv' := [(0, .int 2)]) hx hb dJ6_bitCount_0f7a4_23 rfl hl (by decide) rfl (fun ls hl => ?_)
    refine lv_iload_n hx hb dJ6_bitCount_0f7a4_24 rfl (lv_at hl 0 rfl) ?_
    refine lv_iload_n hx hb dJ6_bitCount_0f7a4_25 rfl (lv_at hl 0 rfl) ?_
    refine lv_iconst (v := 4) hx hb dJ6_bitCount_0f7a4_26 (by decide) ?_
    refine lv_iushr hx hb dJ6_bitCount_0f7a4_27 rfl ?_
    refine tp_i (v := 0) (by decide) ?_
    refine lv_iadd hx hb dJ6_bitCount_0f7a4_28 ?_
    refine tp_i (v := 2) (by decide) ?_
    refine lv_ldcw hx hb hown (hB _ b_269) dJ6_bitCount_0f7a4_29 ?_
    refine lv_iand hx hb dJ6_bitCount_0f7a4_32 ?_
    refine tp_i (v := 2) (by decide) ?_
    refine lv_istore_n (lv' := [(0, .int 2)]) hx hb dJ6_bitCount_0f7a4_33 rfl hl (by decide) rfl (fun ls hl => ?_)
    refine lv_iload_n hx hb dJ6_bitCount_0f7a4_34 rfl (lv_at hl 0 rfl) ?_
    refine lv_iload_n hx hb dJ6_bitCount_0f7a4_35 rfl (lv_at hl 0 rfl) ?_
    refine lv_bipush (v := 8) hx hb dJ6_bitCount_0f7a4_36 (by decide) ?_
    refine lv_iushr hx hb dJ6_bitCount_0f7a4_38 rfl ?_
    refine tp_i (v := 0) (by decide) ?_
    refine lv_iadd hx hb dJ6_bitCount_0f7a4_39 ?_
    refine tp_i (v := 2) (by decide) ?_
    refine lv_istore_n (lv' := [(0, .int 2)]) hx hb dJ6_bitCount_0f7a4_40 rfl hl (by decide) rfl (fun ls hl => ?_)
    refine lv_iload_n hx hb dJ6_bitCount_0f7a4_41 rfl (lv_at hl 0 rfl) ?_
    refine lv_iload_n hx hb dJ6_bitCount_0f7a4_42 rfl (lv_at hl 0 rfl) ?_
    refine lv_bipush (v := 16) hx hb dJ6_bitCount_0f7a4_43 (by decide) ?_
    refine lv_iushr hx hb dJ6_bitCount_0f7a4_45 rfl ?_
    refine tp_i (v := 0) (by decide) ?_
    refine lv_iadd hx hb dJ6_bitCount_0f7a4_46 ?_
    refine tp_i (v := 2) (by decide) ?_
    refine lv_istore_n (lv' := [(0, .int 2)]) hx hb dJ6_bitCount_0f7a4_47 rfl hl (by decide) rfl (fun ls hl => ?_)
    refine lv_iload_n hx hb dJ6_bitCount_0f7a4_48 rfl (lv_at hl 0 rfl) ?_
    refine lv_bipush (v := 63) hx hb dJ6_bitCount_0f7a4_49 (by decide) ?_
    refine lv_iand hx hb dJ6_bitCount_0f7a4_51 ?_
    refine tp_i (v := 2) (by decide) ?_
    have kc2 : (2 : Int32).toInt = 2 := by decide
    have kc12 : (12 : Int32).toInt = 12 := by decide
    exact rt_i FX ((fun k => match k with | 0 => (2 : Int32) | _ => 0), (fun _ => fun _ => 0), (fun _ => fun _ => 0)) rfl ⟨(show 0 ≤ ((2 : Int32)).toInt ∧ ((2 : Int32)).toInt ≤ 4 by decide), (show ((2 : Int32)).toInt = 1 → 1 ≤ (12 : Int32).toInt by omega)⟩ (hP.sub [] rfl) (hD.sub [] (by decide) rfl) hS (Nat.le_of_ble_eq_true rfl) (Nat.le_of_ble_eq_true rfl) dJ6_bitCount_0f7a4_52
  · obtain rfl : p1 = 13 := Int32.toInt_inj.mp (hv.trans (by decide))
    refine lv_iload_n hx hb dJ6_bitCount_0f7a4_0 rfl (lv_at hl 0 rfl) ?_
    refine lv_iload_n hx hb dJ6_bitCount_0f7a4_1 rfl (lv_at hl 0 rfl) ?_
    refine lv_iconst (v := 1) hx hb dJ6_bitCount_0f7a4_2 (by decide) ?_
    refine lv_iushr hx hb dJ6_bitCount_0f7a4_3 rfl ?_
    refine tp_i (v := 6) (by decide) ?_
    refine lv_ldcw hx hb hown (hB _ b_267) dJ6_bitCount_0f7a4_4 ?_
    refine lv_iand hx hb dJ6_bitCount_0f7a4_7 ?_
    refine tp_i (v := 4) (by decide) ?_
    refine lv_isub hx hb dJ6_bitCount_0f7a4_8 ?_
    refine tp_i (v := 9) (by decide) ?_
    refine lv_istore_n (lv' := [(0, .int 9)]) hx hb dJ6_bitCount_0f7a4_9 rfl hl (by decide) rfl (fun ls hl => ?_)
    refine lv_iload_n hx hb dJ6_bitCount_0f7a4_10 rfl (lv_at hl 0 rfl) ?_
    refine lv_ldcw hx hb hown (hB _ b_268) dJ6_bitCount_0f7a4_11 ?_
    refine lv_iand hx hb dJ6_bitCount_0f7a4_14 ?_
    refine tp_i (v := 1) (by decide) ?_
    refine lv_iload_n hx hb dJ6_bitCount_0f7a4_15 rfl (lv_at hl 0 rfl) ?_
    refine lv_iconst (v := 2) hx hb dJ6_bitCount_0f7a4_16 (by decide) ?_
    refine lv_iushr hx hb dJ6_bitCount_0f7a4_17 rfl ?_
    refine tp_i (v := 2) (by decide) ?_
    refine lv_ldcw hx hb hown (hB _ b_268) dJ6_bitCount_0f7a4_18 ?_
    refine lv_iand hx hb dJ6_bitCount_0f7a4_21 ?_
    refine tp_i (v := 2) (by decide) ?_
    refine lv_iadd hx hb dJ6_bitCount_0f7a4_22 ?_
    refine tp_i (v := 3) (by decide) ?_
    refine lv_istore_n (lv' := [(0, .int 3)]) hx hb dJ6_bitCount_0f7a4_23 rfl hl (by decide) rfl (fun ls hl => ?_)
    refine lv_iload_n hx hb dJ6_bitCount_0f7a4_24 rfl (lv_at hl 0 rfl) ?_
    refine lv_iload_n hx hb dJ6_bitCount_0f7a4_25 rfl (lv_at hl 0 rfl) ?_
    refine lv_iconst (v := 4) hx hb dJ6_bitCount_0f7a4_26 (by decide) ?_
    refine lv_iushr hx hb dJ6_bitCount_0f7a4_27 rfl ?_
    refine tp_i (v := 0) (by decide) ?_
    refine lv_iadd hx hb dJ6_bitCount_0f7a4_28 ?_
    refine tp_i (v := 3) (by decide) ?_
    refine lv_ldcw hx hb hown (hB _ b_269) dJ6_bitCount_0f7a4_29 ?_
    refine lv_iand hx hb dJ6_bitCount_0f7a4_32 ?_
    refine tp_i (v := 3) (by decide) ?_
    refine lv_istore_n (lv' := [(0, .int 3)]) hx hb dJ6_bitCount_0f7a4_33 rfl hl (by decide) rfl (fun ls hl => ?_)
    refine lv_iload_n hx hb dJ6_bitCount_0f7a4_34 rfl (lv_at hl 0 rfl) ?_
    refine lv_iload_n hx hb dJ6_bitCount_0f7a4_35 rfl (lv_at hl 0 rfl) ?_
    refine lv_bipush (v := 8) hx hb dJ6_bitCount_0f7a4_36 (by decide) ?_
    refine lv_iushr hx hb dJ6_bitCount_0f7a4_38 rfl ?_
    refine tp_i (v := 0) (by decide) ?_
    refine lv_iadd hx hb dJ6_bitCount_0f7a4_39 ?_
    refine tp_i (v := 3) (by decide) ?_
    refine lv_istore_n (lv' := [(0, .int 3)]) hx hb dJ6_bitCount_0f7a4_40 rfl hl (by decide) rfl (fun ls hl => ?_)
    refine lv_iload_n hx hb dJ6_bitCount_0f7a4_41 rfl (lv_at hl 0 rfl) ?_
    refine lv_iload_n hx hb dJ6_bitCount_0f7a4_42 rfl (lv_at hl 0 rfl) ?_
    refine lv_bipush (v := 16) hx hb dJ6_bitCount_0f7a4_43 (by decide) ?_
    refine lv_iushr hx hb dJ6_bitCount_0f7a4_45 rfl ?_
    refine tp_i (v := 0) (by decide) ?_
    refine lv_iadd hx hb dJ6_bitCount_0f7a4_46 ?_
    refine tp_i (v := 3) (by decide) ?_
    refine lv_istore_n (lv' := [(0, .int 3)]) hx hb dJ6_bitCount_0f7a4_47 rfl hl (by decide) rfl (fun ls hl => ?_)
    refine lv_iload_n hx hb dJ6_bitCount_0f7a4_48 rfl (lv_at hl 0 rfl) ?_
    refine lv_bipush (v := 63) hx hb dJ6_bitCount_0f7a4_49 (by decide) ?_
    refine lv_iand hx hb dJ6_bitCount_0f7a4_51 ?_
    refine tp_i (v := 3) (by decide) ?_
    have kc3 : (3 : Int32).toInt = 3 := by decide
    have kc13 : (13 : Int32).toInt = 13 := by decide
    exact rt_i FX ((fun k => match k with | 0 => (3 : Int32) | _ => 0), (fun _ => fun _ => 0), (fun _ => fun _ => 0)) rfl ⟨(show 0 ≤ ((3 : Int32)).toInt ∧ ((3 : Int32)).toInt ≤ 4 by decide), (show ((3 : Int32)).toInt = 1 → 1 ≤ (13 : Int32).toInt by omega)⟩ (hP.sub [] rfl) (hD.sub [] (by decide) rfl) hS (Nat.le_of_ble_eq_true rfl) (Nat.le_of_ble_eq_true rfl) dJ6_bitCount_0f7a4_52
  · obtain rfl : p1 = 14 := Int32.toInt_inj.mp (hv.trans (by decide))
    refine lv_iload_n hx hb dJ6_bitCount_0f7a4_0 rfl (lv_at hl 0 rfl) ?_
    refine lv_iload_n hx hb dJ6_bitCount_0f7a4_1 rfl (lv_at hl 0 rfl) ?_
    refine lv_iconst (v := 1) hx hb dJ6_bitCount_0f7a4_2 (by decide) ?_
    refine lv_iushr hx hb dJ6_bitCount_0f7a4_3 rfl ?_
    refine tp_i (v := 7) (by decide) ?_
    refine lv_ldcw hx hb hown (hB _ b_267) dJ6_bitCount_0f7a4_4 ?_
    refine lv_iand hx hb dJ6_bitCount_0f7a4_7 ?_
    refine tp_i (v := 5) (by decide) ?_
    refine lv_isub hx hb dJ6_bitCount_0f7a4_8 ?_
    refine tp_i (v := 9) (by decide) ?_
    refine lv_istore_n (lv' := [(0, .int 9)]) hx hb dJ6_bitCount_0f7a4_9 rfl hl (by decide) rfl (fun ls hl => ?_)
    refine lv_iload_n hx hb dJ6_bitCount_0f7a4_10 rfl (lv_at hl 0 rfl) ?_
    refine lv_ldcw hx hb hown (hB _ b_268) dJ6_bitCount_0f7a4_11 ?_
    refine lv_iand hx hb dJ6_bitCount_0f7a4_14 ?_
    refine tp_i (v := 1) (by decide) ?_
    refine lv_iload_n hx hb dJ6_bitCount_0f7a4_15 rfl (lv_at hl 0 rfl) ?_
    refine lv_iconst (v := 2) hx hb dJ6_bitCount_0f7a4_16 (by decide) ?_
    refine lv_iushr hx hb dJ6_bitCount_0f7a4_17 rfl ?_
    refine tp_i (v := 2) (by decide) ?_
    refine lv_ldcw hx hb hown (hB _ b_268) dJ6_bitCount_0f7a4_18 ?_
    refine lv_iand hx hb dJ6_bitCount_0f7a4_21 ?_
    refine tp_i (v := 2) (by decide) ?_
    refine lv_iadd hx hb dJ6_bitCount_0f7a4_22 ?_
    refine tp_i (v := 3) (by decide) ?_
    refine lv_istore_n (lv' := [(0, .int 3)]) hx hb dJ6_bitCount_0f7a4_23 rfl hl (by decide) rfl (fun ls hl => ?_)
    refine lv_iload_n hx hb dJ6_bitCount_0f7a4_24 rfl (lv_at hl 0 rfl) ?_
    refine lv_iload_n hx hb dJ6_bitCount_0f7a4_25 rfl (lv_at hl 0 rfl) ?_
    refine lv_iconst (v := 4) hx hb dJ6_bitCount_0f7a4_26 (by decide) ?_
    refine lv_iushr hx hb dJ6_bitCount_0f7a4_27 rfl ?_
    refine tp_i (v := 0) (by decide) ?_
    refine lv_iadd hx hb dJ6_bitCount_0f7a4_28 ?_
    refine tp_i (v := 3) (by decide) ?_
    refine lv_ldcw hx hb hown (hB _ b_269) dJ6_bitCount_0f7a4_29 ?_
    refine lv_iand hx hb dJ6_bitCount_0f7a4_32 ?_
    refine tp_i (v := 3) (by decide) ?_
    refine lv_istore_n (lv' := [(0, .int 3)]) hx hb dJ6_bitCount_0f7a4_33 rfl hl (by decide) rfl (fun ls hl => ?_)
    refine lv_iload_n hx hb dJ6_bitCount_0f7a4_34 rfl (lv_at hl 0 rfl) ?_
    refine lv_iload_n hx hb dJ6_bitCount_0f7a4_35 rfl (lv_at hl 0 rfl) ?_
    refine lv_bipush (v := 8) hx hb dJ6_bitCount_0f7a4_36 (by decide) ?_
    refine lv_iushr hx hb dJ6_bitCount_0f7a4_38 rfl ?_
    refine tp_i (v := 0) (by decide) ?_
    refine lv_iadd hx hb dJ6_bitCount_0f7a4_39 ?_
    refine tp_i (v := 3) (by decide) ?_
    refine lv_istore_n (lv' := [(0, .int 3)]) hx hb dJ6_bitCount_0f7a4_40 rfl hl (by decide) rfl (fun ls hl => ?_)
    refine lv_iload_n hx hb dJ6_bitCount_0f7a4_41 rfl (lv_at hl 0 rfl) ?_
    refine lv_iload_n hx hb dJ6_bitCount_0f7a4_42 rfl (lv_at hl 0 rfl) ?_
    refine lv_bipush (v := 16) hx hb dJ6_bitCount_0f7a4_43 (by decide) ?_
    refine lv_iushr hx hb dJ6_bitCount_0f7a4_45 rfl ?_
    refine tp_i (v := 0) (by decide) ?_
    refine lv_iadd hx hb dJ6_bitCount_0f7a4_46 ?_
    refine tp_i (v := 3) (by decide) ?_
    refine lv_istore_n (lv' := [(0, .int 3)]) hx hb dJ6_bitCount_0f7a4_47 rfl hl (by decide) rfl (fun ls hl => ?_)
    refine lv_iload_n hx hb dJ6_bitCount_0f7a4_48 rfl (lv_at hl 0 rfl) ?_
    refine lv_bipush (v := 63) hx hb dJ6_bitCount_0f7a4_49 (by decide) ?_
    refine lv_iand hx hb dJ6_bitCount_0f7a4_51 ?_
    refine tp_i (v := 3) (by decide) ?_
    have kc3 : (3 : Int32).toInt = 3 := by decide
    have kc14 : (14 : Int32).toInt = 14 := by decide
    exact rt_i FX ((fun k => match k with | 0 => (3 : Int32) | _ => 0), (fun _ => fun _ => 0), (fun _ => fun _ => 0)) rfl ⟨(show 0 ≤ ((3 : Int32)).toInt ∧ ((3 : Int32)).toInt ≤ 4 by decide), (show ((3 : Int32)).toInt = 1 → 1 ≤ (14 : Int32).toInt by omega)⟩ (hP.sub [] rfl) (hD.sub [] (by decide) rfl) hS (Nat.le_of_ble_eq_true rfl) (Nat.le_of_ble_eq_true rfl) dJ6_bitCount_0f7a4_52
  · obtain rfl : p1 = 15 := Int32.toInt_inj.mp (hv.trans (by decide))
    refine lv_iload_n hx hb dJ6_bitCount_0f7a4_0 rfl (lv_at hl 0 rfl) ?_
    refine lv_iload_n hx hb dJ6_bitCount_0f7a4_1 rfl (lv_at hl 0 rfl) ?_
    refine lv_iconst (v := 1) hx hb dJ6_bitCount_0f7a4_2 (by decide) ?_
    refine lv_iushr hx hb dJ6_bitCount_0f7a4_3 rfl ?_
    refine tp_i (v := 7) (by decide) ?_
    refine lv_ldcw hx hb hown (hB _ b_267) dJ6_bitCount_0f7a4_4 ?_
    refine lv_iand hx hb dJ6_bitCount_0f7a4_7 ?_
    refine tp_i (v := 5) (by decide) ?_
    refine lv_isub hx hb dJ6_bitCount_0f7a4_8 ?_
    refine tp_i (v := 10) (by decide) ?_
    refine lv_istore_n (lv' := [(0, .int 10)]) hx hb dJ6_bitCount_0f7a4_9 rfl hl (by decide) rfl (fun ls hl => ?_)
    refine lv_iload_n hx hb dJ6_bitCount_0f7a4_10 rfl (lv_at hl 0 rfl) ?_
    refine lv_ldcw hx hb hown (hB _ b_268) dJ6_bitCount_0f7a4_11 ?_
    refine lv_iand hx hb dJ6_bitCount_0f7a4_14 ?_
    refine tp_i (v := 2) (by decide) ?_
    refine lv_iload_n hx hb dJ6_bitCount_0f7a4_15 rfl (lv_at hl 0 rfl) ?_
    refine lv_iconst (v := 2) hx hb dJ6_bitCount_0f7a4_16 (by decide) ?_
    refine lv_iushr hx hb dJ6_bitCount_0f7a4_17 rfl ?_
    refine tp_i (v := 2) (by decide) ?_
    refine lv_ldcw hx hb hown (hB _ b_268) dJ6_bitCount_0f7a4_18 ?_
    refine lv_iand hx hb dJ6_bitCount_0f7a4_21 ?_
    refine tp_i (v := 2) (by decide) ?_
    refine lv_iadd hx hb dJ6_bitCount_0f7a4_22 ?_
    refine tp_i (v := 4) (by decide) ?_
    refine lv_istore_n (lv' := [(0, .int 4)]) hx hb dJ6_bitCount_0f7a4_23 rfl hl (by decide) rfl (fun ls hl => ?_)
    refine lv_iload_n hx hb dJ6_bitCount_0f7a4_24 rfl (lv_at hl 0 rfl) ?_
    refine lv_iload_n hx hb dJ6_bitCount_0f7a4_25 rfl (lv_at hl 0 rfl) ?_
    refine lv_iconst (v := 4) hx hb dJ6_bitCount_0f7a4_26 (by decide) ?_
    refine lv_iushr hx hb dJ6_bitCount_0f7a4_27 rfl ?_
    refine tp_i (v := 0) (by decide) ?_
    refine lv_iadd hx hb dJ6_bitCount_0f7a4_28 ?_
    refine tp_i (v := 4) (by decide) ?_
    refine lv_ldcw hx hb hown (hB _ b_269) dJ6_bitCount_0f7a4_29 ?_
    refine lv_iand hx hb dJ6_bitCount_0f7a4_32 ?_
    refine tp_i (v := 4) (by decide) ?_
    refine lv_istore_n (lv' := [(0, .int 4)]) hx hb dJ6_bitCount_0f7a4_33 rfl hl (by decide) rfl (fun ls hl => ?_)
    refine lv_iload_n hx hb dJ6_bitCount_0f7a4_34 rfl (lv_at hl 0 rfl) ?_
    refine lv_iload_n hx hb dJ6_bitCount_0f7a4_35 rfl (lv_at hl 0 rfl) ?_
    refine lv_bipush (v := 8) hx hb dJ6_bitCount_0f7a4_36 (by decide) ?_
    refine lv_iushr hx hb dJ6_bitCount_0f7a4_38 rfl ?_
    refine tp_i (v := 0) (by decide) ?_
    refine lv_iadd hx hb dJ6_bitCount_0f7a4_39 ?_
    refine tp_i (v := 4) (by decide) ?_
    refine lv_istore_n (lv' := [(0, .int 4)]) hx hb dJ6_bitCount_0f7a4_40 rfl hl (by decide) rfl (fun ls hl => ?_)
    refine lv_iload_n hx hb dJ6_bitCount_0f7a4_41 rfl (lv_at hl 0 rfl) ?_
    refine lv_iload_n hx hb dJ6_bitCount_0f7a4_42 rfl (lv_at hl 0 rfl) ?_
    refine lv_bipush (v := 16) hx hb dJ6_bitCount_0f7a4_43 (by decide) ?_
    refine lv_iushr hx hb dJ6_bitCount_0f7a4_45 rfl ?_
    refine tp_i (v := 0) (by decide) ?_
    refine lv_iadd hx hb dJ6_bitCount_0f7a4_46 ?_
    refine tp_i (v := 4) (by decide) ?_
    refine lv_istore_n (lv' := [(0, .int 4)]) hx hb dJ6_bitCount_0f7a4_47 rfl hl (by decide) rfl (fun ls hl => ?_)
    refine lv_iload_n hx hb dJ6_bitCount_0f7a4_48 rfl (lv_at hl 0 rfl) ?_
    refine lv_bipush (v := 63) hx hb dJ6_bitCount_0f7a4_49 (by decide) ?_
    refine lv_iand hx hb dJ6_bitCount_0f7a4_51 ?_
    refine tp_i (v := 4) (by decide) ?_
    have kc4 : (4 : Int32).toInt = 4 := by decide
    have kc15 : (15 : Int32).toInt = 15 := by decide
    exact rt_i FX ((fun k => match k with | 0 => (4 : Int32) | _ => 0), (fun _ => fun _ => 0), (fun _ => fun _ => 0)) rfl ⟨(show 0 ≤ ((4 : Int32)).toInt ∧ ((4 : Int32)).toInt ≤ 4 by decide), (show ((4 : Int32)).toInt = 1 → 1 ≤ (15 : Int32).toInt by omega)⟩ (hP.sub [] rfl) (hD.sub [] (by decide) rfl) hS (Nat.le_of_ble_eq_true rfl) (Nat.le_of_ble_eq_true rfl) dJ6_bitCount_0f7a4_52
set_option maxRecDepth 100000 in
set_option maxHeartbeats 4000000 in
theorem k_bitCount (l : Launch) (g : GG) (p1 : Int32) : Ct l g yJ6_bitCount_0f7a4 cJ6_bitCount_0f7a4 1 (some .int) { frames := 0, cells := 0, slots := 0, locals := 0 } [.int p1] [] (S := (Nat → Int32) × (Nat → Nat → Int32) × (Nat → Nat → Int64)) (fun u => some (.int (u.1 0))) (fun u => True) (fun u => []) := by
  refine Ct.of (by decide) (Nat.le_of_ble_eq_true rfl) ?_
  intro p e s m below meth c A ls FX hP hD hS hl
  obtain ⟨FC, hr, hlk, hKn, hA, hnm, hZ⟩ := id FX
  have FC : CallFix p m c cJ6_bitCount_0f7a4 1 s _ BIG RJ6 := FC
  obtain ⟨hx, hb, hml, hown, hB⟩ := id FC
  have hl : lv_has ls 1 [(0, .int p1)] := hl
  refine lv_iload_n hx hb dJ6_bitCount_0f7a4_0 rfl (lv_at hl 0 rfl) ?_
  refine lv_iload_n hx hb dJ6_bitCount_0f7a4_1 rfl (lv_at hl 0 rfl) ?_
  refine lv_iconst (v := 1) hx hb dJ6_bitCount_0f7a4_2 (by decide) ?_
  refine lv_iushr hx hb dJ6_bitCount_0f7a4_3 rfl ?_
  refine lv_topi (fun z1 e_z1 => ?_)
  refine lv_ldcw hx hb hown (hB _ b_267) dJ6_bitCount_0f7a4_4 ?_
  refine lv_iand hx hb dJ6_bitCount_0f7a4_7 ?_
  have kc1431655765 : (1431655765 : Int32).toInt = 1431655765 := by decide
  refine lv_topi (fun z2 e_z2 => ?_)
  have t_z2 : 0 ≤ z2.toInt ∧ z2.toInt ≤ 1431655765 := by rw [e_z2]; exact and_r (by omega) (by omega)
  refine lv_isub hx hb dJ6_bitCount_0f7a4_8 ?_
  refine lv_topi (fun z3 e_z3 => ?_)
  refine lv_istore_n (lv' := [(0, .int z3)]) hx hb dJ6_bitCount_0f7a4_9 rfl hl (by decide) rfl (fun ls hl => ?_)
  refine lv_iload_n hx hb dJ6_bitCount_0f7a4_10 rfl (lv_at hl 0 rfl) ?_
  refine lv_ldcw hx hb hown (hB _ b_268) dJ6_bitCount_0f7a4_11 ?_
  refine lv_iand hx hb dJ6_bitCount_0f7a4_14 ?_
  have kc858993459 : (858993459 : Int32).toInt = 858993459 := by decide
  refine lv_topi (fun z4 e_z4 => ?_)
  have t_z4 : 0 ≤ z4.toInt ∧ z4.toInt ≤ 858993459 := by rw [e_z4]; exact and_r (by omega) (by omega)
  refine lv_iload_n hx hb dJ6_bitCount_0f7a4_15 rfl (lv_at hl 0 rfl) ?_
  refine lv_iconst (v := 2) hx hb dJ6_bitCount_0f7a4_16 (by decide) ?_
  refine lv_iushr hx hb dJ6_bitCount_0f7a4_17 rfl ?_
  refine lv_topi (fun z5 e_z5 => ?_)
  refine lv_ldcw hx hb hown (hB _ b_268) dJ6_bitCount_0f7a4_18 ?_
  refine lv_iand hx hb dJ6_bitCount_0f7a4_21 ?_
  refine lv_topi (fun z6 e_z6 => ?_)
  have t_z6 : 0 ≤ z6.toInt ∧ z6.toInt ≤ 858993459 := by rw [e_z6]; exact and_r (by omega) (by omega)
  refine lv_iadd hx hb dJ6_bitCount_0f7a4_22 ?_
  refine lv_topi (fun z7 e_z7 => ?_)
  have t_z7 : z7.toInt = z4.toInt + z6.toInt := by rw [e_z7]; exact fb_addI (by omega) (by omega)
  refine lv_istore_n (lv' := [(0, .int z7)]) hx hb dJ6_bitCount_0f7a4_23 rfl hl (by decide) rfl (fun ls hl => ?_)
  refine lv_iload_n hx hb dJ6_bitCount_0f7a4_24 rfl (lv_at hl 0 rfl) ?_
  refine lv_iload_n hx hb dJ6_bitCount_0f7a4_25 rfl (lv_at hl 0 rfl) ?_
  refine lv_iconst (v := 4) hx hb dJ6_bitCount_0f7a4_26 (by decide) ?_
  refine lv_iushr hx hb dJ6_bitCount_0f7a4_27 rfl ?_
  refine lv_topi (fun z8 e_z8 => ?_)
  refine lv_iadd hx hb dJ6_bitCount_0f7a4_28 ?_
  refine lv_topi (fun z9 e_z9 => ?_)
  refine lv_ldcw hx hb hown (hB _ b_269) dJ6_bitCount_0f7a4_29 ?_
  refine lv_iand hx hb dJ6_bitCount_0f7a4_32 ?_
  have kc252645135 : (252645135 : Int32).toInt = 252645135 := by decide
  refine lv_topi (fun z10 e_z10 => ?_)
  have t_z10 : 0 ≤ z10.toInt ∧ z10.toInt ≤ 252645135 := by rw [e_z10]; exact and_r (by omega) (by omega)
  refine lv_istore_n (lv' := [(0, .int z10)]) hx hb dJ6_bitCount_0f7a4_33 rfl hl (by decide) rfl (fun ls hl => ?_)
  refine lv_iload_n hx hb dJ6_bitCount_0f7a4_34 rfl (lv_at hl 0 rfl) ?_
  refine lv_iload_n hx hb dJ6_bitCount_0f7a4_35 rfl (lv_at hl 0 rfl) ?_
  refine lv_bipush (v := 8) hx hb dJ6_bitCount_0f7a4_36 (by decide) ?_
  refine lv_iushr hx hb dJ6_bitCount_0f7a4_38 rfl ?_
  refine lv_topi (fun z11 e_z11 => ?_)
  refine lv_iadd hx hb dJ6_bitCount_0f7a4_39 ?_
  refine lv_topi (fun z12 e_z12 => ?_)
  refine lv_istore_n (lv' := [(0, .int z12)]) hx hb dJ6_bitCount_0f7a4_40 rfl hl (by decide) rfl (fun ls hl => ?_)
  refine lv_iload_n hx hb dJ6_bitCount_0f7a4_41 rfl (lv_at hl 0 rfl) ?_
  refine lv_iload_n hx hb dJ6_bitCount_0f7a4_42 rfl (lv_at hl 0 rfl) ?_
  refine lv_bipush (v := 16) hx hb dJ6_bitCount_0f7a4_43 (by decide) ?_
  refine lv_iushr hx hb dJ6_bitCount_0f7a4_45 rfl ?_
  refine lv_topi (fun z13 e_z13 => ?_)
  refine lv_iadd hx hb dJ6_bitCount_0f7a4_46 ?_
  refine lv_topi (fun z14 e_z14 => ?_)
  refine lv_istore_n (lv' := [(0, .int z14)]) hx hb dJ6_bitCount_0f7a4_47 rfl hl (by decide) rfl (fun ls hl => ?_)
  refine lv_iload_n hx hb dJ6_bitCount_0f7a4_48 rfl (lv_at hl 0 rfl) ?_
  refine lv_bipush (v := 63) hx hb dJ6_bitCount_0f7a4_49 (by decide) ?_
  refine lv_iand hx hb dJ6_bitCount_0f7a4_51 ?_
  have kc63 : (63 : Int32).toInt = 63 := by decide
  refine lv_topi (fun z15 e_z15 => ?_)
  have t_z15 : 0 ≤ z15.toInt ∧ z15.toInt ≤ 63 := by rw [e_z15]; exact and_r (by omega) (by omega)
  exact rt_i FX ((fun k => match k with | 0 => z15 | _ => 0), (fun _ => fun _ => 0), (fun _ => fun _ => 0)) rfl trivial (hP.sub [] rfl) (hD.sub [] (by decide) rfl) hS (Nat.le_of_ble_eq_true rfl) (Nat.le_of_ble_eq_true rfl) dJ6_bitCount_0f7a4_52
set_option maxRecDepth 100000 in
set_option maxHeartbeats 4000000 in
theorem k_ntz (l : Launch) (g : GG) (p1 : Int32) (i_p1 : 1 ≤ p1.toInt ∧ p1.toInt ≤ 15) : Ct l g yJ6_numberOfTrailingZeros_0f7a4 cJ6_numberOfTrailingZeros_0f7a4 2 (some .int) { frames := 0, cells := 0, slots := 0, locals := 0 } [.int p1] [] (S := (Nat → Int32) × (Nat → Nat → Int32) × (Nat → Nat → Int64)) (fun u => some (.int (u.1 0))) (fun u => (0 ≤ (u.1 0).toInt ∧ (u.1 0).toInt ≤ 3)) (fun u => []) := by
  refine Ct.of (by decide) (Nat.le_of_ble_eq_true rfl) ?_
  intro p e s m below meth c A ls FX hP hD hS hl
  obtain ⟨FC, hr, hlk, hKn, hA, hnm, hZ⟩ := id FX
  have FC : CallFix p m c cJ6_numberOfTrailingZeros_0f7a4 2 s _ BIG RJ6 := FC
  obtain ⟨hx, hb, hml, hown, hB⟩ := id FC
  have hl : lv_has ls 2 [(0, .int p1)] := hl
  rcases (show p1.toInt = 1 ∨ p1.toInt = 2 ∨ p1.toInt = 3 ∨ p1.toInt = 4 ∨ p1.toInt = 5 ∨ p1.toInt = 6 ∨ p1.toInt = 7 ∨ p1.toInt = 8 ∨ p1.toInt = 9 ∨ p1.toInt = 10 ∨ p1.toInt = 11 ∨ p1.toInt = 12 ∨ p1.toInt = 13 ∨ p1.toInt = 14 ∨ p1.toInt = 15 by omega) with hv | hv | hv | hv | hv | hv | hv | hv | hv | hv | hv | hv | hv | hv | hv
  · obtain rfl : p1 = 1 := Int32.toInt_inj.mp (hv.trans (by decide))
    refine lv_iload_n hx hb dJ6_numberOfTrailingZeros_0f7a4_0 rfl (lv_at hl 0 rfl) ?_
    refine lv_iconst (v := -1) hx hb dJ6_numberOfTrailingZeros_0f7a4_1 (by decide) ?_
    refine lv_ixor hx hb dJ6_numberOfTrailingZeros_0f7a4_2 ?_
    refine tp_i (v := -2) (by decide) ?_
    refine lv_iload_n hx hb dJ6_numberOfTrailingZeros_0f7a4_3 rfl (lv_at hl 0 rfl) ?_
    refine lv_iconst (v := 1) hx hb dJ6_numberOfTrailingZeros_0f7a4_4 (by decide) ?_
    refine lv_isub hx hb dJ6_numberOfTrailingZeros_0f7a4_5 ?_
    refine tp_i (v := 0) (by decide) ?_
    refine lv_iand hx hb dJ6_numberOfTrailingZeros_0f7a4_6 ?_
    refine tp_i (v := 0) (by decide) ?_
    refine lv_istore_n (lv' := [(0, .int 0)]) hx hb dJ6_numberOfTrailingZeros_0f7a4_7 rfl hl (by decide) rfl (fun ls hl => ?_)
    refine lv_iload_n hx hb dJ6_numberOfTrailingZeros_0f7a4_8 rfl (lv_at hl 0 rfl) ?_
    refine lv_if_gt (tgt := 17) hx hb dJ6_numberOfTrailingZeros_0f7a4_9 (by decide) (fun h => absurd h (by decide)) (fun _ => ?_)
    refine lv_iload_n hx hb dJ6_numberOfTrailingZeros_0f7a4_12 rfl (lv_at hl 0 rfl) ?_
    refine lv_bipush (v := 32) hx hb dJ6_numberOfTrailingZeros_0f7a4_13 (by decide) ?_
    refine lv_iand hx hb dJ6_numberOfTrailingZeros_0f7a4_15 ?_
    refine tp_i (v := 0) (by decide) ?_
    exact rt_i FX ((fun k => match k with | 0 => (0 : Int32) | _ => 0), (fun _ => fun _ => 0), (fun _ => fun _ => 0)) rfl (show 0 ≤ ((0 : Int32)).toInt ∧ ((0 : Int32)).toInt ≤ 3 by decide) (hP.sub [] rfl) (hD.sub [] (by decide) rfl) hS (Nat.le_of_ble_eq_true rfl) (Nat.le_of_ble_eq_true rfl) dJ6_numberOfTrailingZeros_0f7a4_16
  · obtain rfl : p1 = 2 := Int32.toInt_inj.mp (hv.trans (by decide))
    refine lv_iload_n hx hb dJ6_numberOfTrailingZeros_0f7a4_0 rfl (lv_at hl 0 rfl) ?_
    refine lv_iconst (v := -1) hx hb dJ6_numberOfTrailingZeros_0f7a4_1 (by decide) ?_
    refine lv_ixor hx hb dJ6_numberOfTrailingZeros_0f7a4_2 ?_
    refine tp_i (v := -3) (by decide) ?_
    refine lv_iload_n hx hb dJ6_numberOfTrailingZeros_0f7a4_3 rfl (lv_at hl 0 rfl) ?_
    refine lv_iconst (v := 1) hx hb dJ6_numberOfTrailingZeros_0f7a4_4 (by decide) ?_
    refine lv_isub hx hb dJ6_numberOfTrailingZeros_0f7a4_5 ?_
    refine tp_i (v := 1) (by decide) ?_
    refine lv_iand hx hb dJ6_numberOfTrailingZeros_0f7a4_6 ?_
    refine tp_i (v := 1) (by decide) ?_
    refine lv_istore_n (lv' := [(0, .int 1)]) hx hb dJ6_numberOfTrailingZeros_0f7a4_7 rfl hl (by decide) rfl (fun ls hl => ?_)
    refine lv_iload_n hx hb dJ6_numberOfTrailingZeros_0f7a4_8 rfl (lv_at hl 0 rfl) ?_
    refine lv_if_gt (tgt := 17) hx hb dJ6_numberOfTrailingZeros_0f7a4_9 (by decide) (fun _ => ?_) (fun h => absurd h (by decide))
    refine lv_iconst (v := 1) hx hb dJ6_numberOfTrailingZeros_0f7a4_17 (by decide) ?_
    refine lv_istore_n (lv' := [(1, .int 1), (0, .int 1)]) hx hb dJ6_numberOfTrailingZeros_0f7a4_18 rfl hl (by decide) rfl (fun ls hl => ?_)
    refine lv_iload_n hx hb dJ6_numberOfTrailingZeros_0f7a4_19 rfl (lv_at hl 1 rfl) ?_
    refine lv_ldcw hx hb hown (hB _ b_270) dJ6_numberOfTrailingZeros_0f7a4_20 ?_
    refine lv_icmp_le (tgt := 34) hx hb dJ6_numberOfTrailingZeros_0f7a4_23 (by decide) (fun _ => ?_) (fun h => absurd h (by decide))
    refine lv_iload_n hx hb dJ6_numberOfTrailingZeros_0f7a4_34 rfl (lv_at hl 1 rfl) ?_
    refine lv_sipush (v := 256) hx hb dJ6_numberOfTrailingZeros_0f7a4_35 (by decide) ?_
    refine lv_icmp_le (tgt := 49) hx hb dJ6_numberOfTrailingZeros_0f7a4_38 (by decide) (fun _ => ?_) (fun h => absurd h (by decide))
    refine lv_iload_n hx hb dJ6_numberOfTrailingZeros_0f7a4_49 rfl (lv_at hl 1 rfl) ?_
    refine lv_bipush (v := 16) hx hb dJ6_numberOfTrailingZeros_0f7a4_50 (by decide) ?_
    refine lv_icmp_le (tgt := 62) hx hb dJ6_numberOfTrailingZeros_0f7a4_52 (by decide) (fun _ => ?_) (fun h => absurd h (by decide))
    refine lv_iload_n hx hb dJ6_numberOfTrailingZeros_0f7a4_62 rfl (lv_at hl 1 rfl) ?_
    refine lv_iconst (v := 4) hx hb dJ6_numberOfTrailingZeros_0f7a4_63 (by decide) ?_
    refine lv_icmp_le (tgt := 74) hx hb dJ6_numberOfTrailingZeros_0f7a4_64 (by decide) (fun _ => ?_) (fun h => absurd h (by decide))
    refine lv_iload_n hx hb dJ6_numberOfTrailingZeros_0f7a4_74 rfl (lv_at hl 0 rfl) ?_
    refine lv_iload_n hx hb dJ6_numberOfTrailingZeros_0f7a4_75 rfl (lv_at hl 1 rfl) ?_
    refine lv_iconst (v := 1) hx hb dJ6_numberOfTrailingZeros_0f7a4_76 (by decide) ?_
    refine lv_iushr hx hb dJ6_numberOfTrailingZeros_0f7a4_77 rfl ?_
    refine tp_i (v := 0) (by decide) ?_
    refine lv_iadd hx hb dJ6_numberOfTrailingZeros_0f7a4_78 ?_
    refine tp_i (v := 1) (by decide) ?_
    exact rt_i FX ((fun k => match k with | 0 => (1 : Int32) | _ => 0), (fun _ => fun _ => 0), (fun _ => fun _ => 0)) rfl (show 0 ≤ ((1 : Int32)).toInt ∧ ((1 : Int32)).toInt ≤ 3 by decide) (hP.sub [] rfl) (hD.sub [] (by decide) rfl) hS (Nat.le_of_ble_eq_true rfl) (Nat.le_of_ble_eq_true rfl) dJ6_numberOfTrailingZeros_0f7a4_79
  · obtain rfl : p1 = 3 := Int32.toInt_inj.mp (hv.trans (by decide))
    refine lv_iload_n hx hb dJ6_numberOfTrailingZeros_0f7a4_0 rfl (lv_at hl 0 rfl) ?_
    refine lv_iconst (v := -1) hx hb dJ6_numberOfTrailingZeros_0f7a4_1 (by decide) ?_
    refine lv_ixor hx hb dJ6_numberOfTrailingZeros_0f7a4_2 ?_
    refine tp_i (v := -4) (by decide) ?_
    refine lv_iload_n hx hb dJ6_numberOfTrailingZeros_0f7a4_3 rfl (lv_at hl 0 rfl) ?_
    refine lv_iconst (v := 1) hx hb dJ6_numberOfTrailingZeros_0f7a4_4 (by decide) ?_
    refine lv_isub hx hb dJ6_numberOfTrailingZeros_0f7a4_5 ?_
    refine tp_i (v := 2) (by decide) ?_
    refine lv_iand hx hb dJ6_numberOfTrailingZeros_0f7a4_6 ?_
    refine tp_i (v := 0) (by decide) ?_
    refine lv_istore_n (lv' := [(0, .int 0)]) hx hb dJ6_numberOfTrailingZeros_0f7a4_7 rfl hl (by decide) rfl (fun ls hl => ?_)
    refine lv_iload_n hx hb dJ6_numberOfTrailingZeros_0f7a4_8 rfl (lv_at hl 0 rfl) ?_
    refine lv_if_gt (tgt := 17) hx hb dJ6_numberOfTrailingZeros_0f7a4_9 (by decide) (fun h => absurd h (by decide)) (fun _ => ?_)
    refine lv_iload_n hx hb dJ6_numberOfTrailingZeros_0f7a4_12 rfl (lv_at hl 0 rfl) ?_
    refine lv_bipush (v := 32) hx hb dJ6_numberOfTrailingZeros_0f7a4_13 (by decide) ?_
    refine lv_iand hx hb dJ6_numberOfTrailingZeros_0f7a4_15 ?_
    refine tp_i (v := 0) (by decide) ?_
    exact rt_i FX ((fun k => match k with | 0 => (0 : Int32) | _ => 0), (fun _ => fun _ => 0), (fun _ => fun _ => 0)) rfl (show 0 ≤ ((0 : Int32)).toInt ∧ ((0 : Int32)).toInt ≤ 3 by decide) (hP.sub [] rfl) (hD.sub [] (by decide) rfl) hS (Nat.le_of_ble_eq_true rfl) (Nat.le_of_ble_eq_true rfl) dJ6_numberOfTrailingZeros_0f7a4_16
  · obtain rfl : p1 = 4 := Int32.toInt_inj.mp (hv.trans (by decide))
    refine lv_iload_n hx hb dJ6_numberOfTrailingZeros_0f7a4_0 rfl (lv_at hl 0 rfl) ?_
    refine lv_iconst (v := -1) hx hb dJ6_numberOfTrailingZeros_0f7a4_1 (by decide) ?_
    refine lv_ixor hx hb dJ6_numberOfTrailingZeros_0f7a4_2 ?_
    refine tp_i (v := -5) (by decide) ?_
    refine lv_iload_n hx hb dJ6_numberOfTrailingZeros_0f7a4_3 rfl (lv_at hl 0 rfl) ?_
    refine lv_iconst (v := 1) hx hb dJ6_numberOfTrailingZeros_0f7a4_4 (by decide) ?_
    refine lv_isub hx hb dJ6_numberOfTrailingZeros_0f7a4_5 ?_
    refine tp_i (v := 3) (by decide) ?_
    refine lv_iand hx hb dJ6_numberOfTrailingZeros_0f7a4_6 ?_
    refine tp_i (v := 3) (by decide) ?_
    refine lv_istore_n (lv' := [(0, .int 3)]) hx hb dJ6_numberOfTrailingZeros_0f7a4_7 rfl hl (by decide) rfl (fun ls hl => ?_)
    refine lv_iload_n hx hb dJ6_numberOfTrailingZeros_0f7a4_8 rfl (lv_at hl 0 rfl) ?_
    refine lv_if_gt (tgt := 17) hx hb dJ6_numberOfTrailingZeros_0f7a4_9 (by decide) (fun _ => ?_) (fun h => absurd h (by decide))
    refine lv_iconst (v := 1) hx hb dJ6_numberOfTrailingZeros_0f7a4_17 (by decide) ?_
    refine lv_istore_n (lv' := [(1, .int 1), (0, .int 3)]) hx hb dJ6_numberOfTrailingZeros_0f7a4_18 rfl hl (by decide) rfl (fun ls hl => ?_)
    refine lv_iload_n hx hb dJ6_numberOfTrailingZeros_0f7a4_19 rfl (lv_at hl 1 rfl) ?_
    refine lv_ldcw hx hb hown (hB _ b_270) dJ6_numberOfTrailingZeros_0f7a4_20 ?_
    refine lv_icmp_le (tgt := 34) hx hb dJ6_numberOfTrailingZeros_0f7a4_23 (by decide) (fun _ => ?_) (fun h => absurd h (by decide))
    refine lv_iload_n hx hb dJ6_numberOfTrailingZeros_0f7a4_34 rfl (lv_at hl 1 rfl) ?_
    refine lv_sipush (v := 256) hx hb dJ6_numberOfTrailingZeros_0f7a4_35 (by decide) ?_
    refine lv_icmp_le (tgt := 49) hx hb dJ6_numberOfTrailingZeros_0f7a4_38 (by decide) (fun _ => ?_) (fun h => absurd h (by decide))
    refine lv_iload_n hx hb dJ6_numberOfTrailingZeros_0f7a4_49 rfl (lv_at hl 1 rfl) ?_
    refine lv_bipush (v := 16) hx hb dJ6_numberOfTrailingZeros_0f7a4_50 (by decide) ?_
    refine lv_icmp_le (tgt := 62) hx hb dJ6_numberOfTrailingZeros_0f7a4_52 (by decide) (fun _ => ?_) (fun h => absurd h (by decide))
    refine lv_iload_n hx hb dJ6_numberOfTrailingZeros_0f7a4_62 rfl (lv_at hl 1 rfl) ?_
    refine lv_iconst (v := 4) hx hb dJ6_numberOfTrailingZeros_0f7a4_63 (by decide) ?_
    refine lv_icmp_le (tgt := 74) hx hb dJ6_numberOfTrailingZeros_0f7a4_64 (by decide) (fun _ => ?_) (fun h => absurd h (by decide))
    refine lv_iload_n hx hb dJ6_numberOfTrailingZeros_0f7a4_74 rfl (lv_at hl 0 rfl) ?_
    refine lv_iload_n hx hb dJ6_numberOfTrailingZeros_0f7a4_75 rfl (lv_at hl 1 rfl) ?_
    refine lv_iconst (v := 1) hx hb dJ6_numberOfTrailingZeros_0f7a4_76 (by decide) ?_
    refine lv_iushr hx hb dJ6_numberOfTrailingZeros_0f7a4_77 rfl ?_
    refine tp_i (v := 1) (by decide) ?_
    refine lv_iadd hx hb dJ6_numberOfTrailingZeros_0f7a4_78 ?_
    refine tp_i (v := 2) (by decide) ?_
    exact rt_i FX ((fun k => match k with | 0 => (2 : Int32) | _ => 0), (fun _ => fun _ => 0), (fun _ => fun _ => 0)) rfl (show 0 ≤ ((2 : Int32)).toInt ∧ ((2 : Int32)).toInt ≤ 3 by decide) (hP.sub [] rfl) (hD.sub [] (by decide) rfl) hS (Nat.le_of_ble_eq_true rfl) (Nat.le_of_ble_eq_true rfl) dJ6_numberOfTrailingZeros_0f7a4_79
  · obtain rfl : p1 = 5 := Int32.toInt_inj.mp (hv.trans (by decide))
    refine lv_iload_n hx hb dJ6_numberOfTrailingZeros_0f7a4_0 rfl (lv_at hl 0 rfl) ?_
    refine lv_iconst (v := -1) hx hb dJ6_numberOfTrailingZeros_0f7a4_1 (by decide) ?_
    refine lv_ixor hx hb dJ6_numberOfTrailingZeros_0f7a4_2 ?_
    refine tp_i (v := -6) (by decide) ?_
    refine lv_iload_n hx hb dJ6_numberOfTrailingZeros_0f7a4_3 rfl (lv_at hl 0 rfl) ?_
    refine lv_iconst (v := 1) hx hb dJ6_numberOfTrailingZeros_0f7a4_4 (by decide) ?_
    refine lv_isub hx hb dJ6_numberOfTrailingZeros_0f7a4_5 ?_
    refine tp_i (v := 4) (by decide) ?_
    refine lv_iand hx hb dJ6_numberOfTrailingZeros_0f7a4_6 ?_
    refine tp_i (v := 0) (by decide) ?_
    refine lv_istore_n (lv' := [(0, .int 0)]) hx hb dJ6_numberOfTrailingZeros_0f7a4_7 rfl hl (by decide) rfl (fun ls hl => ?_)
    refine lv_iload_n hx hb dJ6_numberOfTrailingZeros_0f7a4_8 rfl (lv_at hl 0 rfl) ?_
    refine lv_if_gt (tgt := 17) hx hb dJ6_numberOfTrailingZeros_0f7a4_9 (by decide) (fun h => absurd h (by decide)) (fun _ => ?_)
    refine lv_iload_n hx hb dJ6_numberOfTrailingZeros_0f7a4_12 rfl (lv_at hl 0 rfl) ?_
    refine lv_bipush (v := 32) hx hb dJ6_numberOfTrailingZeros_0f7a4_13 (by decide) ?_
    refine lv_iand hx hb dJ6_numberOfTrailingZeros_0f7a4_15 ?_
    refine tp_i (v := 0) (by decide) ?_
    exact rt_i FX ((fun k => match k with | 0 => (0 : Int32) | _ => 0), (fun _ => fun _ => 0), (fun _ => fun _ => 0)) rfl (show 0 ≤ ((0 : Int32)).toInt ∧ ((0 : Int32)).toInt ≤ 3 by decide) (hP.sub [] rfl) (hD.sub [] (by decide) rfl) hS (Nat.le_of_ble_eq_true rfl) (Nat.le_of_ble_eq_true rfl) dJ6_numberOfTrailingZeros_0f7a4_16
  · obtain rfl : p1 = 6 := Int32.toInt_inj.mp (hv.trans (by decide))
    refine lv_iload_n hx hb dJ6_numberOfTrailingZeros_0f7a4_0 rfl (lv_at hl 0 rfl) ?_
    refine lv_iconst (v := -1) hx hb dJ6_numberOfTrailingZeros_0f7a4_1 (by decide) ?_
    refine lv_ixor hx hb dJ6_numberOfTrailingZeros_0f7a4_2 ?_
    refine tp_i (v := -7) (by decide) ?_
    refine lv_iload_n hx hb dJ6_numberOfTrailingZeros_0f7a4_3 rfl (lv_at hl 0 rfl) ?_
    refine lv_iconst (v := 1) hx hb dJ6_numberOfTrailingZeros_0f7a4_4 (by decide) ?_
    refine lv_isub hx hb dJ6_numberOfTrailingZeros_0f7a4_5 ?_
    refine tp_i (v := 5) (by decide) ?_
    refine lv_iand hx hb dJ6_numberOfTrailingZeros_0f7a4_6 ?_
    refine tp_i (v := 1) (by decide) ?_
    refine lv_istore_n (lv' := [(0, .int 1)]) hx hb dJ6_numberOfTrailingZeros_0f7a4_7 rfl hl (by decide) rfl (fun ls hl => ?_)
    refine lv_iload_n hx hb dJ6_numberOfTrailingZeros_0f7a4_8 rfl (lv_at hl 0 rfl) ?_
    refine lv_if_gt (tgt := 17) hx hb dJ6_numberOfTrailingZeros_0f7a4_9 (by decide) (fun _ => ?_) (fun h => absurd h (by decide))
    refine lv_iconst (v := 1) hx hb dJ6_numberOfTrailingZeros_0f7a4_17 (by decide) ?_
    refine lv_istore_n (lv' := [(1, .int 1), (0, .int 1)]) hx hb dJ6_numberOfTrailingZeros_0f7a4_18 rfl hl (by decide) rfl (fun ls hl => ?_)
    refine lv_iload_n hx hb dJ6_numberOfTrailingZeros_0f7a4_19 rfl (lv_at hl 1 rfl) ?_
    refine lv_ldcw hx hb hown (hB _ b_270) dJ6_numberOfTrailingZeros_0f7a4_20 ?_
    refine lv_icmp_le (tgt := 34) hx hb dJ6_numberOfTrailingZeros_0f7a4_23 (by decide) (fun _ => ?_) (fun h => absurd h (by decide))
    refine lv_iload_n hx hb dJ6_numberOfTrailingZeros_0f7a4_34 rfl (lv_at hl 1 rfl) ?_
    refine lv_sipush (v := 256) hx hb dJ6_numberOfTrailingZeros_0f7a4_35 (by decide) ?_
    refine lv_icmp_le (tgt := 49) hx hb dJ6_numberOfTrailingZeros_0f7a4_38 (by decide) (fun _ => ?_) (fun h => absurd h (by decide))
    refine lv_iload_n hx hb dJ6_numberOfTrailingZeros_0f7a4_49 rfl (lv_at hl 1 rfl) ?_
    refine lv_bipush (v := 16) hx hb dJ6_numberOfTrailingZeros_0f7a4_50 (by decide) ?_
    refine lv_icmp_le (tgt := 62) hx hb dJ6_numberOfTrailingZeros_0f7a4_52 (by decide) (fun _ => ?_) (fun h => absurd h (by decide))
    refine lv_iload_n hx hb dJ6_numberOfTrailingZeros_0f7a4_62 rfl (lv_at hl 1 rfl) ?_
    refine lv_iconst (v := 4) hx hb dJ6_numberOfTrailingZeros_0f7a4_63 (by decide) ?_
    refine lv_icmp_le (tgt := 74) hx hb dJ6_numberOfTrailingZeros_0f7a4_64 (by decide) (fun _ => ?_) (fun h => absurd h (by decide))
    refine lv_iload_n hx hb dJ6_numberOfTrailingZeros_0f7a4_74 rfl (lv_at hl 0 rfl) ?_
    refine lv_iload_n hx hb dJ6_numberOfTrailingZeros_0f7a4_75 rfl (lv_at hl 1 rfl) ?_
    refine lv_iconst (v := 1) hx hb dJ6_numberOfTrailingZeros_0f7a4_76 (by decide) ?_
    refine lv_iushr hx hb dJ6_numberOfTrailingZeros_0f7a4_77 rfl ?_
    refine tp_i (v := 0) (by decide) ?_
    refine lv_iadd hx hb dJ6_numberOfTrailingZeros_0f7a4_78 ?_
    refine tp_i (v := 1) (by decide) ?_
    exact rt_i FX ((fun k => match k with | 0 => (1 : Int32) | _ => 0), (fun _ => fun _ => 0), (fun _ => fun _ => 0)) rfl (show 0 ≤ ((1 : Int32)).toInt ∧ ((1 : Int32)).toInt ≤ 3 by decide) (hP.sub [] rfl) (hD.sub [] (by decide) rfl) hS (Nat.le_of_ble_eq_true rfl) (Nat.le_of_ble_eq_true rfl) dJ6_numberOfTrailingZeros_0f7a4_79
  · obtain rfl : p1 = 7 := Int32.toInt_inj.mp (hv.trans (by decide))
    refine lv_iload_n hx hb dJ6_numberOfTrailingZeros_0f7a4_0 rfl (lv_at hl 0 rfl) ?_
    refine lv_iconst (v := -1) hx hb dJ6_numberOfTrailingZeros_0f7a4_1 (by decide) ?_
    refine lv_ixor hx hb dJ6_numberOfTrailingZeros_0f7a4_2 ?_
    refine tp_i (v := -8) (by decide) ?_
    refine lv_iload_n hx hb dJ6_numberOfTrailingZeros_0f7a4_3 rfl (lv_at hl 0 rfl) ?_
    refine lv_iconst (v := 1) hx hb dJ6_numberOfTrailingZeros_0f7a4_4 (by decide) ?_
    refine lv_isub hx hb dJ6_numberOfTrailingZeros_0f7a4_5 ?_
    refine tp_i (v := 6) (by decide) ?_
    refine lv_iand hx hb dJ6_numberOfTrailingZeros_0f7a4_6 ?_
    refine tp_i (v := 0) (by decide) ?_
    refine lv_istore_n (lv' := [(0, .int 0)]) hx hb dJ6_numberOfTrailingZeros_0f7a4_7 rfl hl (by decide) rfl (fun ls hl => ?_)
    refine lv_iload_n hx hb dJ6_numberOfTrailingZeros_0f7a4_8 rfl (lv_at hl 0 rfl) ?_
    refine lv_if_gt (tgt := 17) hx hb dJ6_numberOfTrailingZeros_0f7a4_9 (by decide) (fun h => absurd h (by decide)) (fun _ => ?_)
    refine lv_iload_n hx hb dJ6_numberOfTrailingZeros_0f7a4_12 rfl (lv_at hl 0 rfl) ?_
    refine lv_bipush (v := 32) hx hb dJ6_numberOfTrailingZeros_0f7a4_13 (by decide) ?_
    refine lv_iand hx hb dJ6_numberOfTrailingZeros_0f7a4_15 ?_
    refine tp_i (v := 0) (by decide) ?_
    exact rt_i FX ((fun k => match k with | 0 => (0 : Int32) | _ => 0), (fun _ => fun _ => 0), (fun _ => fun _ => 0)) rfl (show 0 ≤ ((0 : Int32)).toInt ∧ ((0 : Int32)).toInt ≤ 3 by decide) (hP.sub [] rfl) (hD.sub [] (by decide) rfl) hS (Nat.le_of_ble_eq_true rfl) (Nat.le_of_ble_eq_true rfl) dJ6_numberOfTrailingZeros_0f7a4_16
  · obtain rfl : p1 = 8 := Int32.toInt_inj.mp (hv.trans (by decide))
    refine lv_iload_n hx hb dJ6_numberOfTrailingZeros_0f7a4_0 rfl (lv_at hl 0 rfl) ?_
    refine lv_iconst (v := -1) hx hb dJ6_numberOfTrailingZeros_0f7a4_1 (by decide) ?_
    refine lv_ixor hx hb dJ6_numberOfTrailingZeros_0f7a4_2 ?_
    refine tp_i (v := -9) (by decide) ?_
    refine lv_iload_n hx hb dJ6_numberOfTrailingZeros_0f7a4_3 rfl (lv_at hl 0 rfl) ?_
    refine lv_iconst (v := 1) hx hb dJ6_numberOfTrailingZeros_0f7a4_4 (by decide) ?_
    refine lv_isub hx hb dJ6_numberOfTrailingZeros_0f7a4_5 ?_
    refine tp_i (v := 7) (by decide) ?_
    refine lv_iand hx hb dJ6_numberOfTrailingZeros_0f7a4_6 ?_
    refine tp_i (v := 7) (by decide) ?_
    refine lv_istore_n (lv' := [(0, .int 7)]) hx hb dJ6_numberOfTrailingZeros_0f7a4_7 rfl hl (by decide) rfl (fun ls hl => ?_)
    refine lv_iload_n hx hb dJ6_numberOfTrailingZeros_0f7a4_8 rfl (lv_at hl 0 rfl) ?_
    refine lv_if_gt (tgt := 17) hx hb dJ6_numberOfTrailingZeros_0f7a4_9 (by decide) (fun _ => ?_) (fun h => absurd h (by decide))
    refine lv_iconst (v := 1) hx hb dJ6_numberOfTrailingZeros_0f7a4_17 (by decide) ?_
    refine lv_istore_n (lv' := [(1, .int 1), (0, .int 7)]) hx hb dJ6_numberOfTrailingZeros_0f7a4_18 rfl hl (by decide) rfl (fun ls hl => ?_)
    refine lv_iload_n hx hb dJ6_numberOfTrailingZeros_0f7a4_19 rfl (lv_at hl 1 rfl) ?_
    refine lv_ldcw hx hb hown (hB _ b_270) dJ6_numberOfTrailingZeros_0f7a4_20 ?_
    refine lv_icmp_le (tgt := 34) hx hb dJ6_numberOfTrailingZeros_0f7a4_23 (by decide) (fun _ => ?_) (fun h => absurd h (by decide))
    refine lv_iload_n hx hb dJ6_numberOfTrailingZeros_0f7a4_34 rfl (lv_at hl 1 rfl) ?_
    refine lv_sipush (v := 256) hx hb dJ6_numberOfTrailingZeros_0f7a4_35 (by decide) ?_
    refine lv_icmp_le (tgt := 49) hx hb dJ6_numberOfTrailingZeros_0f7a4_38 (by decide) (fun _ => ?_) (fun h => absurd h (by decide))
    refine lv_iload_n hx hb dJ6_numberOfTrailingZeros_0f7a4_49 rfl (lv_at hl 1 rfl) ?_
    refine lv_bipush (v := 16) hx hb dJ6_numberOfTrailingZeros_0f7a4_50 (by decide) ?_
    refine lv_icmp_le (tgt := 62) hx hb dJ6_numberOfTrailingZeros_0f7a4_52 (by decide) (fun _ => ?_) (fun h => absurd h (by decide))
    refine lv_iload_n hx hb dJ6_numberOfTrailingZeros_0f7a4_62 rfl (lv_at hl 1 rfl) ?_
    refine lv_iconst (v := 4) hx hb dJ6_numberOfTrailingZeros_0f7a4_63 (by decide) ?_
    refine lv_icmp_le (tgt := 74) hx hb dJ6_numberOfTrailingZeros_0f7a4_64 (by decide) (fun h => absurd h (by decide)) (fun _ => ?_)
    refine lv_iinc (v := 3) (lv' := [(1, .int 3), (0, .int 7)]) hx hb dJ6_numberOfTrailingZeros_0f7a4_67 hl (k := 0) rfl (by decide) (by decide) rfl (fun ls hl => ?_)
    refine lv_iload_n hx hb dJ6_numberOfTrailingZeros_0f7a4_70 rfl (lv_at hl 1 rfl) ?_
    refine lv_iconst (v := 2) hx hb dJ6_numberOfTrailingZeros_0f7a4_71 (by decide) ?_
    refine lv_iushr hx hb dJ6_numberOfTrailingZeros_0f7a4_72 rfl ?_
    refine tp_i (v := 1) (by decide) ?_
    refine lv_istore_n (lv' := [(0, .int 1), (1, .int 3)]) hx hb dJ6_numberOfTrailingZeros_0f7a4_73 rfl hl (by decide) rfl (fun ls hl => ?_)
    refine lv_iload_n hx hb dJ6_numberOfTrailingZeros_0f7a4_74 rfl (lv_at hl 1 rfl) ?_
    refine lv_iload_n hx hb dJ6_numberOfTrailingZeros_0f7a4_75 rfl (lv_at hl 0 rfl) ?_
    refine lv_iconst (v := 1) hx hb dJ6_numberOfTrailingZeros_0f7a4_76 (by decide) ?_
    refine lv_iushr hx hb dJ6_numberOfTrailingZeros_0f7a4_77 rfl ?_
    refine tp_i (v := 0) (by decide) ?_
    refine lv_iadd hx hb dJ6_numberOfTrailingZeros_0f7a4_78 ?_
    refine tp_i (v := 3) (by decide) ?_
    exact rt_i FX ((fun k => match k with | 0 => (3 : Int32) | _ => 0), (fun _ => fun _ => 0), (fun _ => fun _ => 0)) rfl (show 0 ≤ ((3 : Int32)).toInt ∧ ((3 : Int32)).toInt ≤ 3 by decide) (hP.sub [] rfl) (hD.sub [] (by decide) rfl) hS (Nat.le_of_ble_eq_true rfl) (Nat.le_of_ble_eq_true rfl) dJ6_numberOfTrailingZeros_0f7a4_79
  · obtain rfl : p1 = 9 := Int32.toInt_inj.mp (hv.trans (by decide))
    refine lv_iload_n hx hb dJ6_numberOfTrailingZeros_0f7a4_0 rfl (lv_at hl 0 rfl) ?_
    refine lv_iconst (v := -1) hx hb dJ6_numberOfTrailingZeros_0f7a4_1 (by decide) ?_
    refine lv_ixor hx hb dJ6_numberOfTrailingZeros_0f7a4_2 ?_
    refine tp_i (v := -10) (by decide) ?_
    refine lv_iload_n hx hb dJ6_numberOfTrailingZeros_0f7a4_3 rfl (lv_at hl 0 rfl) ?_
    refine lv_iconst (v := 1) hx hb dJ6_numberOfTrailingZeros_0f7a4_4 (by decide) ?_
    refine lv_isub hx hb dJ6_numberOfTrailingZeros_0f7a4_5 ?_
    refine tp_i (v := 8) (by decide) ?_
    refine lv_iand hx hb dJ6_numberOfTrailingZeros_0f7a4_6 ?_
    refine tp_i (v := 0) (by decide) ?_
    refine lv_istore_n (lv' := [(0, .int 0)]) hx hb dJ6_numberOfTrailingZeros_0f7a4_7 rfl hl (by decide) rfl (fun ls hl => ?_)
    refine lv_iload_n hx hb dJ6_numberOfTrailingZeros_0f7a4_8 rfl (lv_at hl 0 rfl) ?_
    refine lv_if_gt (tgt := 17) hx hb dJ6_numberOfTrailingZeros_0f7a4_9 (by decide) (fun h => absurd h (by decide)) (fun _ => ?_)
    refine lv_iload_n hx hb dJ6_numberOfTrailingZeros_0f7a4_12 rfl (lv_at hl 0 rfl) ?_
    refine lv_bipush (v := 32) hx hb dJ6_numberOfTrailingZeros_0f7a4_13 (by decide) ?_
    refine lv_iand hx hb dJ6_numberOfTrailingZeros_0f7a4_15 ?_
    refine tp_i (v := 0) (by decide) ?_
    exact rt_i FX ((fun k => match k with | 0 => (0 : Int32) | _ => 0), (fun _ => fun _ => 0), (fun _ => fun _ => 0)) rfl (show 0 ≤ ((0 : Int32)).toInt ∧ ((0 : Int32)).toInt ≤ 3 by decide) (hP.sub [] rfl) (hD.sub [] (by decide) rfl) hS (Nat.le_of_ble_eq_true rfl) (Nat.le_of_ble_eq_true rfl) dJ6_numberOfTrailingZeros_0f7a4_16
  · obtain rfl : p1 = 10 := Int32.toInt_inj.mp (hv.trans (by decide))
    refine lv_iload_n hx hb dJ6_numberOfTrailingZeros_0f7a4_0 rfl (lv_at hl 0 rfl) ?_
    refine lv_iconst (v := -1) hx hb dJ6_numberOfTrailingZeros_0f7a4_1 (by decide) ?_
    refine lv_ixor hx hb dJ6_numberOfTrailingZeros_0f7a4_2 ?_
    refine tp_i (v := -11) (by decide) ?_
    refine lv_iload_n hx hb dJ6_numberOfTrailingZeros_0f7a4_3 rfl (lv_at hl 0 rfl) ?_
    refine lv_iconst (v := 1) hx hb dJ6_numberOfTrailingZeros_0f7a4_4 (by decide) ?_
    refine lv_isub hx hb dJ6_numberOfTrailingZeros_0f7a4_5 ?_
    refine tp_i (v := 9) (by decide) ?_
    refine lv_iand hx hb dJ6_numberOfTrailingZeros_0f7a4_6 ?_
    refine tp_i (v := 1) (by decide) ?_
    refine lv_istore_n (lv' := [(0, .int 1)]) hx hb dJ6_numberOfTrailingZeros_0f7a4_7 rfl hl (by decide) rfl (fun ls hl => ?_)
    refine lv_iload_n hx hb dJ6_numberOfTrailingZeros_0f7a4_8 rfl (lv_at hl 0 rfl) ?_
    refine lv_if_gt (tgt := 17) hx hb dJ6_numberOfTrailingZeros_0f7a4_9 (by decide) (fun _ => ?_) (fun h => absurd h (by decide))
    refine lv_iconst (v := 1) hx hb dJ6_numberOfTrailingZeros_0f7a4_17 (by decide) ?_
    refine lv_istore_n (lv' := [(1, .int 1), (0, .int 1)]) hx hb dJ6_numberOfTrailingZeros_0f7a4_18 rfl hl (by decide) rfl (fun ls hl => ?_)
    refine lv_iload_n hx hb dJ6_numberOfTrailingZeros_0f7a4_19 rfl (lv_at hl 1 rfl) ?_
    refine lv_ldcw hx hb hown (hB _ b_270) dJ6_numberOfTrailingZeros_0f7a4_20 ?_
    refine lv_icmp_le (tgt := 34) hx hb dJ6_numberOfTrailingZeros_0f7a4_23 (by decide) (fun _ => ?_) (fun h => absurd h (by decide))
    refine lv_iload_n hx hb dJ6_numberOfTrailingZeros_0f7a4_34 rfl (lv_at hl 1 rfl) ?_
    refine lv_sipush (v := 256) hx hb dJ6_numberOfTrailingZeros_0f7a4_35 (by decide) ?_
    refine lv_icmp_le (tgt := 49) hx hb dJ6_numberOfTrailingZeros_0f7a4_38 (by decide) (fun _ => ?_) (fun h => absurd h (by decide))
    refine lv_iload_n hx hb dJ6_numberOfTrailingZeros_0f7a4_49 rfl (lv_at hl 1 rfl) ?_
    refine lv_bipush (v := 16) hx hb dJ6_numberOfTrailingZeros_0f7a4_50 (by decide) ?_
    refine lv_icmp_le (tgt := 62) hx hb dJ6_numberOfTrailingZeros_0f7a4_52 (by decide) (fun _ => ?_) (fun h => absurd h (by decide))
    refine lv_iload_n hx hb dJ6_numberOfTrailingZeros_0f7a4_62 rfl (lv_at hl 1 rfl) ?_
    refine lv_iconst (v := 4) hx hb dJ6_numberOfTrailingZeros_0f7a4_63 (by decide) ?_
    refine lv_icmp_le (tgt := 74) hx hb dJ6_numberOfTrailingZeros_0f7a4_64 (by decide) (fun _ => ?_) (fun h => absurd h (by decide))
    refine lv_iload_n hx hb dJ6_numberOfTrailingZeros_0f7a4_74 rfl (lv_at hl 0 rfl) ?_
    refine lv_iload_n hx hb dJ6_numberOfTrailingZeros_0f7a4_75 rfl (lv_at hl 1 rfl) ?_
    refine lv_iconst (v := 1) hx hb dJ6_numberOfTrailingZeros_0f7a4_76 (by decide) ?_
    refine lv_iushr hx hb dJ6_numberOfTrailingZeros_0f7a4_77 rfl ?_
    refine tp_i (v := 0) (by decide) ?_
    refine lv_iadd hx hb dJ6_numberOfTrailingZeros_0f7a4_78 ?_
    refine tp_i (v := 1) (by decide) ?_
    exact rt_i FX ((fun k => match k with | 0 => (1 : Int32) | _ => 0), (fun _ => fun _ => 0), (fun _ => fun _ => 0)) rfl (show 0 ≤ ((1 : Int32)).toInt ∧ ((1 : Int32)).toInt ≤ 3 by decide) (hP.sub [] rfl) (hD.sub [] (by decide) rfl) hS (Nat.le_of_ble_eq_true rfl) (Nat.le_of_ble_eq_true rfl) dJ6_numberOfTrailingZeros_0f7a4_79
  · obtain rfl : p1 = 11 := Int32.toInt_inj.mp (hv.trans (by decide))
    refine lv_iload_n hx hb dJ6_numberOfTrailingZeros_0f7a4_0 rfl (lv_at hl 0 rfl) ?_
    refine lv_iconst (v := -1) hx hb dJ6_numberOfTrailingZeros_0f7a4_1 (by decide) ?_
    refine lv_ixor hx hb dJ6_numberOfTrailingZeros_0f7a4_2 ?_
    refine tp_i (v := -12) (by decide) ?_
    refine lv_iload_n hx hb dJ6_numberOfTrailingZeros_0f7a4_3 rfl (lv_at hl 0 rfl) ?_
    refine lv_iconst (v := 1) hx hb dJ6_numberOfTrailingZeros_0f7a4_4 (by decide) ?_
    refine lv_isub hx hb dJ6_numberOfTrailingZeros_0f7a4_5 ?_
    refine tp_i (v := 10) (by decide) ?_
    refine lv_iand hx hb dJ6_numberOfTrailingZeros_0f7a4_6 ?_
    refine tp_i (v := 0) (by decide) ?_
    refine lv_istore_n (lv' := [(0, .int 0)]) hx hb dJ6_numberOfTrailingZeros_0f7a4_7 rfl hl (by decide) rfl (fun ls hl => ?_)
    refine lv_iload_n hx hb dJ6_numberOfTrailingZeros_0f7a4_8 rfl (lv_at hl 0 rfl) ?_
    refine lv_if_gt (tgt := 17) hx hb dJ6_numberOfTrailingZeros_0f7a4_9 (by decide) (fun h => absurd h (by decide)) (fun _ => ?_)
    refine lv_iload_n hx hb dJ6_numberOfTrailingZeros_0f7a4_12 rfl (lv_at hl 0 rfl) ?_
    refine lv_bipush (v := 32) hx hb dJ6_numberOfTrailingZeros_0f7a4_13 (by decide) ?_
    refine lv_iand hx hb dJ6_numberOfTrailingZeros_0f7a4_15 ?_
    refine tp_i (v := 0) (by decide) ?_
    exact rt_i FX ((fun k => match k with | 0 => (0 : Int32) | _ => 0), (fun _ => fun _ => 0), (fun _ => fun _ => 0)) rfl (show 0 ≤ ((0 : Int32)).toInt ∧ ((0 : Int32)).toInt ≤ 3 by decide) (hP.sub [] rfl) (hD.sub [] (by decide) rfl) hS (Nat.le_of_ble_eq_true rfl) (Nat.le_of_ble_eq_true rfl) dJ6_numberOfTrailingZeros_0f7a4_16
  · obtain rfl : p1 = 12 := Int32.toInt_inj.mp (hv.trans (by decide))
    refine lv_iload_n hx hb dJ6_numberOfTrailingZeros_0f7a4_0 rfl (lv_at hl 0 rfl) ?_
    refine lv_iconst (v := -1) hx hb dJ6_numberOfTrailingZeros_0f7a4_1 (by decide) ?_
    refine lv_ixor hx hb dJ6_numberOfTrailingZeros_0f7a4_2 ?_
    refine tp_i (v := -13) (by decide) ?_
    refine lv_iload_n hx hb dJ6_numberOfTrailingZeros_0f7a4_3 rfl (lv_at hl 0 rfl) ?_
    refine lv_iconst (v := 1) hx hb dJ6_numberOfTrailingZeros_0f7a4_4 (by decide) ?_
    refine lv_isub hx hb dJ6_numberOfTrailingZeros_0f7a4_5 ?_
    refine tp_i (v := 11) (by decide) ?_
    refine lv_iand hx hb dJ6_numberOfTrailingZeros_0f7a4_6 ?_
    refine tp_i (v := 3) (by decide) ?_
    refine lv_istore_n (lv' := [(0, .int 3)]) hx hb dJ6_numberOfTrailingZeros_0f7a4_7 rfl hl (by decide) rfl (fun ls hl => ?_)
    refine lv_iload_n hx hb dJ6_numberOfTrailingZeros_0f7a4_8 rfl (lv_at hl 0 rfl) ?_
    refine lv_if_gt (tgt := 17) hx hb dJ6_numberOfTrailingZeros_0f7a4_9 (by decide) (fun _ => ?_) (fun h => absurd h (by decide))
    refine lv_iconst (v := 1) hx hb dJ6_numberOfTrailingZeros_0f7a4_17 (by decide) ?_
    refine lv_istore_n (lv' := [(1, .int 1), (0, .int 3)]) hx hb dJ6_numberOfTrailingZeros_0f7a4_18 rfl hl (by decide) rfl (fun ls hl => ?_)
    refine lv_iload_n hx hb dJ6_numberOfTrailingZeros_0f7a4_19 rfl (lv_at hl 1 rfl) ?_
    refine lv_ldcw hx hb hown (hB _ b_270) dJ6_numberOfTrailingZeros_0f7a4_20 ?_
    refine lv_icmp_le (tgt := 34) hx hb dJ6_numberOfTrailingZeros_0f7a4_23 (by decide) (fun _ => ?_) (fun h => absurd h (by decide))
    refine lv_iload_n hx hb dJ6_numberOfTrailingZeros_0f7a4_34 rfl (lv_at hl 1 rfl) ?_
    refine lv_sipush (v := 256) hx hb dJ6_numberOfTrailingZeros_0f7a4_35 (by decide) ?_
    refine lv_icmp_le (tgt := 49) hx hb dJ6_numberOfTrailingZeros_0f7a4_38 (by decide) (fun _ => ?_) (fun h => absurd h (by decide))
    refine lv_iload_n hx hb dJ6_numberOfTrailingZeros_0f7a4_49 rfl (lv_at hl 1 rfl) ?_
    refine lv_bipush (v := 16) hx hb dJ6_numberOfTrailingZeros_0f7a4_50 (by decide) ?_
    refine lv_icmp_le (tgt := 62) hx hb dJ6_numberOfTrailingZeros_0f7a4_52 (by decide) (fun _ => ?_) (fun h => absurd h (by decide))
    refine lv_iload_n hx hb dJ6_numberOfTrailingZeros_0f7a4_62 rfl (lv_at hl 1 rfl) ?_
    refine lv_iconst (v := 4) hx hb dJ6_numberOfTrailingZeros_0f7a4_63 (by decide) ?_
    refine lv_icmp_le (tgt := 74) hx hb dJ6_numberOfTrailingZeros_0f7a4_64 (by decide) (fun _ => ?_) (fun h => absurd h (by decide))
    refine lv_iload_n hx hb dJ6_numberOfTrailingZeros_0f7a4_74 rfl (lv_at hl 0 rfl) ?_
    refine lv_iload_n hx hb dJ6_numberOfTrailingZeros_0f7a4_75 rfl (lv_at hl 1 rfl) ?_
    refine lv_iconst (v := 1) hx hb dJ6_numberOfTrailingZeros_0f7a4_76 (by decide) ?_
    refine lv_iushr hx hb dJ6_numberOfTrailingZeros_0f7a4_77 rfl ?_
    refine tp_i (v := 1) (by decide) ?_
    refine lv_iadd hx hb dJ6_numberOfTrailingZeros_0f7a4_78 ?_
    refine tp_i (v := 2) (by decide) ?_
    exact rt_i FX ((fun k => match k with | 0 => (2 : Int32) | _ => 0), (fun _ => fun _ => 0), (fun _ => fun _ => 0)) rfl (show 0 ≤ ((2 : Int32)).toInt ∧ ((2 : Int32)).toInt ≤ 3 by decide) (hP.sub [] rfl) (hD.sub [] (by decide) rfl) hS (Nat.le_of_ble_eq_true rfl) (Nat.le_of_ble_eq_true rfl) dJ6_numberOfTrailingZeros_0f7a4_79
  · obtain rfl : p1 = 13 := Int32.toInt_inj.mp (hv.trans (by decide))
    refine lv_iload_n hx hb dJ6_numberOfTrailingZeros_0f7a4_0 rfl (lv_at hl 0 rfl) ?_
    refine lv_iconst (v := -1) hx hb dJ6_numberOfTrailingZeros_0f7a4_1 (by decide) ?_
    refine lv_ixor hx hb dJ6_numberOfTrailingZeros_0f7a4_2 ?_
    refine tp_i (v := -14) (by decide) ?_
    refine lv_iload_n hx hb dJ6_numberOfTrailingZeros_0f7a4_3 rfl (lv_at hl 0 rfl) ?_
    refine lv_iconst (v := 1) hx hb dJ6_numberOfTrailingZeros_0f7a4_4 (by decide) ?_
    refine lv_isub hx hb dJ6_numberOfTrailingZeros_0f7a4_5 ?_
    refine tp_i (v := 12) (by decide) ?_
    refine lv_iand hx hb dJ6_numberOfTrailingZeros_0f7a4_6 ?_
    refine tp_i (v := 0) (by decide) ?_
    refine lv_istore_n (lv' := [(0, .int 0)]) hx hb dJ6_numberOfTrailingZeros_0f7a4_7 rfl hl (by decide) rfl (fun ls hl => ?_)
    refine lv_iload_n hx hb dJ6_numberOfTrailingZeros_0f7a4_8 rfl (lv_at hl 0 rfl) ?_
    refine lv_if_gt (tgt := 17) hx hb dJ6_numberOfTrailingZeros_0f7a4_9 (by decide) (fun h => absurd h (by decide)) (fun _ => ?_)
    refine lv_iload_n hx hb dJ6_numberOfTrailingZeros_0f7a4_12 rfl (lv_at hl 0 rfl) ?_
    refine lv_bipush (v := 32) hx hb dJ6_numberOfTrailingZeros_0f7a4_13 (by decide) ?_
    refine lv_iand hx hb dJ6_numberOfTrailingZeros_0f7a4_15 ?_
    refine tp_i (v := 0) (by decide) ?_
    exact rt_i FX ((fun k => match k with | 0 => (0 : Int32) | _ => 0), (fun _ => fun _ => 0), (fun _ => fun _ => 0)) rfl (show 0 ≤ ((0 : Int32)).toInt ∧ ((0 : Int32)).toInt ≤ 3 by decide) (hP.sub [] rfl) (hD.sub [] (by decide) rfl) hS (Nat.le_of_ble_eq_true rfl) (Nat.le_of_ble_eq_true rfl) dJ6_numberOfTrailingZeros_0f7a4_16
  · obtain rfl : p1 = 14 := Int32.toInt_inj.mp (hv.trans (by decide))
    refine lv_iload_n hx hb dJ6_numberOfTrailingZeros_0f7a4_0 rfl (lv_at hl 0 rfl) ?_
    refine lv_iconst (v := -1) hx hb dJ6_numberOfTrailingZeros_0f7a4_1 (by decide) ?_
    refine lv_ixor hx hb dJ6_numberOfTrailingZeros_0f7a4_2 ?_
    refine tp_i (v := -15) (by decide) ?_
    refine lv_iload_n hx hb dJ6_numberOfTrailingZeros_0f7a4_3 rfl (lv_at hl 0 rfl) ?_
    refine lv_iconst (v := 1) hx hb dJ6_numberOfTrailingZeros_0f7a4_4 (by decide) ?_
    refine lv_isub hx hb dJ6_numberOfTrailingZeros_0f7a4_5 ?_
    refine tp_i (v := 13) (by decide) ?_
    refine lv_iand hx hb dJ6_numberOfTrailingZeros_0f7a4_6 ?_
    refine tp_i (v := 1) (by decide) ?_
    refine lv_istore_n (lv' := [(0, .int 1)]) hx hb dJ6_numberOfTrailingZeros_0f7a4_7 rfl hl (by decide) rfl (fun ls hl => ?_)
    refine lv_iload_n hx hb dJ6_numberOfTrailingZeros_0f7a4_8 rfl (lv_at hl 0 rfl) ?_
    refine lv_if_gt (tgt := 17) hx hb dJ6_numberOfTrailingZeros_0f7a4_9 (by decide) (fun _ => ?_) (fun h => absurd h (by decide))
    refine lv_iconst (v := 1) hx hb dJ6_numberOfTrailingZeros_0f7a4_17 (by decide) ?_
    refine lv_istore_n (lv' := [(1, .int 1), (0, .int 1)]) hx hb dJ6_numberOfTrailingZeros_0f7a4_18 rfl hl (by decide) rfl (fun ls hl => ?_)
    refine lv_iload_n hx hb dJ6_numberOfTrailingZeros_0f7a4_19 rfl (lv_at hl 1 rfl) ?_
    refine lv_ldcw hx hb hown (hB _ b_270) dJ6_numberOfTrailingZeros_0f7a4_20 ?_
    refine lv_icmp_le (tgt := 34) hx hb dJ6_numberOfTrailingZeros_0f7a4_23 (by decide) (fun _ => ?_) (fun h => absurd h (by decide))
    refine lv_iload_n hx hb dJ6_numberOfTrailingZeros_0f7a4_34 rfl (lv_at hl 1 rfl) ?_
    refine lv_sipush (v := 256) hx hb dJ6_numberOfTrailingZeros_0f7a4_35 (by decide) ?_
    refine lv_icmp_le (tgt := 49) hx hb dJ6_numberOfTrailingZeros_0f7a4_38 (by decide) (fun _ => ?_) (fun h => absurd h (by decide))
    refine lv_iload_n hx hb dJ6_numberOfTrailingZeros_0f7a4_49 rfl (lv_at hl 1 rfl) ?_
    refine lv_bipush (v := 16) hx hb dJ6_numberOfTrailingZeros_0f7a4_50 (by decide) ?_
    refine lv_icmp_le (tgt := 62) hx hb dJ6_numberOfTrailingZeros_0f7a4_52 (by decide) (fun _ => ?_) (fun h => absurd h (by decide))
    refine lv_iload_n hx hb dJ6_numberOfTrailingZeros_0f7a4_62 rfl (lv_at hl 1 rfl) ?_
    refine lv_iconst (v := 4) hx hb dJ6_numberOfTrailingZeros_0f7a4_63 (by decide) ?_
    refine lv_icmp_le (tgt := 74) hx hb dJ6_numberOfTrailingZeros_0f7a4_64 (by decide) (fun _ => ?_) (fun h => absurd h (by decide))
    refine lv_iload_n hx hb dJ6_numberOfTrailingZeros_0f7a4_74 rfl (lv_at hl 0 rfl) ?_
    refine lv_iload_n hx hb dJ6_numberOfTrailingZeros_0f7a4_75 rfl (lv_at hl 1 rfl) ?_
    refine lv_iconst (v := 1) hx hb dJ6_numberOfTrailingZeros_0f7a4_76 (by decide) ?_
    refine lv_iushr hx hb dJ6_numberOfTrailingZeros_0f7a4_77 rfl ?_
    refine tp_i (v := 0) (by decide) ?_
    refine lv_iadd hx hb dJ6_numberOfTrailingZeros_0f7a4_78 ?_
    refine tp_i (v := 1) (by decide) ?_
    exact rt_i FX ((fun k => match k with | 0 => (1 : Int32) | _ => 0), (fun _ => fun _ => 0), (fun _ => fun _ => 0)) rfl (show 0 ≤ ((1 : Int32)).toInt ∧ ((1 : Int32)).toInt ≤ 3 by decide) (hP.sub [] rfl) (hD.sub [] (by decide) rfl) hS (Nat.le_of_ble_eq_true rfl) (Nat.le_of_ble_eq_true rfl) dJ6_numberOfTrailingZeros_0f7a4_79
  · obtain rfl : p1 = 15 := Int32.toInt_inj.mp (hv.trans (by decide))
    refine lv_iload_n hx hb dJ6_numberOfTrailingZeros_0f7a4_0 rfl (lv_at hl 0 rfl) ?_
    refine lv_iconst (v := -1) hx hb dJ6_numberOfTrailingZeros_0f7a4_1 (by decide) ?_
    refine lv_ixor hx hb dJ6_numberOfTrailingZeros_0f7a4_2 ?_
    refine tp_i (v := -16) (by decide) ?_
    refine lv_iload_n hx hb dJ6_numberOfTrailingZeros_0f7a4_3 rfl (lv_at hl 0 rfl) ?_
    refine lv_iconst (v := 1) hx hb dJ6_numberOfTrailingZeros_0f7a4_4 (by decide) ?_
    refine lv_isub hx hb dJ6_numberOfTrailingZeros_0f7a4_5 ?_
    refine tp_i (v := 14) (by decide) ?_
    refine lv_iand hx hb dJ6_numberOfTrailingZeros_0f7a4_6 ?_
    refine tp_i (v := 0) (by decide) ?_
    refine lv_istore_n (lv' := [(0, .int 0)]) hx hb dJ6_numberOfTrailingZeros_0f7a4_7 rfl hl (by decide) rfl (fun ls hl => ?_)
    refine lv_iload_n hx hb dJ6_numberOfTrailingZeros_0f7a4_8 rfl (lv_at hl 0 rfl) ?_
    refine lv_if_gt (tgt := 17) hx hb dJ6_numberOfTrailingZeros_0f7a4_9 (by decide) (fun h => absurd h (by decide)) (fun _ => ?_)
    refine lv_iload_n hx hb dJ6_numberOfTrailingZeros_0f7a4_12 rfl (lv_at hl 0 rfl) ?_
    refine lv_bipush (v := 32) hx hb dJ6_numberOfTrailingZeros_0f7a4_13 (by decide) ?_
    refine lv_iand hx hb dJ6_numberOfTrailingZeros_0f7a4_15 ?_
    refine tp_i (v := 0) (by decide) ?_
    exact rt_i FX ((fun k => match k with | 0 => (0 : Int32) | _ => 0), (fun _ => fun _ => 0), (fun _ => fun _ => 0)) rfl (show 0 ≤ ((0 : Int32)).toInt ∧ ((0 : Int32)).toInt ≤ 3 by decide) (hP.sub [] rfl) (hD.sub [] (by decide) rfl) hS (Nat.le_of_ble_eq_true rfl) (Nat.le_of_ble_eq_true rfl) dJ6_numberOfTrailingZeros_0f7a4_16
set_option maxRecDepth 100000 in
set_option maxHeartbeats 4000000 in
theorem k_X0_likelihood (l : Launch) (g : GG) (h0 : Nat) (dr0 : Nat) (dr1 : Nat) (dr2 : Nat) (dr3 : Nat) (dr4 : Nat) (dr5 : Nat) (dr6 : Nat) (dr7 : Nat) (dr8 : Nat) (dr9 : Nat) (dstates : Int32) (dreally : Int32) (ddays : Int32) (dheal : Int32) (dleak : Int32) (dlines : Int32) (dhearers : Int32) (dwords : Int32) (dplans : Int32) (dnews : Int32) (dthoughts : Nat → Int32) (p1 : Int32) (p2 : Int32) (p3 : Int32) (p4 : Int32) (i_dstates : 0 ≤ dstates.toInt ∧ dstates.toInt ≤ 8) (i_dreally : 0 ≤ dreally.toInt ∧ dreally.toInt ≤ 7) (i_ddays : 0 ≤ ddays.toInt ∧ ddays.toInt ≤ 10) (i_dhearers : 0 ≤ dhearers.toInt ∧ dhearers.toInt ≤ 4) (i_dwords : 0 ≤ dwords.toInt ∧ dwords.toInt ≤ 8) (i_dplans : 0 ≤ dplans.toInt ∧ dplans.toInt ≤ 4) (i_dnews : 0 ≤ dnews.toInt ∧ dnews.toInt ≤ 6) (i_p1 : 0 ≤ p1.toInt ∧ p1.toInt ≤ 3) (i_p3 : 0 ≤ p3.toInt ∧ p3.toInt ≤ 7) : Ct l g yX0_likelihood cX0_likelihood 9 (some .int) { frames := 1, cells := 0, slots := 0, locals := 25 } [.ref h0, .int p1, .int p2, .int p3, .int p4] [(h0, .inr (0, [.int dstates, .int dreally, .int ddays, .int dheal, .int dleak, .int dlines, .int dhearers, .int dwords, .int dplans, .int dnews, .ref dr0, .ref dr1, .ref dr2, .ref dr3, .ref dr4, .ref dr5, .ref dr6, .ref dr7, .ref dr8, .ref dr9])), (dr1, .inl (g.2 0, 32, .inl dthoughts))] (S := (Nat → Int32) × (Nat → Nat → Int32) × (Nat → Nat → Int64)) (fun u => some (.int (u.1 0))) (fun u => True) (fun u => [(h0, .inr (0, [.int dstates, .int dreally, .int ddays, .int dheal, .int dleak, .int dlines, .int dhearers, .int dwords, .int dplans, .int dnews, .ref dr0, .ref dr1, .ref dr2, .ref dr3, .ref dr4, .ref dr5, .ref dr6, .ref dr7, .ref dr8, .ref dr9])), (dr1, .inl (g.2 0, 32, .inl dthoughts))]) := by
  refine Ct.of (by decide) (Nat.le_of_ble_eq_true rfl) ?_
  intro p e s m below meth c A ls FX hP hD hS hl
  obtain ⟨FC, hr, hlk, hKn, hA, hnm, hZ⟩ := id FX
  have FC : CallFix p m c cX0_likelihood 9 s _ BIG RX0 := FC
  obtain ⟨hx, hb, hml, hown, hB⟩ := id FC
  have hl : lv_has ls 9 [(0, .ref h0), (1, .int p1), (2, .int p2), (3, .int p3), (4, .int p4)] := hl
  refine lv_iconst (v := 0) hx hb dX0_likelihood_0 (by decide) ?_
  refine lv_istore (lv' := [(5, .int 0), (0, .ref h0), (1, .int p1), (2, .int p2), (3, .int p3), (4, .int p4)]) hx hb dX0_likelihood_1 hl (by decide) rfl (fun ls hl => ?_)
  refine lv_iconst (v := 0) hx hb dX0_likelihood_3 (by decide) ?_
  refine lv_istore (lv' := [(6, .int 0), (5, .int 0), (0, .ref h0), (1, .int p1), (2, .int p2), (3, .int p3), (4, .int p4)]) hx hb dX0_likelihood_4 hl (by decide) rfl (fun ls hl => ?_)
  have lp280 : ∀ (n282 : Nat) (x278 : Int32) (x279 : Int32) (H : Heap) (locs : List Loc) (ls : Array Slot), 0 ≤ x278.toInt ∧ x278.toInt ≤ 8 → (8 - x278.toInt).toNat < n282 → va_P g.1 vwCl [(h0, .inr (0, [.int dstates, .int dreally, .int ddays, .int dheal, .int dleak, .int dlines, .int dhearers, .int dwords, .int dplans, .int dnews, .ref dr0, .ref dr1, .ref dr2, .ref dr3, .ref dr4, .ref dr5, .ref dr6, .ref dr7, .ref dr8, .ref dr9])), (dr1, .inl (g.2 0, 32, .inl dthoughts))] H → va_D A [(h0, .inr (0, [.int dstates, .int dreally, .int ddays, .int dheal, .int dleak, .int dlines, .int dhearers, .int dwords, .int dplans, .int dnews, .ref dr0, .ref dr1, .ref dr2, .ref dr3, .ref dr4, .ref dr5, .ref dr6, .ref dr7, .ref dr8, .ref dr9])), (dr1, .inl (g.2 0, 32, .inl dthoughts))] → va_S A s.heap H locs → lv_has ls 9 [(6, .int x278), (5, .int x279), (0, .ref h0), (1, .int p1), (2, .int p2), (3, .int p3), (4, .int p4)] → W p l e { frames := 1, cells := 0, slots := 0, locals := 25 } s m ([.ref h0, .int p1, .int p2, .int p3, .int p4].toArray) below meth c H locs 0 0 (MQ below (QX (S := (Nat → Int32) × (Nat → Nat → Int32) × (Nat → Nat → Int64)) (fun u => some (.int (u.1 0))) (fun u => True) g (fun u => [(h0, .inr (0, [.int dstates, .int dreally, .int ddays, .int dheal, .int dleak, .int dlines, .int dhearers, .int dwords, .int dplans, .int dnews, .ref dr0, .ref dr1, .ref dr2, .ref dr3, .ref dr4, .ref dr5, .ref dr6, .ref dr7, .ref dr8, .ref dr9])), (dr1, .inl (g.2 0, 32, .inl dthoughts))]) A) ([.ref h0, .int p1, .int p2, .int p3, .int p4].toArray) s 0 0 A) (F0 m 6 ls []) := by
    intro n282
    induction n282 with
    | zero =>
      intro x278 x279 H locs ls h_x278 hn283
      exact absurd hn283 (Nat.not_lt_zero _)
    | succ n282 ih281 =>
      intro x278 x279 H locs ls h_x278 hn283 hP hD hS hl
      refine lv_iload hx hb dX0_likelihood_6 (lv_at hl 0 rfl) ?_
      refine lv_aload_n hx hb dX0_likelihood_8 rfl (lv_at hl 2 rfl) ?_
      refine g_get (C := RX0) (T := TX0) (N := 20) (ci := 0) (v := .int dstates) FC hKn hP i_X0 0 rfl rfl 0 (by decide) b_1 rfl dX0_likelihood_9 ?_
      refine lv_icmp_ge (tgt := 43) hx hb dX0_likelihood_12 (by decide) (fun c284 => ?_) (fun c284 => ?_)
      · have c284 := k_le (a := dstates.toInt) (b := x278.toInt) rfl rfl c284
        refine lv_iload hx hb dX0_likelihood_43 (lv_at hl 1 rfl) ?_
        refine lv_if_le (tgt := 57) hx hb dX0_likelihood_45 (by decide) (fun c285 => ?_) (fun c285 => ?_)
        · have c285 := k_le (a := x279.toInt) (b := 0) rfl (by decide) c285
          refine lv_iconst (v := 1) hx hb dX0_likelihood_57 (by decide) ?_
          refine lv_istore (lv' := [(6, .int 1), (5, .int x279), (0, .ref h0), (1, .int p1), (2, .int p2), (3, .int p3), (4, .int p4)]) hx hb dX0_likelihood_58 hl (by decide) rfl (fun ls hl => ?_)
          refine lv_iload hx hb dX0_likelihood_60 (lv_at hl 1 rfl) ?_
          refine lv_if_le (tgt := 70) hx hb dX0_likelihood_62 (by decide) (fun c286 => ?_) (fun c286 => ?_)
          · have c286 := k_le (a := x279.toInt) (b := 0) rfl (by decide) c286
            refine lv_iload_n hx hb dX0_likelihood_70 rfl (lv_at hl 4 rfl) ?_
            refine call_S (As := [.int p2]) (rest := []) (wr := [(h0, .inr (0, [.int dstates, .int dreally, .int ddays, .int dheal, .int dleak, .int dlines, .int dhearers, .int dwords, .int dplans, .int dnews, .ref dr0, .ref dr1, .ref dr2, .ref dr3, .ref dr4, .ref dr5, .ref dr6, .ref dr7, .ref dr8, .ref dr9])), (dr1, .inl (g.2 0, 32, .inl dthoughts))]) FC hKn hZ (k_bitCount l g p2) m_yJ6_bitCount_0f7a4 b_271 hP hD hS hA [] [0, 1] rfl (by decide) rfl (by decide) (by decide) rfl hl.1 rfl (Nat.le_of_ble_eq_true rfl) dX0_likelihood_71 ⟨(Nat.le_of_ble_eq_true rfl), (Nat.le_of_ble_eq_true rfl)⟩ ⟨(Nat.le_of_ble_eq_true rfl), (Nat.le_of_ble_eq_true rfl)⟩ (fun u287 H locs q288 hP hD hS => ?_)
            have hP : va_P g.1 vwCl [(h0, .inr (0, [.int dstates, .int dreally, .int ddays, .int dheal, .int dleak, .int dlines, .int dhearers, .int dwords, .int dplans, .int dnews, .ref dr0, .ref dr1, .ref dr2, .ref dr3, .ref dr4, .ref dr5, .ref dr6, .ref dr7, .ref dr8, .ref dr9])), (dr1, .inl (g.2 0, 32, .inl dthoughts))] H := hP
            have hD : va_D A [(h0, .inr (0, [.int dstates, .int dreally, .int ddays, .int dheal, .int dleak, .int dlines, .int dhearers, .int dwords, .int dplans, .int dnews, .ref dr0, .ref dr1, .ref dr2, .ref dr3, .ref dr4, .ref dr5, .ref dr6, .ref dr7, .ref dr8, .ref dr9])), (dr1, .inl (g.2 0, 32, .inl dthoughts))] := hD
            refine W.eq (g2 := F0 m 74 ls [.int (u287.1 0)]) rfl ?_
            refine lv_istore (lv' := [(7, .int (u287.1 0)), (6, .int 1), (5, .int x279), (0, .ref h0), (1, .int p1), (2, .int p2), (3, .int p3), (4, .int p4)]) hx hb dX0_likelihood_74 hl (by decide) rfl (fun ls hl => ?_)
            refine lv_iload_n hx hb dX0_likelihood_76 rfl (lv_at hl 5 rfl) ?_
            refine lv_iload_n hx hb dX0_likelihood_77 rfl (lv_at hl 6 rfl) ?_
            refine lv_ishr hx hb dX0_likelihood_78 ?_
            refine lv_topi (fun z289 e_z289 => ?_)
            refine lv_iconst (v := 1) hx hb dX0_likelihood_79 (by decide) ?_
            refine lv_iand hx hb dX0_likelihood_80 ?_
            have kc1 : (1 : Int32).toInt = 1 := by decide
            refine lv_topi (fun z290 e_z290 => ?_)
            have t_z290 : 0 ≤ z290.toInt ∧ z290.toInt ≤ 1 := by rw [e_z290]; exact and_r (by omega) (by omega)
            refine lv_if_eq (tgt := 89) hx hb dX0_likelihood_81 (by decide) (fun c291 => ?_) (fun c291 => ?_)
            · have c291 := k_eq (a := z290.toInt) (b := 0) rfl (by decide) c291
              refine lv_iload hx hb dX0_likelihood_89 (lv_at hl 7 rfl) ?_
              exact rt_i FX ((fun k => match k with | 0 => p4 | _ => 0), (fun _ => fun _ => 0), (fun _ => fun _ => 0)) rfl trivial (hP.sub [0, 1] rfl) (hD.sub [0, 1] (by decide) rfl) hS (Nat.le_of_ble_eq_true rfl) (Nat.le_of_ble_eq_true rfl) dX0_likelihood_91
            · have c291 := k_ne (a := z290.toInt) (b := 0) rfl (by decide) c291
              refine lv_iload hx hb dX0_likelihood_84 (lv_at hl 1 rfl) ?_
              refine lv_if_ne (tgt := 92) hx hb dX0_likelihood_86 (by decide) (fun _ => ?_) (fun h => absurd h (by decide))
              refine lv_iload hx hb dX0_likelihood_92 (lv_at hl 0 rfl) ?_
              refine lv_iload hx hb dX0_likelihood_94 (lv_at hl 1 rfl) ?_
              refine call_S (As := [.int (u287.1 0), .int 1]) (rest := []) (wr := [(h0, .inr (0, [.int dstates, .int dreally, .int ddays, .int dheal, .int dleak, .int dlines, .int dhearers, .int dwords, .int dplans, .int dnews, .ref dr0, .ref dr1, .ref dr2, .ref dr3, .ref dr4, .ref dr5, .ref dr6, .ref dr7, .ref dr8, .ref dr9])), (dr1, .inl (g.2 0, 32, .inl dthoughts))]) FC hKn hZ (k_X0_commonDivisor l g (u287.1 0) ((1 : Int32))) m_yX0_commonDivisor b_272 hP hD hS hA [] [0, 1] rfl (by decide) rfl (by decide) (by decide) rfl hl.1 rfl (Nat.le_of_ble_eq_true rfl) dX0_likelihood_96 ⟨(Nat.le_of_ble_eq_true rfl), (Nat.le_of_ble_eq_true rfl)⟩ ⟨(Nat.le_of_ble_eq_true rfl), (Nat.le_of_ble_eq_true rfl)⟩ (fun u292 H locs q293 hP hD hS => ?_)
              have hP : va_P g.1 vwCl [(h0, .inr (0, [.int dstates, .int dreally, .int ddays, .int dheal, .int dleak, .int dlines, .int dhearers, .int dwords, .int dplans, .int dnews, .ref dr0, .ref dr1, .ref dr2, .ref dr3, .ref dr4, .ref dr5, .ref dr6, .ref dr7, .ref dr8, .ref dr9])), (dr1, .inl (g.2 0, 32, .inl dthoughts))] H := hP
              have hD : va_D A [(h0, .inr (0, [.int dstates, .int dreally, .int ddays, .int dheal, .int dleak, .int dlines, .int dhearers, .int dwords, .int dplans, .int dnews, .ref dr0, .ref dr1, .ref dr2, .ref dr3, .ref dr4, .ref dr5, .ref dr6, .ref dr7, .ref dr8, .ref dr9])), (dr1, .inl (g.2 0, 32, .inl dthoughts))] := hD
              refine W.eq (g2 := F0 m 99 ls [.int (u292.1 0)]) rfl ?_
              refine lv_istore (lv' := [(8, .int (u292.1 0)), (7, .int (u287.1 0)), (6, .int 1), (5, .int x279), (0, .ref h0), (1, .int p1), (2, .int p2), (3, .int p3), (4, .int p4)]) hx hb dX0_likelihood_99 hl (by decide) rfl (fun ls hl => ?_)
              refine lv_iload hx hb dX0_likelihood_101 (lv_at hl 0 rfl) ?_
              refine lv_iconst (v := 1) hx hb dX0_likelihood_103 (by decide) ?_
              refine lv_icmp_ge (tgt := 110) hx hb dX0_likelihood_104 (by decide) (fun c294 => ?_) (fun c294 => ?_)
              · have c294 := k_le (a := 1) (b := (u292.1 0).toInt) (by decide) rfl c294
                refine lv_iload hx hb dX0_likelihood_110 (lv_at hl 8 rfl) ?_
                refine lv_if_ne (tgt := 123) hx hb dX0_likelihood_112 (by decide) (fun c295 => ?_) (fun c295 => ?_)
                · have c295 := k_ne (a := p4.toInt) (b := 0) rfl (by decide) c295
                  refine lv_iload hx hb dX0_likelihood_123 (lv_at hl 1 rfl) ?_
                  refine lv_iload hx hb dX0_likelihood_125 (lv_at hl 0 rfl) ?_
                  refine lv_idiv hx hb dX0_likelihood_127 (ne0 (by omega)) ?_
                  refine lv_topi (fun z296 e_z296 => ?_)
                  exact rt_i FX ((fun k => match k with | 0 => z296 | _ => 0), (fun _ => fun _ => 0), (fun _ => fun _ => 0)) rfl trivial (hP.sub [0, 1] rfl) (hD.sub [0, 1] (by decide) rfl) hS (Nat.le_of_ble_eq_true rfl) (Nat.le_of_ble_eq_true rfl) dX0_likelihood_128
                · have c295 := k_eq (a := p4.toInt) (b := 0) rfl (by decide) c295
                  refine lv_iload hx hb dX0_likelihood_115 (lv_at hl 2 rfl) ?_
                  refine lv_iload hx hb dX0_likelihood_117 (lv_at hl 0 rfl) ?_
                  refine lv_idiv hx hb dX0_likelihood_119 (ne0 (by omega)) ?_
                  refine lv_topi (fun z297 e_z297 => ?_)
                  have t_z297 : 0 ≤ z297.toInt ∧ z297.toInt ≤ ((1 : Int32)).toInt := by rw [e_z297]; exact div_b (by omega) (by omega)
                  refine lv_goto (tgt := 128) hx hb dX0_likelihood_120 (by decide) ?_
                  exact rt_i FX ((fun k => match k with | 0 => z297 | _ => 0), (fun _ => fun _ => 0), (fun _ => fun _ => 0)) rfl trivial (hP.sub [0, 1] rfl) (hD.sub [0, 1] (by decide) rfl) hS (Nat.le_of_ble_eq_true rfl) (Nat.le_of_ble_eq_true rfl) dX0_likelihood_128
              · have c294 := k_nle (a := 1) (b := (u292.1 0).toInt) (by decide) rfl c294
                refine lv_iload hx hb dX0_likelihood_107 (lv_at hl 8 rfl) ?_
                exact rt_i FX ((fun k => match k with | 0 => p4 | _ => 0), (fun _ => fun _ => 0), (fun _ => fun _ => 0)) rfl trivial (hP.sub [0, 1] rfl) (hD.sub [0, 1] (by decide) rfl) hS (Nat.le_of_ble_eq_true rfl) (Nat.le_of_ble_eq_true rfl) dX0_likelihood_109
          · have c286 := k_nle (a := x279.toInt) (b := 0) rfl (by decide) c286
            exfalso; omega
        · have c285 := k_nle (a := x279.toInt) (b := 0) rfl (by decide) c285
          refine lv_aload_n hx hb dX0_likelihood_48 rfl (lv_at hl 2 rfl) ?_
          refine lv_iload_n hx hb dX0_likelihood_49 rfl (lv_at hl 3 rfl) ?_
          refine lv_iload_n hx hb dX0_likelihood_50 rfl (lv_at hl 5 rfl) ?_
          refine call_V (As := [.int p1, .int p3]) (rest := []) (wr := []) FC hKn hZ (k_X0_thoughtOf l g h0 dr0 dr1 dr2 dr3 dr4 dr5 dr6 dr7 dr8 dr9 dstates dreally ddays dheal dleak dlines dhearers dwords dplans dnews dthoughts p1 p3 (by omega) (by omega) (by omega) (by omega) (by omega) (by omega) (by omega) (by omega) (by omega)) m_yX0_thoughtOf b_16 (ci := 0) rfl rfl rfl hP hD hS hA [0, 1] [] rfl (by decide) rfl (by decide) (by decide) rfl hl.1 rfl (Nat.le_of_ble_eq_true rfl) dX0_likelihood_51 ⟨(Nat.le_of_ble_eq_true rfl), (Nat.le_of_ble_eq_true rfl)⟩ ⟨(Nat.le_of_ble_eq_true rfl), (Nat.le_of_ble_eq_true rfl)⟩ (fun u298 H locs q299 hP hD hS => ?_)
          have hP : va_P g.1 vwCl [(h0, .inr (0, [.int dstates, .int dreally, .int ddays, .int dheal, .int dleak, .int dlines, .int dhearers, .int dwords, .int dplans, .int dnews, .ref dr0, .ref dr1, .ref dr2, .ref dr3, .ref dr4, .ref dr5, .ref dr6, .ref dr7, .ref dr8, .ref dr9])), (dr1, .inl (g.2 0, 32, .inl dthoughts))] H := hP
          have hD : va_D A [(h0, .inr (0, [.int dstates, .int dreally, .int ddays, .int dheal, .int dleak, .int dlines, .int dhearers, .int dwords, .int dplans, .int dnews, .ref dr0, .ref dr1, .ref dr2, .ref dr3, .ref dr4, .ref dr5, .ref dr6, .ref dr7, .ref dr8, .ref dr9])), (dr1, .inl (g.2 0, 32, .inl dthoughts))] := hD
          refine W.eq (g2 := F0 m 54 ls [.int (u298.1 0)]) rfl ?_
          refine lv_goto (tgt := 58) hx hb dX0_likelihood_54 (by decide) ?_
          refine lv_istore (lv' := [(6, .int (u298.1 0)), (5, .int x279), (0, .ref h0), (1, .int p1), (2, .int p2), (3, .int p3), (4, .int p4)]) hx hb dX0_likelihood_58 hl (by decide) rfl (fun ls hl => ?_)
          refine lv_iload hx hb dX0_likelihood_60 (lv_at hl 1 rfl) ?_
          refine lv_if_le (tgt := 70) hx hb dX0_likelihood_62 (by decide) (fun c300 => ?_) (fun c300 => ?_)
          · have c300 := k_le (a := x279.toInt) (b := 0) rfl (by decide) c300
            exfalso; omega
          · have c300 := k_nle (a := x279.toInt) (b := 0) rfl (by decide) c300
            refine lv_iload hx hb dX0_likelihood_65 (lv_at hl 1 rfl) ?_
            refine lv_goto (tgt := 74) hx hb dX0_likelihood_67 (by decide) ?_
            refine lv_istore (lv' := [(7, .int x279), (6, .int (u298.1 0)), (5, .int x279), (0, .ref h0), (1, .int p1), (2, .int p2), (3, .int p3), (4, .int p4)]) hx hb dX0_likelihood_74 hl (by decide) rfl (fun ls hl => ?_)
            refine lv_iload_n hx hb dX0_likelihood_76 rfl (lv_at hl 5 rfl) ?_
            refine lv_iload_n hx hb dX0_likelihood_77 rfl (lv_at hl 6 rfl) ?_
            refine lv_ishr hx hb dX0_likelihood_78 ?_
            refine lv_topi (fun z301 e_z301 => ?_)
            refine lv_iconst (v := 1) hx hb dX0_likelihood_79 (by decide) ?_
            refine lv_iand hx hb dX0_likelihood_80 ?_
            have kc1 : (1 : Int32).toInt = 1 := by decide
            refine lv_topi (fun z302 e_z302 => ?_)
            have t_z302 : 0 ≤ z302.toInt ∧ z302.toInt ≤ 1 := by rw [e_z302]; exact and_r (by omega) (by omega)
            refine lv_if_eq (tgt := 89) hx hb dX0_likelihood_81 (by decide) (fun c303 => ?_) (fun c303 => ?_)
            · have c303 := k_eq (a := z302.toInt) (b := 0) rfl (by decide) c303
              refine lv_iload hx hb dX0_likelihood_89 (lv_at hl 7 rfl) ?_
              exact rt_i FX ((fun k => match k with | 0 => p4 | _ => 0), (fun _ => fun _ => 0), (fun _ => fun _ => 0)) rfl trivial (hP.sub [0, 1] rfl) (hD.sub [0, 1] (by decide) rfl) hS (Nat.le_of_ble_eq_true rfl) (Nat.le_of_ble_eq_true rfl) dX0_likelihood_91
            · have c303 := k_ne (a := z302.toInt) (b := 0) rfl (by decide) c303
              refine lv_iload hx hb dX0_likelihood_84 (lv_at hl 1 rfl) ?_
              refine lv_if_ne (tgt := 92) hx hb dX0_likelihood_86 (by decide) (fun c304 => ?_) (fun c304 => ?_)
              · have c304 := k_ne (a := (u298.1 0).toInt) (b := 0) rfl (by decide) c304
                refine lv_iload hx hb dX0_likelihood_92 (lv_at hl 0 rfl) ?_
                refine lv_iload hx hb dX0_likelihood_94 (lv_at hl 1 rfl) ?_
                refine call_S (As := [.int x279, .int (u298.1 0)]) (rest := []) (wr := [(h0, .inr (0, [.int dstates, .int dreally, .int ddays, .int dheal, .int dleak, .int dlines, .int dhearers, .int dwords, .int dplans, .int dnews, .ref dr0, .ref dr1, .ref dr2, .ref dr3, .ref dr4, .ref dr5, .ref dr6, .ref dr7, .ref dr8, .ref dr9])), (dr1, .inl (g.2 0, 32, .inl dthoughts))]) FC hKn hZ (k_X0_commonDivisor l g x279 (u298.1 0)) m_yX0_commonDivisor b_272 hP hD hS hA [] [0, 1] rfl (by decide) rfl (by decide) (by decide) rfl hl.1 rfl (Nat.le_of_ble_eq_true rfl) dX0_likelihood_96 ⟨(Nat.le_of_ble_eq_true rfl), (Nat.le_of_ble_eq_true rfl)⟩ ⟨(Nat.le_of_ble_eq_true rfl), (Nat.le_of_ble_eq_true rfl)⟩ (fun u305 H locs q306 hP hD hS => ?_)
                have hP : va_P g.1 vwCl [(h0, .inr (0, [.int dstates, .int dreally, .int ddays, .int dheal, .int dleak, .int dlines, .int dhearers, .int dwords, .int dplans, .int dnews, .ref dr0, .ref dr1, .ref dr2, .ref dr3, .ref dr4, .ref dr5, .ref dr6, .ref dr7, .ref dr8, .ref dr9])), (dr1, .inl (g.2 0, 32, .inl dthoughts))] H := hP
                have hD : va_D A [(h0, .inr (0, [.int dstates, .int dreally, .int ddays, .int dheal, .int dleak, .int dlines, .int dhearers, .int dwords, .int dplans, .int dnews, .ref dr0, .ref dr1, .ref dr2, .ref dr3, .ref dr4, .ref dr5, .ref dr6, .ref dr7, .ref dr8, .ref dr9])), (dr1, .inl (g.2 0, 32, .inl dthoughts))] := hD
                refine W.eq (g2 := F0 m 99 ls [.int (u305.1 0)]) rfl ?_
                refine lv_istore (lv' := [(8, .int (u305.1 0)), (7, .int x279), (6, .int (u298.1 0)), (5, .int x279), (0, .ref h0), (1, .int p1), (2, .int p2), (3, .int p3), (4, .int p4)]) hx hb dX0_likelihood_99 hl (by decide) rfl (fun ls hl => ?_)
                refine lv_iload hx hb dX0_likelihood_101 (lv_at hl 0 rfl) ?_
                refine lv_iconst (v := 1) hx hb dX0_likelihood_103 (by decide) ?_
                refine lv_icmp_ge (tgt := 110) hx hb dX0_likelihood_104 (by decide) (fun c307 => ?_) (fun c307 => ?_)
                · have c307 := k_le (a := 1) (b := (u305.1 0).toInt) (by decide) rfl c307
                  refine lv_iload hx hb dX0_likelihood_110 (lv_at hl 8 rfl) ?_
                  refine lv_if_ne (tgt := 123) hx hb dX0_likelihood_112 (by decide) (fun c308 => ?_) (fun c308 => ?_)
                  · have c308 := k_ne (a := p4.toInt) (b := 0) rfl (by decide) c308
                    refine lv_iload hx hb dX0_likelihood_123 (lv_at hl 1 rfl) ?_
                    refine lv_iload hx hb dX0_likelihood_125 (lv_at hl 0 rfl) ?_
                    refine lv_idiv hx hb dX0_likelihood_127 (ne0 (by omega)) ?_
                    refine lv_topi (fun z309 e_z309 => ?_)
                    have t_z309 : 0 ≤ z309.toInt ∧ z309.toInt ≤ x279.toInt := by rw [e_z309]; exact div_b (by omega) (by omega)
                    exact rt_i FX ((fun k => match k with | 0 => z309 | _ => 0), (fun _ => fun _ => 0), (fun _ => fun _ => 0)) rfl trivial (hP.sub [0, 1] rfl) (hD.sub [0, 1] (by decide) rfl) hS (Nat.le_of_ble_eq_true rfl) (Nat.le_of_ble_eq_true rfl) dX0_likelihood_128
                  · have c308 := k_eq (a := p4.toInt) (b := 0) rfl (by decide) c308
                    refine lv_iload hx hb dX0_likelihood_115 (lv_at hl 2 rfl) ?_
                    refine lv_iload hx hb dX0_likelihood_117 (lv_at hl 0 rfl) ?_
                    refine lv_idiv hx hb dX0_likelihood_119 (ne0 (by omega)) ?_
                    refine lv_topi (fun z310 e_z310 => ?_)
                    refine lv_goto (tgt := 128) hx hb dX0_likelihood_120 (by decide) ?_
                    exact rt_i FX ((fun k => match k with | 0 => z310 | _ => 0), (fun _ => fun _ => 0), (fun _ => fun _ => 0)) rfl trivial (hP.sub [0, 1] rfl) (hD.sub [0, 1] (by decide) rfl) hS (Nat.le_of_ble_eq_true rfl) (Nat.le_of_ble_eq_true rfl) dX0_likelihood_128
                · have c307 := k_nle (a := 1) (b := (u305.1 0).toInt) (by decide) rfl c307
                  refine lv_iload hx hb dX0_likelihood_107 (lv_at hl 8 rfl) ?_
                  exact rt_i FX ((fun k => match k with | 0 => p4 | _ => 0), (fun _ => fun _ => 0), (fun _ => fun _ => 0)) rfl trivial (hP.sub [0, 1] rfl) (hD.sub [0, 1] (by decide) rfl) hS (Nat.le_of_ble_eq_true rfl) (Nat.le_of_ble_eq_true rfl) dX0_likelihood_109
              · have c304 := k_eq (a := (u298.1 0).toInt) (b := 0) rfl (by decide) c304
                refine lv_iload hx hb dX0_likelihood_89 (lv_at hl 7 rfl) ?_
                exact rt_i FX ((fun k => match k with | 0 => p4 | _ => 0), (fun _ => fun _ => 0), (fun _ => fun _ => 0)) rfl trivial (hP.sub [0, 1] rfl) (hD.sub [0, 1] (by decide) rfl) hS (Nat.le_of_ble_eq_true rfl) (Nat.le_of_ble_eq_true rfl) dX0_likelihood_91
      · have c284 := k_nle (a := dstates.toInt) (b := x278.toInt) rfl rfl c284
        refine lv_iload_n hx hb dX0_likelihood_15 rfl (lv_at hl 4 rfl) ?_
        refine lv_iload hx hb dX0_likelihood_16 (lv_at hl 0 rfl) ?_
        refine lv_ishr hx hb dX0_likelihood_18 ?_
        refine lv_topi (fun z311 e_z311 => ?_)
        refine lv_iconst (v := 1) hx hb dX0_likelihood_19 (by decide) ?_
        refine lv_iand hx hb dX0_likelihood_20 ?_
        have kc1 : (1 : Int32).toInt = 1 := by decide
        refine lv_topi (fun z312 e_z312 => ?_)
        have t_z312 : 0 ≤ z312.toInt ∧ z312.toInt ≤ 1 := by rw [e_z312]; exact and_r (by omega) (by omega)
        refine lv_iconst (v := 1) hx hb dX0_likelihood_21 (by decide) ?_
        refine lv_icmp_ne (tgt := 37) hx hb dX0_likelihood_22 (by decide) (fun c313 => ?_) (fun c313 => ?_)
        · have c313 := k_ne (a := z312.toInt) (b := 1) rfl (by decide) c313
          obtain ⟨z314, e_z314⟩ : ∃ y : Int32, y = x278 + 1 := ⟨_, rfl⟩
          have t_z314 : z314.toInt = x278.toInt + 1 := by rw [e_z314]; exact addk (by decide) (by omega) (by omega)
          refine lv_iinc (v := z314) (lv' := [(6, .int z314), (5, .int x279), (0, .ref h0), (1, .int p1), (2, .int p2), (3, .int p3), (4, .int p4)]) hx hb dX0_likelihood_37 hl (k := 0) rfl (by rw [e_z314]; rfl) (by decide) rfl (fun ls hl => ?_)
          refine lv_goto (tgt := 6) hx hb dX0_likelihood_40 (by decide) ?_
          exact ih281 z314 x279 _ _ ls (by omega) (by omega) hP hD hS (lv_sub hl [0, 1, 2, 3, 4, 5, 6] rfl)
        · have c313 := k_eq (a := z312.toInt) (b := 1) rfl (by decide) c313
          refine lv_iload hx hb dX0_likelihood_25 (lv_at hl 1 rfl) ?_
          refine lv_aload_n hx hb dX0_likelihood_27 rfl (lv_at hl 2 rfl) ?_
          refine lv_iload_n hx hb dX0_likelihood_28 rfl (lv_at hl 3 rfl) ?_
          refine lv_iload hx hb dX0_likelihood_29 (lv_at hl 0 rfl) ?_
          refine call_V (As := [.int p1, .int x278]) (rest := [.int x279]) (wr := []) FC hKn hZ (k_X0_thoughtOf l g h0 dr0 dr1 dr2 dr3 dr4 dr5 dr6 dr7 dr8 dr9 dstates dreally ddays dheal dleak dlines dhearers dwords dplans dnews dthoughts p1 x278 (by omega) (by omega) (by omega) (by omega) (by omega) (by omega) (by omega) (by omega) (by omega)) m_yX0_thoughtOf b_16 (ci := 0) rfl rfl rfl hP hD hS hA [0, 1] [] rfl (by decide) rfl (by decide) (by decide) rfl hl.1 rfl (Nat.le_of_ble_eq_true rfl) dX0_likelihood_31 ⟨(Nat.le_of_ble_eq_true rfl), (Nat.le_of_ble_eq_true rfl)⟩ ⟨(Nat.le_of_ble_eq_true rfl), (Nat.le_of_ble_eq_true rfl)⟩ (fun u315 H locs q316 hP hD hS => ?_)
          have hP : va_P g.1 vwCl [(h0, .inr (0, [.int dstates, .int dreally, .int ddays, .int dheal, .int dleak, .int dlines, .int dhearers, .int dwords, .int dplans, .int dnews, .ref dr0, .ref dr1, .ref dr2, .ref dr3, .ref dr4, .ref dr5, .ref dr6, .ref dr7, .ref dr8, .ref dr9])), (dr1, .inl (g.2 0, 32, .inl dthoughts))] H := hP
          have hD : va_D A [(h0, .inr (0, [.int dstates, .int dreally, .int ddays, .int dheal, .int dleak, .int dlines, .int dhearers, .int dwords, .int dplans, .int dnews, .ref dr0, .ref dr1, .ref dr2, .ref dr3, .ref dr4, .ref dr5, .ref dr6, .ref dr7, .ref dr8, .ref dr9])), (dr1, .inl (g.2 0, 32, .inl dthoughts))] := hD
          refine W.eq (g2 := F0 m 34 ls [.int (u315.1 0), .int x279]) rfl ?_
          refine lv_iadd hx hb dX0_likelihood_34 ?_
          refine lv_topi (fun z317 e_z317 => ?_)
          refine lv_istore (lv' := [(5, .int z317), (6, .int x278), (0, .ref h0), (1, .int p1), (2, .int p2), (3, .int p3), (4, .int p4)]) hx hb dX0_likelihood_35 hl (by decide) rfl (fun ls hl => ?_)
          obtain ⟨z318, e_z318⟩ : ∃ y : Int32, y = x278 + 1 := ⟨_, rfl⟩
          have t_z318 : z318.toInt = x278.toInt + 1 := by rw [e_z318]; exact addk (by decide) (by omega) (by omega)
          refine lv_iinc (v := z318) (lv' := [(6, .int z318), (5, .int z317), (0, .ref h0), (1, .int p1), (2, .int p2), (3, .int p3), (4, .int p4)]) hx hb dX0_likelihood_37 hl (k := 1) rfl (by rw [e_z318]; rfl) (by decide) rfl (fun ls hl => ?_)
          refine lv_goto (tgt := 6) hx hb dX0_likelihood_40 (by decide) ?_
          exact ih281 z318 z317 _ _ ls (by omega) (by omega) hP hD hS (lv_sub hl [0, 1, 2, 3, 4, 5, 6] rfl)
  have kc0 : (0 : Int32).toInt = 0 := by decide
  exact lp280 _ (0 : Int32) (0 : Int32) _ _ ls (by decide) (Nat.lt_succ_self _) hP hD hS (lv_sub hl [0, 1, 2, 3, 4, 5, 6] rfl)
set_option maxRecDepth 100000 in
set_option maxHeartbeats 4000000 in
theorem k_X0_fewestToTell (l : Launch) (g : GG) (h0 : Nat) (dr0 : Nat) (dr1 : Nat) (dr2 : Nat) (dr3 : Nat) (dr4 : Nat) (dr5 : Nat) (dr6 : Nat) (dr7 : Nat) (dr8 : Nat) (dr9 : Nat) (dstates : Int32) (dreally : Int32) (ddays : Int32) (dheal : Int32) (dleak : Int32) (dlines : Int32) (dhearers : Int32) (dwords : Int32) (dplans : Int32) (dnews : Int32) (dtold : Nat → Int32) (i_dstates : 0 ≤ dstates.toInt ∧ dstates.toInt ≤ 8) (i_dreally : 0 ≤ dreally.toInt ∧ dreally.toInt ≤ 7) (i_ddays : 0 ≤ ddays.toInt ∧ ddays.toInt ≤ 10) (i_dhearers : 0 ≤ dhearers.toInt ∧ dhearers.toInt ≤ 4) (i_dwords : 0 ≤ dwords.toInt ∧ dwords.toInt ≤ 8) (i_dplans : 0 ≤ dplans.toInt ∧ dplans.toInt ≤ 4) (i_dnews : 0 ≤ dnews.toInt ∧ dnews.toInt ≤ 6) : Ct l g yX0_fewestToTell cX0_fewestToTell 3 (some .int) { frames := 1, cells := 0, slots := 0, locals := 26 } [.ref h0] [(h0, .inr (0, [.int dstates, .int dreally, .int ddays, .int dheal, .int dleak, .int dlines, .int dhearers, .int dwords, .int dplans, .int dnews, .ref dr0, .ref dr1, .ref dr2, .ref dr3, .ref dr4, .ref dr5, .ref dr6, .ref dr7, .ref dr8, .ref dr9])), (dr3, .inl (g.2 0, 4, .inl dtold))] (S := (Nat → Int32) × (Nat → Nat → Int32) × (Nat → Nat → Int64)) (fun u => some (.int (u.1 0))) (fun u => True) (fun u => [(h0, .inr (0, [.int dstates, .int dreally, .int ddays, .int dheal, .int dleak, .int dlines, .int dhearers, .int dwords, .int dplans, .int dnews, .ref dr0, .ref dr1, .ref dr2, .ref dr3, .ref dr4, .ref dr5, .ref dr6, .ref dr7, .ref dr8, .ref dr9])), (dr3, .inl (g.2 0, 4, .inl dtold))]) := by
  refine Ct.of (by decide) (Nat.le_of_ble_eq_true rfl) ?_
  intro p e s m below meth c A ls FX hP hD hS hl
  obtain ⟨FC, hr, hlk, hKn, hA, hnm, hZ⟩ := id FX
  have FC : CallFix p m c cX0_fewestToTell 3 s _ BIG RX0 := FC
  obtain ⟨hx, hb, hml, hown, hB⟩ := id FC
  have hl : lv_has ls 3 [(0, .ref h0)] := hl
  refine lv_aload_n hx hb dX0_fewestToTell_0 rfl (lv_at hl 0 rfl) ?_
  refine call_V (As := []) (rest := []) (wr := [(dr3, .inl (g.2 0, 4, .inl dtold))]) FC hKn hZ (k_X0_everybody l g h0 dr0 dr1 dr2 dr3 dr4 dr5 dr6 dr7 dr8 dr9 dstates dreally ddays dheal dleak dlines dhearers dwords dplans dnews (by omega) (by omega) (by omega) (by omega) (by omega) (by omega) (by omega)) m_yX0_everybody b_273 (ci := 0) rfl rfl rfl hP hD hS hA [0] [1] rfl (by decide) rfl (by decide) (by decide) rfl hl.1 rfl (Nat.le_of_ble_eq_true rfl) dX0_fewestToTell_1 ⟨(Nat.le_of_ble_eq_true rfl), (Nat.le_of_ble_eq_true rfl)⟩ ⟨(Nat.le_of_ble_eq_true rfl), (Nat.le_of_ble_eq_true rfl)⟩ (fun u1 H locs q2 hP hD hS => ?_)
  have q2_0 : 0 ≤ (u1.1 0).toInt ∧ (u1.1 0).toInt ≤ 15 := q2
  have hP : va_P g.1 vwCl [(dr3, .inl (g.2 0, 4, .inl dtold)), (h0, .inr (0, [.int dstates, .int dreally, .int ddays, .int dheal, .int dleak, .int dlines, .int dhearers, .int dwords, .int dplans, .int dnews, .ref dr0, .ref dr1, .ref dr2, .ref dr3, .ref dr4, .ref dr5, .ref dr6, .ref dr7, .ref dr8, .ref dr9]))] H := hP
  have hD : va_D A [(dr3, .inl (g.2 0, 4, .inl dtold)), (h0, .inr (0, [.int dstates, .int dreally, .int ddays, .int dheal, .int dleak, .int dlines, .int dhearers, .int dwords, .int dplans, .int dnews, .ref dr0, .ref dr1, .ref dr2, .ref dr3, .ref dr4, .ref dr5, .ref dr6, .ref dr7, .ref dr8, .ref dr9]))] := hD
  refine W.eq (g2 := F0 m 4 ls [.int (u1.1 0)]) rfl ?_
  refine lv_istore_n (lv' := [(1, .int (u1.1 0)), (0, .ref h0)]) hx hb dX0_fewestToTell_4 rfl hl (by decide) rfl (fun ls hl => ?_)
  refine lv_iconst (v := 0) hx hb dX0_fewestToTell_5 (by decide) ?_
  refine lv_istore_n (lv' := [(2, .int 0), (1, .int (u1.1 0)), (0, .ref h0)]) hx hb dX0_fewestToTell_6 rfl hl (by decide) rfl (fun ls hl => ?_)
  have lp152 : ∀ (n154 : Nat) (x150 : Int32) (x151 : Int32) (H : Heap) (locs : List Loc) (ls : Array Slot), 0 ≤ x150.toInt ∧ x150.toInt ≤ 15 → 0 ≤ x151.toInt ∧ x151.toInt ≤ 15 → (15 - x150.toInt).toNat < n154 → va_P g.1 vwCl [(dr3, .inl (g.2 0, 4, .inl dtold)), (h0, .inr (0, [.int dstates, .int dreally, .int ddays, .int dheal, .int dleak, .int dlines, .int dhearers, .int dwords, .int dplans, .int dnews, .ref dr0, .ref dr1, .ref dr2, .ref dr3, .ref dr4, .ref dr5, .ref dr6, .ref dr7, .ref dr8, .ref dr9]))] H → va_D A [(dr3, .inl (g.2 0, 4, .inl dtold)), (h0, .inr (0, [.int dstates, .int dreally, .int ddays, .int dheal, .int dleak, .int dlines, .int dhearers, .int dwords, .int dplans, .int dnews, .ref dr0, .ref dr1, .ref dr2, .ref dr3, .ref dr4, .ref dr5, .ref dr6, .ref dr7, .ref dr8, .ref dr9]))] → va_S A s.heap H locs → lv_has ls 3 [(2, .int x150), (1, .int x151), (0, .ref h0)] → W p l e { frames := 1, cells := 0, slots := 0, locals := 26 } s m ([.ref h0].toArray) below meth c H locs 0 0 (MQ below (QX (S := (Nat → Int32) × (Nat → Nat → Int32) × (Nat → Nat → Int64)) (fun u => some (.int (u.1 0))) (fun u => True) g (fun u => [(h0, .inr (0, [.int dstates, .int dreally, .int ddays, .int dheal, .int dleak, .int dlines, .int dhearers, .int dwords, .int dplans, .int dnews, .ref dr0, .ref dr1, .ref dr2, .ref dr3, .ref dr4, .ref dr5, .ref dr6, .ref dr7, .ref dr8, .ref dr9])), (dr3, .inl (g.2 0, 4, .inl dtold))]) A) ([.ref h0].toArray) s 0 0 A) (F0 m 7 ls []) := by
    intro n154
    induction n154 with
    | zero =>
      intro x150 x151 H locs ls h_x150 h_x151 hn155
      exact absurd hn155 (Nat.not_lt_zero _)
    | succ n154 ih153 =>
      intro x150 x151 H locs ls h_x150 h_x151 hn155 hP hD hS hl
      refine lv_iload_n hx hb dX0_fewestToTell_7 rfl (lv_at hl 0 rfl) ?_
      refine lv_aload_n hx hb dX0_fewestToTell_8 rfl (lv_at hl 2 rfl) ?_
      refine call_V (As := []) (rest := [.int x150]) (wr := [(dr3, .inl (g.2 0, 4, .inl dtold))]) FC hKn hZ (k_X0_everybody l g h0 dr0 dr1 dr2 dr3 dr4 dr5 dr6 dr7 dr8 dr9 dstates dreally ddays dheal dleak dlines dhearers dwords dplans dnews (by omega) (by omega) (by omega) (by omega) (by omega) (by omega) (by omega)) m_yX0_everybody b_273 (ci := 0) rfl rfl rfl hP hD hS hA [1] [0] rfl (by decide) rfl (by decide) (by decide) rfl hl.1 rfl (Nat.le_of_ble_eq_true rfl) dX0_fewestToTell_9 ⟨(Nat.le_of_ble_eq_true rfl), (Nat.le_of_ble_eq_true rfl)⟩ ⟨(Nat.le_of_ble_eq_true rfl), (Nat.le_of_ble_eq_true rfl)⟩ (fun u156 H locs q157 hP hD hS => ?_)
      have q157_0 : 0 ≤ (u156.1 0).toInt ∧ (u156.1 0).toInt ≤ 15 := q157
      have hP : va_P g.1 vwCl [(dr3, .inl (g.2 0, 4, .inl dtold)), (h0, .inr (0, [.int dstates, .int dreally, .int ddays, .int dheal, .int dleak, .int dlines, .int dhearers, .int dwords, .int dplans, .int dnews, .ref dr0, .ref dr1, .ref dr2, .ref dr3, .ref dr4, .ref dr5, .ref dr6, .ref dr7, .ref dr8, .ref dr9]))] H := hP
      have hD : va_D A [(dr3, .inl (g.2 0, 4, .inl dtold)), (h0, .inr (0, [.int dstates, .int dreally, .int ddays, .int dheal, .int dleak, .int dlines, .int dhearers, .int dwords, .int dplans, .int dnews, .ref dr0, .ref dr1, .ref dr2, .ref dr3, .ref dr4, .ref dr5, .ref dr6, .ref dr7, .ref dr8, .ref dr9]))] := hD
      refine W.eq (g2 := F0 m 12 ls [.int (u156.1 0), .int x150]) rfl ?_
      refine lv_icmp_ge (tgt := 52) hx hb dX0_fewestToTell_12 (by decide) (fun c158 => ?_) (fun c158 => ?_)
      · have c158 := k_le (a := (u156.1 0).toInt) (b := x150.toInt) rfl rfl c158
        refine lv_iload_n hx hb dX0_fewestToTell_52 rfl (lv_at hl 1 rfl) ?_
        exact rt_i FX ((fun k => match k with | 0 => x151 | _ => 0), (fun _ => fun _ => 0), (fun _ => fun _ => 0)) rfl trivial (hP.sub [1, 0] rfl) (hD.sub [1, 0] (by decide) rfl) hS (Nat.le_of_ble_eq_true rfl) (Nat.le_of_ble_eq_true rfl) dX0_fewestToTell_53
      · have c158 := k_nle (a := (u156.1 0).toInt) (b := x150.toInt) rfl rfl c158
        refine lv_iload_n hx hb dX0_fewestToTell_15 rfl (lv_at hl 0 rfl) ?_
        refine call_S (As := [.int x150]) (rest := []) (wr := [(dr3, .inl (g.2 0, 4, .inl dtold)), (h0, .inr (0, [.int dstates, .int dreally, .int ddays, .int dheal, .int dleak, .int dlines, .int dhearers, .int dwords, .int dplans, .int dnews, .ref dr0, .ref dr1, .ref dr2, .ref dr3, .ref dr4, .ref dr5, .ref dr6, .ref dr7, .ref dr8, .ref dr9]))]) FC hKn hZ (k_bitCount_15 l g x150 (by omega)) m_yJ6_bitCount_0f7a4 b_271 hP hD hS hA [] [0, 1] rfl (by decide) rfl (by decide) (by decide) rfl hl.1 rfl (Nat.le_of_ble_eq_true rfl) dX0_fewestToTell_16 ⟨(Nat.le_of_ble_eq_true rfl), (Nat.le_of_ble_eq_true rfl)⟩ ⟨(Nat.le_of_ble_eq_true rfl), (Nat.le_of_ble_eq_true rfl)⟩ (fun u159 H locs q160 hP hD hS => ?_)
        obtain ⟨q160_0, q160_1⟩ := q160
        have hP : va_P g.1 vwCl [(dr3, .inl (g.2 0, 4, .inl dtold)), (h0, .inr (0, [.int dstates, .int dreally, .int ddays, .int dheal, .int dleak, .int dlines, .int dhearers, .int dwords, .int dplans, .int dnews, .ref dr0, .ref dr1, .ref dr2, .ref dr3, .ref dr4, .ref dr5, .ref dr6, .ref dr7, .ref dr8, .ref dr9]))] H := hP
        have hD : va_D A [(dr3, .inl (g.2 0, 4, .inl dtold)), (h0, .inr (0, [.int dstates, .int dreally, .int ddays, .int dheal, .int dleak, .int dlines, .int dhearers, .int dwords, .int dplans, .int dnews, .ref dr0, .ref dr1, .ref dr2, .ref dr3, .ref dr4, .ref dr5, .ref dr6, .ref dr7, .ref dr8, .ref dr9]))] := hD
        refine W.eq (g2 := F0 m 19 ls [.int (u159.1 0)]) rfl ?_
        refine lv_iload_n hx hb dX0_fewestToTell_19 rfl (lv_at hl 1 rfl) ?_
        refine call_S (As := [.int x151]) (rest := [.int (u159.1 0)]) (wr := [(dr3, .inl (g.2 0, 4, .inl dtold)), (h0, .inr (0, [.int dstates, .int dreally, .int ddays, .int dheal, .int dleak, .int dlines, .int dhearers, .int dwords, .int dplans, .int dnews, .ref dr0, .ref dr1, .ref dr2, .ref dr3, .ref dr4, .ref dr5, .ref dr6, .ref dr7, .ref dr8, .ref dr9]))]) FC hKn hZ (k_bitCount_15 l g x151 (by omega)) m_yJ6_bitCount_0f7a4 b_271 hP hD hS hA [] [0, 1] rfl (by decide) rfl (by decide) (by decide) rfl hl.1 rfl (Nat.le_of_ble_eq_true rfl) dX0_fewestToTell_20 ⟨(Nat.le_of_ble_eq_true rfl), (Nat.le_of_ble_eq_true rfl)⟩ ⟨(Nat.le_of_ble_eq_true rfl), (Nat.le_of_ble_eq_true rfl)⟩ (fun u161 H locs q162 hP hD hS => ?_)
        obtain ⟨q162_0, q162_1⟩ := q162
        have hP : va_P g.1 vwCl [(dr3, .inl (g.2 0, 4, .inl dtold)), (h0, .inr (0, [.int dstates, .int dreally, .int ddays, .int dheal, .int dleak, .int dlines, .int dhearers, .int dwords, .int dplans, .int dnews, .ref dr0, .ref dr1, .ref dr2, .ref dr3, .ref dr4, .ref dr5, .ref dr6, .ref dr7, .ref dr8, .ref dr9]))] H := hP
        have hD : va_D A [(dr3, .inl (g.2 0, 4, .inl dtold)), (h0, .inr (0, [.int dstates, .int dreally, .int ddays, .int dheal, .int dleak, .int dlines, .int dhearers, .int dwords, .int dplans, .int dnews, .ref dr0, .ref dr1, .ref dr2, .ref dr3, .ref dr4, .ref dr5, .ref dr6, .ref dr7, .ref dr8, .ref dr9]))] := hD
        refine W.eq (g2 := F0 m 23 ls [.int (u161.1 0), .int (u159.1 0)]) rfl ?_
        refine lv_icmp_ge (tgt := 46) hx hb dX0_fewestToTell_23 (by decide) (fun c163 => ?_) (fun c163 => ?_)
        · have c163 := k_le (a := (u161.1 0).toInt) (b := (u159.1 0).toInt) rfl rfl c163
          obtain ⟨z164, e_z164⟩ : ∃ y : Int32, y = x150 + 1 := ⟨_, rfl⟩
          have t_z164 : z164.toInt = x150.toInt + 1 := by rw [e_z164]; exact addk (by decide) (by omega) (by omega)
          refine lv_iinc (v := z164) (lv' := [(2, .int z164), (1, .int x151), (0, .ref h0)]) hx hb dX0_fewestToTell_46 hl (k := 0) rfl (by rw [e_z164]; rfl) (by decide) rfl (fun ls hl => ?_)
          refine lv_goto (tgt := 7) hx hb dX0_fewestToTell_49 (by decide) ?_
          exact ih153 z164 x151 _ _ ls (by omega) (by omega) (by omega) hP hD hS (lv_sub hl [0, 1, 2] rfl)
        · have c163 := k_nle (a := (u161.1 0).toInt) (b := (u159.1 0).toInt) rfl rfl c163
          refine lv_aload_n hx hb dX0_fewestToTell_26 rfl (lv_at hl 2 rfl) ?_
          refine lv_iload_n hx hb dX0_fewestToTell_27 rfl (lv_at hl 0 rfl) ?_
          refine lv_aload_n hx hb dX0_fewestToTell_28 rfl (lv_at hl 2 rfl) ?_
          refine g_get (C := RX0) (T := TX0) (N := 20) (ci := 0) (v := .int ddays) FC hKn hP i_X0 1 rfl rfl 2 (by decide) b_4 rfl dX0_fewestToTell_29 ?_
          refine lv_iconst (v := 1) hx hb dX0_fewestToTell_32 (by decide) ?_
          refine lv_isub hx hb dX0_fewestToTell_33 ?_
          have kc1 : (1 : Int32).toInt = 1 := by decide
          refine lv_topi (fun z165 e_z165 => ?_)
          have t_z165 : z165.toInt = ddays.toInt - ((1 : Int32)).toInt := by rw [e_z165]; exact fb_subI (by omega) (by omega)
          refine call_V (As := [.int x150, .int z165]) (rest := []) (wr := []) FC hKn hZ (k_X0_knowingAfter l g h0 dr0 dr1 dr2 dr3 dr4 dr5 dr6 dr7 dr8 dr9 dstates dreally ddays dheal dleak dlines dhearers dwords dplans dnews dtold x150 z165 (by omega) (by omega) (by omega) (by omega) (by omega) (by omega) (by omega)) m_yX0_knowingAfter b_274 (ci := 0) rfl rfl rfl hP hD hS hA [1, 0] [] rfl (by decide) rfl (by decide) (by decide) rfl hl.1 rfl (Nat.le_of_ble_eq_true rfl) dX0_fewestToTell_34 ⟨(Nat.le_of_ble_eq_true rfl), (Nat.le_of_ble_eq_true rfl)⟩ ⟨(Nat.le_of_ble_eq_true rfl), (Nat.le_of_ble_eq_true rfl)⟩ (fun u166 H locs q167 hP hD hS => ?_)
          have hP : va_P g.1 vwCl [(h0, .inr (0, [.int dstates, .int dreally, .int ddays, .int dheal, .int dleak, .int dlines, .int dhearers, .int dwords, .int dplans, .int dnews, .ref dr0, .ref dr1, .ref dr2, .ref dr3, .ref dr4, .ref dr5, .ref dr6, .ref dr7, .ref dr8, .ref dr9])), (dr3, .inl (g.2 0, 4, .inl dtold))] H := hP
          have hD : va_D A [(h0, .inr (0, [.int dstates, .int dreally, .int ddays, .int dheal, .int dleak, .int dlines, .int dhearers, .int dwords, .int dplans, .int dnews, .ref dr0, .ref dr1, .ref dr2, .ref dr3, .ref dr4, .ref dr5, .ref dr6, .ref dr7, .ref dr8, .ref dr9])), (dr3, .inl (g.2 0, 4, .inl dtold))] := hD
          refine W.eq (g2 := F0 m 37 ls [.int (u166.1 0)]) rfl ?_
          refine lv_aload_n hx hb dX0_fewestToTell_37 rfl (lv_at hl 2 rfl) ?_
          refine call_V (As := []) (rest := [.int (u166.1 0)]) (wr := [(dr3, .inl (g.2 0, 4, .inl dtold))]) FC hKn hZ (k_X0_everybody l g h0 dr0 dr1 dr2 dr3 dr4 dr5 dr6 dr7 dr8 dr9 dstates dreally ddays dheal dleak dlines dhearers dwords dplans dnews (by omega) (by omega) (by omega) (by omega) (by omega) (by omega) (by omega)) m_yX0_everybody b_273 (ci := 0) rfl rfl rfl hP hD hS hA [0] [1] rfl (by decide) rfl (by decide) (by decide) rfl hl.1 rfl (Nat.le_of_ble_eq_true rfl) dX0_fewestToTell_38 ⟨(Nat.le_of_ble_eq_true rfl), (Nat.le_of_ble_eq_true rfl)⟩ ⟨(Nat.le_of_ble_eq_true rfl), (Nat.le_of_ble_eq_true rfl)⟩ (fun u168 H locs q169 hP hD hS => ?_)
          have q169_0 : 0 ≤ (u168.1 0).toInt ∧ (u168.1 0).toInt ≤ 15 := q169
          have hP : va_P g.1 vwCl [(dr3, .inl (g.2 0, 4, .inl dtold)), (h0, .inr (0, [.int dstates, .int dreally, .int ddays, .int dheal, .int dleak, .int dlines, .int dhearers, .int dwords, .int dplans, .int dnews, .ref dr0, .ref dr1, .ref dr2, .ref dr3, .ref dr4, .ref dr5, .ref dr6, .ref dr7, .ref dr8, .ref dr9]))] H := hP
          have hD : va_D A [(dr3, .inl (g.2 0, 4, .inl dtold)), (h0, .inr (0, [.int dstates, .int dreally, .int ddays, .int dheal, .int dleak, .int dlines, .int dhearers, .int dwords, .int dplans, .int dnews, .ref dr0, .ref dr1, .ref dr2, .ref dr3, .ref dr4, .ref dr5, .ref dr6, .ref dr7, .ref dr8, .ref dr9]))] := hD
          refine W.eq (g2 := F0 m 41 ls [.int (u168.1 0), .int (u166.1 0)]) rfl ?_
          refine lv_icmp_ne (tgt := 46) hx hb dX0_fewestToTell_41 (by decide) (fun c170 => ?_) (fun c170 => ?_)
          · have c170 := k_ne (a := (u166.1 0).toInt) (b := (u168.1 0).toInt) rfl rfl c170
            obtain ⟨z171, e_z171⟩ : ∃ y : Int32, y = x150 + 1 := ⟨_, rfl⟩
            have t_z171 : z171.toInt = x150.toInt + 1 := by rw [e_z171]; exact addk (by decide) (by omega) (by omega)
            refine lv_iinc (v := z171) (lv' := [(2, .int z171), (1, .int x151), (0, .ref h0)]) hx hb dX0_fewestToTell_46 hl (k := 0) rfl (by rw [e_z171]; rfl) (by decide) rfl (fun ls hl => ?_)
            refine lv_goto (tgt := 7) hx hb dX0_fewestToTell_49 (by decide) ?_
            exact ih153 z171 x151 _ _ ls (by omega) (by omega) (by omega) hP hD hS (lv_sub hl [0, 1, 2] rfl)
          · have c170 := k_eq (a := (u166.1 0).toInt) (b := (u168.1 0).toInt) rfl rfl c170
            refine lv_iload_n hx hb dX0_fewestToTell_44 rfl (lv_at hl 0 rfl) ?_
            refine lv_istore_n (lv' := [(1, .int x150), (2, .int x150), (0, .ref h0)]) hx hb dX0_fewestToTell_45 rfl hl (by decide) rfl (fun ls hl => ?_)
            obtain ⟨z172, e_z172⟩ : ∃ y : Int32, y = x150 + 1 := ⟨_, rfl⟩
            have t_z172 : z172.toInt = x150.toInt + 1 := by rw [e_z172]; exact addk (by decide) (by omega) (by omega)
            refine lv_iinc (v := z172) (lv' := [(2, .int z172), (1, .int x150), (0, .ref h0)]) hx hb dX0_fewestToTell_46 hl (k := 1) rfl (by rw [e_z172]; rfl) (by decide) rfl (fun ls hl => ?_)
            refine lv_goto (tgt := 7) hx hb dX0_fewestToTell_49 (by decide) ?_
            exact ih153 z172 x150 _ _ ls (by omega) (by omega) (by omega) hP hD hS (lv_sub hl [0, 1, 2] rfl)
  have kc0 : (0 : Int32).toInt = 0 := by decide
  exact lp152 _ (0 : Int32) (u1.1 0) _ _ ls (by decide) (by omega) (Nat.lt_succ_self _) hP hD hS (lv_sub hl [0, 1, 2] rfl)
set_option maxRecDepth 100000 in
set_option maxHeartbeats 4000000 in
theorem k_X10_take (l : Launch) (g : GG) (h0 : Nat) (wr0 : Nat) (wr1 : Nat) (wr2 : Nat) (wr3 : Nat) (wr4 : Nat) (k0 : Nat) (or0 : Nat) (d0 : Nat) (dr0 : Nat) (dr1 : Nat) (dr2 : Nat) (dr3 : Nat) (dr4 : Nat) (dr5 : Nat) (dr6 : Nat) (dr7 : Nat) (dr8 : Nat) (dr9 : Nat) (wsize : Int32) (wleastOrdered : Int32) (wfitting : Int32) (wknowingDay : Int32) (wknowingPlan : Int32) (wwords : Nat → Int32) (othere : Int32) (owidth : Int32) (osize : Int32) (onumbers : Nat → Int64) (dstates : Int32) (dreally : Int32) (ddays : Int32) (dheal : Int32) (dleak : Int32) (dlines : Int32) (dhearers : Int32) (dwords : Int32) (dplans : Int32) (dnews : Int32) (i_wsize : 0 ≤ wsize.toInt ∧ wsize.toInt ≤ 10) (i_wknowingDay : -1 ≤ wknowingDay.toInt ∧ wknowingDay.toInt ≤ 9) (i_wknowingPlan : -1 ≤ wknowingPlan.toInt ∧ wknowingPlan.toInt ≤ 31) (i_wwords : ab wwords 10 0 8) (i_othere : 0 ≤ othere.toInt ∧ othere.toInt ≤ 1) (i_owidth : 0 ≤ owidth.toInt ∧ owidth.toInt ≤ 3) (i_osize : 0 ≤ osize.toInt ∧ osize.toInt ≤ 60) (i_dstates : 0 ≤ dstates.toInt ∧ dstates.toInt ≤ 8) (i_dreally : 0 ≤ dreally.toInt ∧ dreally.toInt ≤ 7) (i_ddays : 0 ≤ ddays.toInt ∧ ddays.toInt ≤ 10) (i_dhearers : 0 ≤ dhearers.toInt ∧ dhearers.toInt ≤ 4) (i_dwords : 0 ≤ dwords.toInt ∧ dwords.toInt ≤ 8) (i_dplans : 0 ≤ dplans.toInt ∧ dplans.toInt ≤ 4) (i_dnews : 0 ≤ dnews.toInt ∧ dnews.toInt ≤ 6) : Ct l g yX10_take cX10_take 6 (some .boolean) { frames := 0, cells := 0, slots := 0, locals := 0 } [.ref h0, .ref k0, .ref d0] [(h0, .inr (10, [.ref wr0, .ref wr1, .ref wr2, .ref wr3, .ref wr4, .int wsize, .int wleastOrdered, .int wfitting, .int wknowingDay, .int wknowingPlan])), (wr0, .inl (g.2 0, 10, .inl wwords)), (k0, .inr (8, [.ref or0, .int othere, .int owidth, .int osize])), (or0, .inl (g.2 3, 60, .inr (.inl onumbers))), (d0, .inr (0, [.int dstates, .int dreally, .int ddays, .int dheal, .int dleak, .int dlines, .int dhearers, .int dwords, .int dplans, .int dnews, .ref dr0, .ref dr1, .ref dr2, .ref dr3, .ref dr4, .ref dr5, .ref dr6, .ref dr7, .ref dr8, .ref dr9]))] (S := (Nat → Int32) × (Nat → Nat → Int32) × (Nat → Nat → Int64)) (fun u => some (.int (u.1 0))) (fun u => (0 ≤ (u.1 0).toInt ∧ (u.1 0).toInt ≤ 1) ∧ (0 ≤ (u.1 1).toInt ∧ (u.1 1).toInt ≤ 10) ∧ (ab (u.2.1 0) 10 0 8)) (fun u => [(h0, .inr (10, [.ref wr0, .ref wr1, .ref wr2, .ref wr3, .ref wr4, .int (u.1 1), .int wleastOrdered, .int wfitting, .int wknowingDay, .int wknowingPlan])), (wr0, .inl (g.2 0, 10, .inl (u.2.1 0))), (k0, .inr (8, [.ref or0, .int othere, .int owidth, .int osize])), (or0, .inl (g.2 3, 60, .inr (.inl onumbers))), (d0, .inr (0, [.int dstates, .int dreally, .int ddays, .int dheal, .int dleak, .int dlines, .int dhearers, .int dwords, .int dplans, .int dnews, .ref dr0, .ref dr1, .ref dr2, .ref dr3, .ref dr4, .ref dr5, .ref dr6, .ref dr7, .ref dr8, .ref dr9]))]) := by
  refine Ct.of (by decide) (Nat.le_of_ble_eq_true rfl) ?_
  intro p e s m below meth c A ls FX hP hD hS hl
  obtain ⟨FC, hr, hlk, hKn, hA, hnm, hZ⟩ := id FX
  have FC : CallFix p m c cX10_take 6 s _ BIG RX10 := FC
  obtain ⟨hx, hb, hml, hown, hB⟩ := id FC
  have hl : lv_has ls 6 [(0, .ref h0), (1, .ref k0), (2, .ref d0)] := hl
  refine lv_aload_n hx hb dX10_take_0 rfl (lv_at hl 0 rfl) ?_
  refine lv_iconst (v := 0) hx hb dX10_take_1 (by decide) ?_
  refine g_put (C := RX10) (T := TX10) (N := 10) (ci := 10) (v := .int 0) FC hKn hP hD hS i_X10 tyX10 tyX10_ok nmX10 0 rfl rfl 5 (by decide) b_211 rfl rfl rfl (Nat.le_of_ble_eq_true rfl) dX10_take_2 (fun H locs hP hD hS => ?_)
  have hP : va_P g.1 vwCl [(h0, .inr (10, [.ref wr0, .ref wr1, .ref wr2, .ref wr3, .ref wr4, .int 0, .int wleastOrdered, .int wfitting, .int wknowingDay, .int wknowingPlan])), (wr0, .inl (g.2 0, 10, .inl wwords)), (k0, .inr (8, [.ref or0, .int othere, .int owidth, .int osize])), (or0, .inl (g.2 3, 60, .inr (.inl onumbers))), (d0, .inr (0, [.int dstates, .int dreally, .int ddays, .int dheal, .int dleak, .int dlines, .int dhearers, .int dwords, .int dplans, .int dnews, .ref dr0, .ref dr1, .ref dr2, .ref dr3, .ref dr4, .ref dr5, .ref dr6, .ref dr7, .ref dr8, .ref dr9]))] H := hP
  have hD : va_D A [(h0, .inr (10, [.ref wr0, .ref wr1, .ref wr2, .ref wr3, .ref wr4, .int 0, .int wleastOrdered, .int wfitting, .int wknowingDay, .int wknowingPlan])), (wr0, .inl (g.2 0, 10, .inl wwords)), (k0, .inr (8, [.ref or0, .int othere, .int owidth, .int osize])), (or0, .inl (g.2 3, 60, .inr (.inl onumbers))), (d0, .inr (0, [.int dstates, .int dreally, .int ddays, .int dheal, .int dleak, .int dlines, .int dhearers, .int dwords, .int dplans, .int dnews, .ref dr0, .ref dr1, .ref dr2, .ref dr3, .ref dr4, .ref dr5, .ref dr6, .ref dr7, .ref dr8, .ref dr9]))] := hD
  refine lv_aload_n hx hb dX10_take_5 rfl (lv_at hl 1 rfl) ?_
  refine g_getN (C := RX8) (T := TX8) (N := 4) (ci := 8) (v := .int osize) FC hKn hP i_X8 2 rfl rfl 3 (by decide) b_275 rfl dX10_take_6 ?_
  refine lv_aload_n hx hb dX10_take_9 rfl (lv_at hl 2 rfl) ?_
  refine g_getN (C := RX0) (T := TX0) (N := 20) (ci := 0) (v := .int ddays) FC hKn hP i_X0 4 rfl rfl 2 (by decide) b_218 rfl dX10_take_10 ?_
  refine lv_icmp_le (tgt := 18) hx hb dX10_take_13 (by decide) (fun c1 => ?_) (fun c1 => ?_)
  · have c1 := k_le (a := osize.toInt) (b := ddays.toInt) rfl rfl c1
    refine lv_iconst (v := 0) hx hb dX10_take_18 (by decide) ?_
    refine lv_istore_n (lv' := [(3, .int 0), (0, .ref h0), (1, .ref k0), (2, .ref d0)]) hx hb dX10_take_19 rfl hl (by decide) rfl (fun ls hl => ?_)
    have lp119 : ∀ (n121 : Nat) (x117 : Int32) (x118 : Nat → Int32) (H : Heap) (locs : List Loc) (ls : Array Slot), 0 ≤ x117.toInt ∧ x117.toInt ≤ 10 → ab x118 10 0 8 → (10 - x117.toInt).toNat < n121 → va_P g.1 vwCl [(h0, .inr (10, [.ref wr0, .ref wr1, .ref wr2, .ref wr3, .ref wr4, .int 0, .int wleastOrdered, .int wfitting, .int wknowingDay, .int wknowingPlan])), (wr0, .inl (g.2 0, 10, .inl x118)), (k0, .inr (8, [.ref or0, .int othere, .int owidth, .int osize])), (or0, .inl (g.2 3, 60, .inr (.inl onumbers))), (d0, .inr (0, [.int dstates, .int dreally, .int ddays, .int dheal, .int dleak, .int dlines, .int dhearers, .int dwords, .int dplans, .int dnews, .ref dr0, .ref dr1, .ref dr2, .ref dr3, .ref dr4, .ref dr5, .ref dr6, .ref dr7, .ref dr8, .ref dr9]))] H → va_D A [(h0, .inr (10, [.ref wr0, .ref wr1, .ref wr2, .ref wr3, .ref wr4, .int 0, .int wleastOrdered, .int wfitting, .int wknowingDay, .int wknowingPlan])), (wr0, .inl (g.2 0, 10, .inl x118)), (k0, .inr (8, [.ref or0, .int othere, .int owidth, .int osize])), (or0, .inl (g.2 3, 60, .inr (.inl onumbers))), (d0, .inr (0, [.int dstates, .int dreally, .int ddays, .int dheal, .int dleak, .int dlines, .int dhearers, .int dwords, .int dplans, .int dnews, .ref dr0, .ref dr1, .ref dr2, .ref dr3, .ref dr4, .ref dr5, .ref dr6, .ref dr7, .ref dr8, .ref dr9]))] → va_S A s.heap H locs → lv_has ls 6 [(3, .int x117), (0, .ref h0), (1, .ref k0), (2, .ref d0)] → W p l e { frames := 0, cells := 0, slots := 0, locals := 0 } s m ([.ref h0, .ref k0, .ref d0].toArray) below meth c H locs 0 0 (MQ below (QX (S := (Nat → Int32) × (Nat → Nat → Int32) × (Nat → Nat → Int64)) (fun u => some (.int (u.1 0))) (fun u => (0 ≤ (u.1 0).toInt ∧ (u.1 0).toInt ≤ 1) ∧ (0 ≤ (u.1 1).toInt ∧ (u.1 1).toInt ≤ 10) ∧ (ab (u.2.1 0) 10 0 8)) g (fun u => [(h0, .inr (10, [.ref wr0, .ref wr1, .ref wr2, .ref wr3, .ref wr4, .int (u.1 1), .int wleastOrdered, .int wfitting, .int wknowingDay, .int wknowingPlan])), (wr0, .inl (g.2 0, 10, .inl (u.2.1 0))), (k0, .inr (8, [.ref or0, .int othere, .int owidth, .int osize])), (or0, .inl (g.2 3, 60, .inr (.inl onumbers))), (d0, .inr (0, [.int dstates, .int dreally, .int ddays, .int dheal, .int dleak, .int dlines, .int dhearers, .int dwords, .int dplans, .int dnews, .ref dr0, .ref dr1, .ref dr2, .ref dr3, .ref dr4, .ref dr5, .ref dr6, .ref dr7, .ref dr8, .ref dr9]))]) A) ([.ref h0, .ref k0, .ref d0].toArray) s 0 0 A) (F0 m 20 ls []) := by
      intro n121
      induction n121 with
      | zero =>
        intro x117 x118 H locs ls h_x117 h_x118 hn122
        exact absurd hn122 (Nat.not_lt_zero _)
      | succ n121 ih120 =>
        intro x117 x118 H locs ls h_x117 h_x118 hn122 hP hD hS hl
        refine lv_iload_n hx hb dX10_take_20 rfl (lv_at hl 0 rfl) ?_
        refine lv_aload_n hx hb dX10_take_21 rfl (lv_at hl 2 rfl) ?_
        refine g_getN (C := RX8) (T := TX8) (N := 4) (ci := 8) (v := .int osize) FC hKn hP i_X8 2 rfl rfl 3 (by decide) b_275 rfl dX10_take_22 ?_
        refine lv_icmp_ge (tgt := 86) hx hb dX10_take_25 (by decide) (fun c123 => ?_) (fun c123 => ?_)
        · have c123 := k_le (a := osize.toInt) (b := x117.toInt) rfl rfl c123
          refine lv_aload_n hx hb dX10_take_86 rfl (lv_at hl 1 rfl) ?_
          refine lv_aload_n hx hb dX10_take_87 rfl (lv_at hl 2 rfl) ?_
          refine g_getN (C := RX8) (T := TX8) (N := 4) (ci := 8) (v := .int osize) FC hKn hP i_X8 2 rfl rfl 3 (by decide) b_275 rfl dX10_take_88 ?_
          refine g_put (C := RX10) (T := TX10) (N := 10) (ci := 10) (v := .int osize) FC hKn hP hD hS i_X10 tyX10 tyX10_ok nmX10 0 rfl rfl 5 (by decide) b_211 rfl rfl rfl (Nat.le_of_ble_eq_true rfl) dX10_take_91 (fun H locs hP hD hS => ?_)
          have hP : va_P g.1 vwCl [(h0, .inr (10, [.ref wr0, .ref wr1, .ref wr2, .ref wr3, .ref wr4, .int osize, .int wleastOrdered, .int wfitting, .int wknowingDay, .int wknowingPlan])), (wr0, .inl (g.2 0, 10, .inl x118)), (k0, .inr (8, [.ref or0, .int othere, .int owidth, .int osize])), (or0, .inl (g.2 3, 60, .inr (.inl onumbers))), (d0, .inr (0, [.int dstates, .int dreally, .int ddays, .int dheal, .int dleak, .int dlines, .int dhearers, .int dwords, .int dplans, .int dnews, .ref dr0, .ref dr1, .ref dr2, .ref dr3, .ref dr4, .ref dr5, .ref dr6, .ref dr7, .ref dr8, .ref dr9]))] H := hP
          have hD : va_D A [(h0, .inr (10, [.ref wr0, .ref wr1, .ref wr2, .ref wr3, .ref wr4, .int osize, .int wleastOrdered, .int wfitting, .int wknowingDay, .int wknowingPlan])), (wr0, .inl (g.2 0, 10, .inl x118)), (k0, .inr (8, [.ref or0, .int othere, .int owidth, .int osize])), (or0, .inl (g.2 3, 60, .inr (.inl onumbers))), (d0, .inr (0, [.int dstates, .int dreally, .int ddays, .int dheal, .int dleak, .int dlines, .int dhearers, .int dwords, .int dplans, .int dnews, .ref dr0, .ref dr1, .ref dr2, .ref dr3, .ref dr4, .ref dr5, .ref dr6, .ref dr7, .ref dr8, .ref dr9]))] := hD
          refine lv_iconst (v := 1) hx hb dX10_take_94 (by decide) ?_
          exact rt_z FX rfl ((fun k => match k with | 0 => (1 : Int32) | 1 => osize | _ => 0), (fun k => match k with | 0 => x118 | _ => fun _ => 0), (fun _ => fun _ => 0)) rfl ⟨(show 0 ≤ ((1 : Int32)).toInt ∧ ((1 : Int32)).toInt ≤ 1 by decide), (show 0 ≤ osize.toInt ∧ osize.toInt ≤ 10 by omega), h_x118⟩ (hP.sub [0, 1, 2, 3, 4] rfl) (hD.sub [0, 1, 2, 3, 4] (by decide) rfl) hS (Nat.le_of_ble_eq_true rfl) (Nat.le_of_ble_eq_true rfl) dX10_take_95
        · have c123 := k_nle (a := osize.toInt) (b := x117.toInt) rfl rfl c123
          refine lv_iload_n hx hb dX10_take_28 rfl (lv_at hl 0 rfl) ?_
          refine lv_bipush (v := 10) hx hb dX10_take_29 (by decide) ?_
          refine lv_icmp_ge (tgt := 86) hx hb dX10_take_31 (by decide) (fun c124 => ?_) (fun c124 => ?_)
          · have c124 := k_le (a := 10) (b := x117.toInt) (by decide) rfl c124
            exfalso; omega
          · have c124 := k_nle (a := 10) (b := x117.toInt) (by decide) rfl c124
            refine lv_aload_n hx hb dX10_take_34 rfl (lv_at hl 2 rfl) ?_
            refine g_getN (C := RX8) (T := TX8) (N := 4) (ci := 8) (v := .ref or0) FC hKn hP i_X8 2 rfl rfl 0 (by decide) b_276 rfl dX10_take_35 ?_
            refine lv_iload_n hx hb dX10_take_38 rfl (lv_at hl 0 rfl) ?_
            refine va_lald hx hb hKn.1 hP 3 3 rfl rfl (vp_in_iff.mpr ⟨by omega, by omega⟩) dX10_take_39 ?_
            refine lv_topl (fun z125 e_z125 => ?_)
            refine lv_lstore (lv' := [(4, .long z125), (3, .int x117), (0, .ref h0), (1, .ref k0), (2, .ref d0)]) hx hb dX10_take_40 hl (by decide) rfl (fun ls hl => ?_)
            refine lv_lload hx hb dX10_take_42 (lv_at hl 0 rfl) ?_
            refine lv_ldc2 hx hb hown (hB _ b_277) dX10_take_44 ?_
            refine W.lcmp hx hb dX10_take_47 ?_
            refine lv_if_eq (tgt := 71) hx hb dX10_take_48 (by decide) (fun c126 => ?_) (fun c126 => ?_)
            · have c126 := k_eq (a := (lg_cmp z125 8).toInt) (b := 0) rfl (by decide) c126
              have c126 := kc_eqT c126
              have kLc126 : (8 : Int64).toInt = 8 := by decide
              refine lv_aload_n hx hb dX10_take_71 rfl (lv_at hl 2 rfl) ?_
              refine g_get (C := RX10) (T := TX10) (N := 10) (ci := 10) (v := .ref wr0) FC hKn hP i_X10 0 rfl rfl 0 (by decide) b_212 rfl dX10_take_72 ?_
              refine lv_iload_n hx hb dX10_take_75 rfl (lv_at hl 1 rfl) ?_
              refine lv_lload hx hb dX10_take_76 (lv_at hl 0 rfl) ?_
              refine lv_l2i hx hb dX10_take_78 rfl ?_
              refine lv_topi (fun z127 e_z127 => ?_)
              have t_z127 : z127.toInt = z125.toInt := by rw [e_z127]; exact l2i_b (by omega) (by omega)
              refine va_iast hx hb hKn.1 hP hD hS 1 0 rfl rfl (vp_in_iff.mpr ⟨by omega, by omega⟩) dX10_take_79 (fun H locs hP hD hS => ?_)
              have hP : va_P g.1 vwCl [(h0, .inr (10, [.ref wr0, .ref wr1, .ref wr2, .ref wr3, .ref wr4, .int 0, .int wleastOrdered, .int wfitting, .int wknowingDay, .int wknowingPlan])), (wr0, .inl (g.2 0, 10, .inl (upd x118 (x117.toNatClampNeg) z127))), (k0, .inr (8, [.ref or0, .int othere, .int owidth, .int osize])), (or0, .inl (g.2 3, 60, .inr (.inl onumbers))), (d0, .inr (0, [.int dstates, .int dreally, .int ddays, .int dheal, .int dleak, .int dlines, .int dhearers, .int dwords, .int dplans, .int dnews, .ref dr0, .ref dr1, .ref dr2, .ref dr3, .ref dr4, .ref dr5, .ref dr6, .ref dr7, .ref dr8, .ref dr9]))] H := hP
              have hD : va_D A [(h0, .inr (10, [.ref wr0, .ref wr1, .ref wr2, .ref wr3, .ref wr4, .int 0, .int wleastOrdered, .int wfitting, .int wknowingDay, .int wknowingPlan])), (wr0, .inl (g.2 0, 10, .inl (upd x118 (x117.toNatClampNeg) z127))), (k0, .inr (8, [.ref or0, .int othere, .int owidth, .int osize])), (or0, .inl (g.2 3, 60, .inr (.inl onumbers))), (d0, .inr (0, [.int dstates, .int dreally, .int ddays, .int dheal, .int dleak, .int dlines, .int dhearers, .int dwords, .int dplans, .int dnews, .ref dr0, .ref dr1, .ref dr2, .ref dr3, .ref dr4, .ref dr5, .ref dr6, .ref dr7, .ref dr8, .ref dr9]))] := hD
              have a_f128 : ab (upd x118 (x117.toNatClampNeg) z127) 10 0 8 := ab_upd h_x118 (by omega) (by omega)
              generalize (upd x118 (x117.toNatClampNeg) z127 : Nat → Int32) = f128 at hP hD a_f128
              obtain ⟨z129, e_z129⟩ : ∃ y : Int32, y = x117 + 1 := ⟨_, rfl⟩
              have t_z129 : z129.toInt = x117.toInt + 1 := by rw [e_z129]; exact addk (by decide) (by omega) (by omega)
              refine lv_iinc (v := z129) (lv' := [(3, .int z129), (4, .long z125), (0, .ref h0), (1, .ref k0), (2, .ref d0)]) hx hb dX10_take_80 hl (k := 1) rfl (by rw [e_z129]; rfl) (by decide) rfl (fun ls hl => ?_)
              refine lv_goto (tgt := 20) hx hb dX10_take_83 (by decide) ?_
              exact ih120 z129 f128 _ _ ls (by omega) a_f128 (by omega) hP hD hS (lv_sub hl [0, 2, 3, 4] rfl)
            · have c126 := k_ne (a := (lg_cmp z125 8).toInt) (b := 0) rfl (by decide) c126
              have c126 := kc_eqF c126
              have kLc126 : (8 : Int64).toInt = 8 := by decide
              refine lv_lload hx hb dX10_take_51 (lv_at hl 0 rfl) ?_
              refine lv_lconst (v := 0) hx hb dX10_take_53 (by decide) ?_
              refine W.lcmp hx hb dX10_take_54 ?_
              refine lv_if_lt (tgt := 69) hx hb dX10_take_55 (by decide) (fun c130 => ?_) (fun c130 => ?_)
              · have c130 := k_lt (a := (lg_cmp z125 0).toInt) (b := 0) rfl (by decide) c130
                have c130 := kc_ltT c130
                have kLc130 : (0 : Int64).toInt = 0 := by decide
                refine lv_iconst (v := 0) hx hb dX10_take_69 (by decide) ?_
                exact rt_z FX rfl ((fun k => match k with | 0 => (0 : Int32) | 1 => (0 : Int32) | _ => 0), (fun k => match k with | 0 => x118 | _ => fun _ => 0), (fun _ => fun _ => 0)) rfl ⟨(show 0 ≤ ((0 : Int32)).toInt ∧ ((0 : Int32)).toInt ≤ 1 by decide), (show 0 ≤ ((0 : Int32)).toInt ∧ ((0 : Int32)).toInt ≤ 10 by decide), h_x118⟩ (hP.sub [0, 1, 2, 3, 4] rfl) (hD.sub [0, 1, 2, 3, 4] (by decide) rfl) hS (Nat.le_of_ble_eq_true rfl) (Nat.le_of_ble_eq_true rfl) dX10_take_70
              · have c130 := k_nlt (a := (lg_cmp z125 0).toInt) (b := 0) rfl (by decide) c130
                have c130 := kc_ltF c130
                have kLc130 : (0 : Int64).toInt = 0 := by decide
                refine lv_lload hx hb dX10_take_58 (lv_at hl 0 rfl) ?_
                refine lv_aload_n hx hb dX10_take_60 rfl (lv_at hl 4 rfl) ?_
                refine g_getN (C := RX0) (T := TX0) (N := 20) (ci := 0) (v := .int dwords) FC hKn hP i_X0 4 rfl rfl 7 (by decide) b_278 rfl dX10_take_61 ?_
                refine lv_i2l (v := dwords.toInt64) hx hb dX10_take_64 rfl ?_
                refine lv_topl (fun z131 e_z131 => ?_)
                have t_z131 : z131.toInt = dwords.toInt := by rw [e_z131]; exact Int32.toInt_toInt64 _
                refine W.lcmp hx hb dX10_take_65 ?_
                refine lv_if_lt (tgt := 71) hx hb dX10_take_66 (by decide) (fun c132 => ?_) (fun c132 => ?_)
                · have c132 := k_lt (a := (lg_cmp z125 z131).toInt) (b := 0) rfl (by decide) c132
                  have c132 := kc_ltT c132
                  refine lv_aload_n hx hb dX10_take_71 rfl (lv_at hl 2 rfl) ?_
                  refine g_get (C := RX10) (T := TX10) (N := 10) (ci := 10) (v := .ref wr0) FC hKn hP i_X10 0 rfl rfl 0 (by decide) b_212 rfl dX10_take_72 ?_
                  refine lv_iload_n hx hb dX10_take_75 rfl (lv_at hl 1 rfl) ?_
                  refine lv_lload hx hb dX10_take_76 (lv_at hl 0 rfl) ?_
                  refine lv_l2i hx hb dX10_take_78 rfl ?_
                  refine lv_topi (fun z133 e_z133 => ?_)
                  have t_z133 : z133.toInt = z125.toInt := by rw [e_z133]; exact l2i_b (by omega) (by omega)
                  refine va_iast hx hb hKn.1 hP hD hS 1 0 rfl rfl (vp_in_iff.mpr ⟨by omega, by omega⟩) dX10_take_79 (fun H locs hP hD hS => ?_)
                  have hP : va_P g.1 vwCl [(h0, .inr (10, [.ref wr0, .ref wr1, .ref wr2, .ref wr3, .ref wr4, .int 0, .int wleastOrdered, .int wfitting, .int wknowingDay, .int wknowingPlan])), (wr0, .inl (g.2 0, 10, .inl (upd x118 (x117.toNatClampNeg) z133))), (k0, .inr (8, [.ref or0, .int othere, .int owidth, .int osize])), (or0, .inl (g.2 3, 60, .inr (.inl onumbers))), (d0, .inr (0, [.int dstates, .int dreally, .int ddays, .int dheal, .int dleak, .int dlines, .int dhearers, .int dwords, .int dplans, .int dnews, .ref dr0, .ref dr1, .ref dr2, .ref dr3, .ref dr4, .ref dr5, .ref dr6, .ref dr7, .ref dr8, .ref dr9]))] H := hP
                  have hD : va_D A [(h0, .inr (10, [.ref wr0, .ref wr1, .ref wr2, .ref wr3, .ref wr4, .int 0, .int wleastOrdered, .int wfitting, .int wknowingDay, .int wknowingPlan])), (wr0, .inl (g.2 0, 10, .inl (upd x118 (x117.toNatClampNeg) z133))), (k0, .inr (8, [.ref or0, .int othere, .int owidth, .int osize])), (or0, .inl (g.2 3, 60, .inr (.inl onumbers))), (d0, .inr (0, [.int dstates, .int dreally, .int ddays, .int dheal, .int dleak, .int dlines, .int dhearers, .int dwords, .int dplans, .int dnews, .ref dr0, .ref dr1, .ref dr2, .ref dr3, .ref dr4, .ref dr5, .ref dr6, .ref dr7, .ref dr8, .ref dr9]))] := hD
                  have a_f134 : ab (upd x118 (x117.toNatClampNeg) z133) 10 0 8 := ab_upd h_x118 (by omega) (by omega)
                  generalize (upd x118 (x117.toNatClampNeg) z133 : Nat → Int32) = f134 at hP hD a_f134
                  obtain ⟨z135, e_z135⟩ : ∃ y : Int32, y = x117 + 1 := ⟨_, rfl⟩
                  have t_z135 : z135.toInt = x117.toInt + 1 := by rw [e_z135]; exact addk (by decide) (by omega) (by omega)
                  refine lv_iinc (v := z135) (lv' := [(3, .int z135), (4, .long z125), (0, .ref h0), (1, .ref k0), (2, .ref d0)]) hx hb dX10_take_80 hl (k := 1) rfl (by rw [e_z135]; rfl) (by decide) rfl (fun ls hl => ?_)
                  refine lv_goto (tgt := 20) hx hb dX10_take_83 (by decide) ?_
                  exact ih120 z135 f134 _ _ ls (by omega) a_f134 (by omega) hP hD hS (lv_sub hl [0, 2, 3, 4] rfl)
                · have c132 := k_nlt (a := (lg_cmp z125 z131).toInt) (b := 0) rfl (by decide) c132
                  have c132 := kc_ltF c132
                  refine lv_iconst (v := 0) hx hb dX10_take_69 (by decide) ?_
                  exact rt_z FX rfl ((fun k => match k with | 0 => (0 : Int32) | 1 => (0 : Int32) | _ => 0), (fun k => match k with | 0 => x118 | _ => fun _ => 0), (fun _ => fun _ => 0)) rfl ⟨(show 0 ≤ ((0 : Int32)).toInt ∧ ((0 : Int32)).toInt ≤ 1 by decide), (show 0 ≤ ((0 : Int32)).toInt ∧ ((0 : Int32)).toInt ≤ 10 by decide), h_x118⟩ (hP.sub [0, 1, 2, 3, 4] rfl) (hD.sub [0, 1, 2, 3, 4] (by decide) rfl) hS (Nat.le_of_ble_eq_true rfl) (Nat.le_of_ble_eq_true rfl) dX10_take_70
    have kc0 : (0 : Int32).toInt = 0 := by decide
    exact lp119 _ (0 : Int32) wwords _ _ ls (by decide) i_wwords (Nat.lt_succ_self _) hP hD hS (lv_sub hl [0, 1, 2, 3] rfl)
  · have c1 := k_nle (a := osize.toInt) (b := ddays.toInt) rfl rfl c1
    refine lv_iconst (v := 0) hx hb dX10_take_16 (by decide) ?_
    exact rt_z FX rfl ((fun k => match k with | 0 => (0 : Int32) | 1 => (0 : Int32) | _ => 0), (fun k => match k with | 0 => wwords | _ => fun _ => 0), (fun _ => fun _ => 0)) rfl ⟨(show 0 ≤ ((0 : Int32)).toInt ∧ ((0 : Int32)).toInt ≤ 1 by decide), (show 0 ≤ ((0 : Int32)).toInt ∧ ((0 : Int32)).toInt ≤ 10 by decide), i_wwords⟩ (hP.sub [0, 1, 2, 3, 4] rfl) (hD.sub [0, 1, 2, 3, 4] (by decide) rfl) hS (Nat.le_of_ble_eq_true rfl) (Nat.le_of_ble_eq_true rfl) dX10_take_17
set_option maxRecDepth 100000 in
set_option maxHeartbeats 4000000 in
theorem k_X10_reckon (l : Launch) (g : GG) (h0 : Nat) (wr0 : Nat) (wr1 : Nat) (wr2 : Nat) (wr3 : Nat) (wr4 : Nat) (d0 : Nat) (dr0 : Nat) (dr1 : Nat) (dr2 : Nat) (dr3 : Nat) (dr4 : Nat) (dr5 : Nat) (dr6 : Nat) (dr7 : Nat) (dr8 : Nat) (dr9 : Nat) (wsize : Int32) (wleastOrdered : Int32) (wfitting : Int32) (wknowingDay : Int32) (wknowingPlan : Int32) (wwords : Nat → Int32) (dstates : Int32) (dreally : Int32) (ddays : Int32) (dheal : Int32) (dleak : Int32) (dlines : Int32) (dhearers : Int32) (dwords : Int32) (dplans : Int32) (dnews : Int32) (dplanSizes : Nat → Int32) (dplanWords : Nat → Int32) (p2 : Int32) (i_wsize : 0 ≤ wsize.toInt ∧ wsize.toInt ≤ 10) (i_wknowingDay : -1 ≤ wknowingDay.toInt ∧ wknowingDay.toInt ≤ 9) (i_wknowingPlan : -1 ≤ wknowingPlan.toInt ∧ wknowingPlan.toInt ≤ 31) (i_wwords : ab wwords 10 0 8) (i_dstates : 0 ≤ dstates.toInt ∧ dstates.toInt ≤ 8) (i_dreally : 0 ≤ dreally.toInt ∧ dreally.toInt ≤ 7) (i_ddays : 0 ≤ ddays.toInt ∧ ddays.toInt ≤ 10) (i_dhearers : 0 ≤ dhearers.toInt ∧ dhearers.toInt ≤ 4) (i_dwords : 0 ≤ dwords.toInt ∧ dwords.toInt ≤ 8) (i_dplans : 0 ≤ dplans.toInt ∧ dplans.toInt ≤ 4) (i_dnews : 0 ≤ dnews.toInt ∧ dnews.toInt ≤ 6) (i_dplanSizes : ab dplanSizes 4 0 5) : Ct l g yX10_reckon cX10_reckon 6 none { frames := 2, cells := 0, slots := 0, locals := 47 } [.ref h0, .ref d0, .int p2] [(h0, .inr (10, [.ref wr0, .ref wr1, .ref wr2, .ref wr3, .ref wr4, .int wsize, .int wleastOrdered, .int wfitting, .int wknowingDay, .int wknowingPlan])), (wr0, .inl (g.2 0, 10, .inl wwords)), (d0, .inr (0, [.int dstates, .int dreally, .int ddays, .int dheal, .int dleak, .int dlines, .int dhearers, .int dwords, .int dplans, .int dnews, .ref dr0, .ref dr1, .ref dr2, .ref dr3, .ref dr4, .ref dr5, .ref dr6, .ref dr7, .ref dr8, .ref dr9])), (dr6, .inl (g.2 0, 4, .inl dplanSizes)), (dr7, .inl (g.2 0, 20, .inl dplanWords))] (S := (Nat → Int32) × (Nat → Nat → Int32) × (Nat → Nat → Int64)) (fun _ => none) (fun u => (0 ≤ (u.1 1).toInt ∧ (u.1 1).toInt ≤ 15) ∧ (-1 ≤ (u.1 2).toInt ∧ (u.1 2).toInt ≤ 9) ∧ (-1 ≤ (u.1 3).toInt ∧ (u.1 3).toInt ≤ 3) ∧ ((u.1 2).toInt ≠ -1 → 0 ≤ (u.1 3).toInt)) (fun u => [(h0, .inr (10, [.ref wr0, .ref wr1, .ref wr2, .ref wr3, .ref wr4, .int wsize, .int wleastOrdered, .int (u.1 1), .int (u.1 2), .int (u.1 3)])), (wr0, .inl (g.2 0, 10, .inl wwords)), (d0, .inr (0, [.int dstates, .int dreally, .int ddays, .int dheal, .int dleak, .int dlines, .int dhearers, .int dwords, .int dplans, .int dnews, .ref dr0, .ref dr1, .ref dr2, .ref dr3, .ref dr4, .ref dr5, .ref dr6, .ref dr7, .ref dr8, .ref dr9])), (dr6, .inl (g.2 0, 4, .inl dplanSizes)), (dr7, .inl (g.2 0, 20, .inl dplanWords))]) := by
  refine Ct.of (by decide) (Nat.le_of_ble_eq_true rfl) ?_
  intro p e s m below meth c A ls FX hP hD hS hl
  obtain ⟨FC, hr, hlk, hKn, hA, hnm, hZ⟩ := id FX
  have FC : CallFix p m c cX10_reckon 6 s _ BIG RX10 := FC
  obtain ⟨hx, hb, hml, hown, hB⟩ := id FC
  have hl : lv_has ls 6 [(0, .ref h0), (1, .ref d0), (2, .int p2)] := hl
  refine lv_aload_n hx hb dX10_reckon_0 rfl (lv_at hl 0 rfl) ?_
  refine lv_iconst (v := 1) hx hb dX10_reckon_1 (by decide) ?_
  refine lv_aload_n hx hb dX10_reckon_2 rfl (lv_at hl 1 rfl) ?_
  refine g_getN (C := RX0) (T := TX0) (N := 20) (ci := 0) (v := .int dplans) FC hKn hP i_X0 2 rfl rfl 8 (by decide) b_279 rfl dX10_reckon_3 ?_
  refine lv_ishl hx hb dX10_reckon_6 ?_
  refine lv_topi (fun z1 e_z1 => ?_)
  have t_z1 : 1 ≤ z1.toInt ∧ z1.toInt ≤ 16 := by rw [e_z1]; exact shl_b (n := 4) (by omega) (by omega) (by decide)
  refine lv_iconst (v := 1) hx hb dX10_reckon_7 (by decide) ?_
  refine lv_isub hx hb dX10_reckon_8 ?_
  have kc1 : (1 : Int32).toInt = 1 := by decide
  refine lv_topi (fun z2 e_z2 => ?_)
  have t_z2 : z2.toInt = z1.toInt - ((1 : Int32)).toInt := by rw [e_z2]; exact fb_subI (by omega) (by omega)
  refine g_put (C := RX10) (T := TX10) (N := 10) (ci := 10) (v := .int z2) FC hKn hP hD hS i_X10 tyX10 tyX10_ok nmX10 0 rfl rfl 7 (by decide) b_280 rfl rfl rfl (Nat.le_of_ble_eq_true rfl) dX10_reckon_9 (fun H locs hP hD hS => ?_)
  have hP : va_P g.1 vwCl [(h0, .inr (10, [.ref wr0, .ref wr1, .ref wr2, .ref wr3, .ref wr4, .int wsize, .int wleastOrdered, .int z2, .int wknowingDay, .int wknowingPlan])), (wr0, .inl (g.2 0, 10, .inl wwords)), (d0, .inr (0, [.int dstates, .int dreally, .int ddays, .int dheal, .int dleak, .int dlines, .int dhearers, .int dwords, .int dplans, .int dnews, .ref dr0, .ref dr1, .ref dr2, .ref dr3, .ref dr4, .ref dr5, .ref dr6, .ref dr7, .ref dr8, .ref dr9])), (dr6, .inl (g.2 0, 4, .inl dplanSizes)), (dr7, .inl (g.2 0, 20, .inl dplanWords))] H := hP
  have hD : va_D A [(h0, .inr (10, [.ref wr0, .ref wr1, .ref wr2, .ref wr3, .ref wr4, .int wsize, .int wleastOrdered, .int z2, .int wknowingDay, .int wknowingPlan])), (wr0, .inl (g.2 0, 10, .inl wwords)), (d0, .inr (0, [.int dstates, .int dreally, .int ddays, .int dheal, .int dleak, .int dlines, .int dhearers, .int dwords, .int dplans, .int dnews, .ref dr0, .ref dr1, .ref dr2, .ref dr3, .ref dr4, .ref dr5, .ref dr6, .ref dr7, .ref dr8, .ref dr9])), (dr6, .inl (g.2 0, 4, .inl dplanSizes)), (dr7, .inl (g.2 0, 20, .inl dplanWords))] := hD
  refine lv_aload_n hx hb dX10_reckon_12 rfl (lv_at hl 0 rfl) ?_
  refine lv_iconst (v := -1) hx hb dX10_reckon_13 (by decide) ?_
  refine g_put (C := RX10) (T := TX10) (N := 10) (ci := 10) (v := .int (-1)) FC hKn hP hD hS i_X10 tyX10 tyX10_ok nmX10 0 rfl rfl 8 (by decide) b_281 rfl rfl rfl (Nat.le_of_ble_eq_true rfl) dX10_reckon_14 (fun H locs hP hD hS => ?_)
  have hP : va_P g.1 vwCl [(h0, .inr (10, [.ref wr0, .ref wr1, .ref wr2, .ref wr3, .ref wr4, .int wsize, .int wleastOrdered, .int z2, .int (-1), .int wknowingPlan])), (wr0, .inl (g.2 0, 10, .inl wwords)), (d0, .inr (0, [.int dstates, .int dreally, .int ddays, .int dheal, .int dleak, .int dlines, .int dhearers, .int dwords, .int dplans, .int dnews, .ref dr0, .ref dr1, .ref dr2, .ref dr3, .ref dr4, .ref dr5, .ref dr6, .ref dr7, .ref dr8, .ref dr9])), (dr6, .inl (g.2 0, 4, .inl dplanSizes)), (dr7, .inl (g.2 0, 20, .inl dplanWords))] H := hP
  have hD : va_D A [(h0, .inr (10, [.ref wr0, .ref wr1, .ref wr2, .ref wr3, .ref wr4, .int wsize, .int wleastOrdered, .int z2, .int (-1), .int wknowingPlan])), (wr0, .inl (g.2 0, 10, .inl wwords)), (d0, .inr (0, [.int dstates, .int dreally, .int ddays, .int dheal, .int dleak, .int dlines, .int dhearers, .int dwords, .int dplans, .int dnews, .ref dr0, .ref dr1, .ref dr2, .ref dr3, .ref dr4, .ref dr5, .ref dr6, .ref dr7, .ref dr8, .ref dr9])), (dr6, .inl (g.2 0, 4, .inl dplanSizes)), (dr7, .inl (g.2 0, 20, .inl dplanWords))] := hD
  refine lv_aload_n hx hb dX10_reckon_17 rfl (lv_at hl 0 rfl) ?_
  refine lv_iconst (v := -1) hx hb dX10_reckon_18 (by decide) ?_
  refine g_put (C := RX10) (T := TX10) (N := 10) (ci := 10) (v := .int (-1)) FC hKn hP hD hS i_X10 tyX10 tyX10_ok nmX10 0 rfl rfl 9 (by decide) b_282 rfl rfl rfl (Nat.le_of_ble_eq_true rfl) dX10_reckon_19 (fun H locs hP hD hS => ?_)
  have hP : va_P g.1 vwCl [(h0, .inr (10, [.ref wr0, .ref wr1, .ref wr2, .ref wr3, .ref wr4, .int wsize, .int wleastOrdered, .int z2, .int (-1), .int (-1)])), (wr0, .inl (g.2 0, 10, .inl wwords)), (d0, .inr (0, [.int dstates, .int dreally, .int ddays, .int dheal, .int dleak, .int dlines, .int dhearers, .int dwords, .int dplans, .int dnews, .ref dr0, .ref dr1, .ref dr2, .ref dr3, .ref dr4, .ref dr5, .ref dr6, .ref dr7, .ref dr8, .ref dr9])), (dr6, .inl (g.2 0, 4, .inl dplanSizes)), (dr7, .inl (g.2 0, 20, .inl dplanWords))] H := hP
  have hD : va_D A [(h0, .inr (10, [.ref wr0, .ref wr1, .ref wr2, .ref wr3, .ref wr4, .int wsize, .int wleastOrdered, .int z2, .int (-1), .int (-1)])), (wr0, .inl (g.2 0, 10, .inl wwords)), (d0, .inr (0, [.int dstates, .int dreally, .int ddays, .int dheal, .int dleak, .int dlines, .int dhearers, .int dwords, .int dplans, .int dnews, .ref dr0, .ref dr1, .ref dr2, .ref dr3, .ref dr4, .ref dr5, .ref dr6, .ref dr7, .ref dr8, .ref dr9])), (dr6, .inl (g.2 0, 4, .inl dplanSizes)), (dr7, .inl (g.2 0, 20, .inl dplanWords))] := hD
  refine lv_iconst (v := 0) hx hb dX10_reckon_22 (by decide) ?_
  refine lv_istore_n (lv' := [(3, .int 0), (0, .ref h0), (1, .ref d0), (2, .int p2)]) hx hb dX10_reckon_23 rfl hl (by decide) rfl (fun ls hl => ?_)
  refine lv_iconst (v := 0) hx hb dX10_reckon_24 (by decide) ?_
  refine lv_istore (lv' := [(4, .int 0), (3, .int 0), (0, .ref h0), (1, .ref d0), (2, .int p2)]) hx hb dX10_reckon_25 hl (by decide) rfl (fun ls hl => ?_)
  have lp221 : ∀ (n223 : Nat) (x215 : Int32) (x216 : Int32) (x217 : Int32) (x218 : Int32) (x219 : Int32) (H : Heap) (locs : List Loc) (ls : Array Slot), 0 ≤ x215.toInt ∧ x215.toInt ≤ 10 → 0 ≤ x217.toInt ∧ x217.toInt ≤ 15 → -1 ≤ x218.toInt ∧ x218.toInt ≤ 9 → -1 ≤ x219.toInt ∧ x219.toInt ≤ 3 → (x218.toInt ≠ -1 → 0 ≤ x219.toInt) → (10 - x215.toInt).toNat < n223 → va_P g.1 vwCl [(h0, .inr (10, [.ref wr0, .ref wr1, .ref wr2, .ref wr3, .ref wr4, .int wsize, .int wleastOrdered, .int x217, .int x218, .int x219])), (wr0, .inl (g.2 0, 10, .inl wwords)), (d0, .inr (0, [.int dstates, .int dreally, .int ddays, .int dheal, .int dleak, .int dlines, .int dhearers, .int dwords, .int dplans, .int dnews, .ref dr0, .ref dr1, .ref dr2, .ref dr3, .ref dr4, .ref dr5, .ref dr6, .ref dr7, .ref dr8, .ref dr9])), (dr6, .inl (g.2 0, 4, .inl dplanSizes)), (dr7, .inl (g.2 0, 20, .inl dplanWords))] H → va_D A [(h0, .inr (10, [.ref wr0, .ref wr1, .ref wr2, .ref wr3, .ref wr4, .int wsize, .int wleastOrdered, .int x217, .int x218, .int x219])), (wr0, .inl (g.2 0, 10, .inl wwords)), (d0, .inr (0, [.int dstates, .int dreally, .int ddays, .int dheal, .int dleak, .int dlines, .int dhearers, .int dwords, .int dplans, .int dnews, .ref dr0, .ref dr1, .ref dr2, .ref dr3, .ref dr4, .ref dr5, .ref dr6, .ref dr7, .ref dr8, .ref dr9])), (dr6, .inl (g.2 0, 4, .inl dplanSizes)), (dr7, .inl (g.2 0, 20, .inl dplanWords))] → va_S A s.heap H locs → lv_has ls 6 [(4, .int x215), (3, .int x216), (0, .ref h0), (1, .ref d0), (2, .int p2)] → W p l e { frames := 2, cells := 0, slots := 0, locals := 47 } s m ([.ref h0, .ref d0, .int p2].toArray) below meth c H locs 0 0 (MQ below (QX (S := (Nat → Int32) × (Nat → Nat → Int32) × (Nat → Nat → Int64)) (fun _ => none) (fun u => (0 ≤ (u.1 1).toInt ∧ (u.1 1).toInt ≤ 15) ∧ (-1 ≤ (u.1 2).toInt ∧ (u.1 2).toInt ≤ 9) ∧ (-1 ≤ (u.1 3).toInt ∧ (u.1 3).toInt ≤ 3) ∧ ((u.1 2).toInt ≠ -1 → 0 ≤ (u.1 3).toInt)) g (fun u => [(h0, .inr (10, [.ref wr0, .ref wr1, .ref wr2, .ref wr3, .ref wr4, .int wsize, .int wleastOrdered, .int (u.1 1), .int (u.1 2), .int (u.1 3)])), (wr0, .inl (g.2 0, 10, .inl wwords)), (d0, .inr (0, [.int dstates, .int dreally, .int ddays, .int dheal, .int dleak, .int dlines, .int dhearers, .int dwords, .int dplans, .int dnews, .ref dr0, .ref dr1, .ref dr2, .ref dr3, .ref dr4, .ref dr5, .ref dr6, .ref dr7, .ref dr8, .ref dr9])), (dr6, .inl (g.2 0, 4, .inl dplanSizes)), (dr7, .inl (g.2 0, 20, .inl dplanWords))]) A) ([.ref h0, .ref d0, .int p2].toArray) s 0 0 A) (F0 m 27 ls []) := by
    intro n223
    induction n223 with
    | zero =>
      intro x215 x216 x217 x218 x219 H locs ls h_x215 h_x217 h_x218 h_x219 hi220 hn224
      exact absurd hn224 (Nat.not_lt_zero _)
    | succ n223 ih222 =>
      intro x215 x216 x217 x218 x219 H locs ls h_x215 h_x217 h_x218 h_x219 hi220 hn224 hP hD hS hl
      refine lv_iload hx hb dX10_reckon_27 (lv_at hl 0 rfl) ?_
      refine lv_aload_n hx hb dX10_reckon_29 rfl (lv_at hl 2 rfl) ?_
      refine g_get (C := RX10) (T := TX10) (N := 10) (ci := 10) (v := .int wsize) FC hKn hP i_X10 0 rfl rfl 5 (by decide) b_211 rfl dX10_reckon_30 ?_
      refine lv_icmp_ge (tgt := 134) hx hb dX10_reckon_33 (by decide) (fun c225 => ?_) (fun c225 => ?_)
      · have c225 := k_le (a := wsize.toInt) (b := x215.toInt) rfl rfl c225
        exact rt_v FX ((fun k => match k with | 0 => 0 | 1 => x217 | 2 => x218 | 3 => x219 | _ => 0), (fun _ => fun _ => 0), (fun _ => fun _ => 0)) rfl ⟨(show 0 ≤ x217.toInt ∧ x217.toInt ≤ 15 by omega), (show -1 ≤ x218.toInt ∧ x218.toInt ≤ 9 by omega), (show -1 ≤ x219.toInt ∧ x219.toInt ≤ 3 by omega), (show (x218).toInt ≠ -1 → 0 ≤ (x219).toInt by omega)⟩ (hP.sub [0, 1, 2, 3, 4] rfl) (hD.sub [0, 1, 2, 3, 4] (by decide) rfl) hS (Nat.le_of_ble_eq_true rfl) (Nat.le_of_ble_eq_true rfl) dX10_reckon_134
      · have c225 := k_nle (a := wsize.toInt) (b := x215.toInt) rfl rfl c225
        refine lv_aload_n hx hb dX10_reckon_36 rfl (lv_at hl 2 rfl) ?_
        refine g_get (C := RX10) (T := TX10) (N := 10) (ci := 10) (v := .ref wr0) FC hKn hP i_X10 0 rfl rfl 0 (by decide) b_212 rfl dX10_reckon_37 ?_
        refine lv_iload hx hb dX10_reckon_40 (lv_at hl 0 rfl) ?_
        refine va_iald hx hb hKn.1 hP 1 0 rfl rfl (vp_in_iff.mpr ⟨by omega, by omega⟩) dX10_reckon_42 ?_
        refine lv_topi (fun z226 e_z226 => ?_)
        have t_z226 : 0 ≤ z226.toInt ∧ z226.toInt ≤ 8 := by rw [e_z226]; exact i_wwords _ (clt (by omega) (by omega))
        refine lv_bipush (v := 8) hx hb dX10_reckon_43 (by decide) ?_
        refine lv_icmp_eq (tgt := 128) hx hb dX10_reckon_45 (by decide) (fun c227 => ?_) (fun c227 => ?_)
        · have c227 := k_eq (a := z226.toInt) (b := 8) rfl (by decide) c227
          obtain ⟨z228, e_z228⟩ : ∃ y : Int32, y = x215 + 1 := ⟨_, rfl⟩
          have t_z228 : z228.toInt = x215.toInt + 1 := by rw [e_z228]; exact addk (by decide) (by omega) (by omega)
          refine lv_iinc (v := z228) (lv' := [(4, .int z228), (3, .int x216), (0, .ref h0), (1, .ref d0), (2, .int p2)]) hx hb dX10_reckon_128 hl (k := 0) rfl (by rw [e_z228]; rfl) (by decide) rfl (fun ls hl => ?_)
          refine lv_goto (tgt := 27) hx hb dX10_reckon_131 (by decide) ?_
          exact ih222 z228 x216 x217 x218 x219 _ _ ls (by omega) (by omega) (by omega) (by omega) (by omega) (by omega) hP hD hS (lv_sub hl [0, 1, 2, 3, 4] rfl)
        · have c227 := k_ne (a := z226.toInt) (b := 8) rfl (by decide) c227
          refine lv_aload_n hx hb dX10_reckon_48 rfl (lv_at hl 2 rfl) ?_
          refine lv_aload_n hx hb dX10_reckon_49 rfl (lv_at hl 3 rfl) ?_
          refine lv_aload_n hx hb dX10_reckon_50 rfl (lv_at hl 2 rfl) ?_
          refine g_get (C := RX10) (T := TX10) (N := 10) (ci := 10) (v := .int x217) FC hKn hP i_X10 0 rfl rfl 7 (by decide) b_280 rfl dX10_reckon_51 ?_
          refine lv_iload_n hx hb dX10_reckon_54 rfl (lv_at hl 1 rfl) ?_
          refine lv_aload_n hx hb dX10_reckon_55 rfl (lv_at hl 2 rfl) ?_
          refine g_get (C := RX10) (T := TX10) (N := 10) (ci := 10) (v := .ref wr0) FC hKn hP i_X10 0 rfl rfl 0 (by decide) b_212 rfl dX10_reckon_56 ?_
          refine lv_iload hx hb dX10_reckon_59 (lv_at hl 0 rfl) ?_
          refine va_iald hx hb hKn.1 hP 1 0 rfl rfl (vp_in_iff.mpr ⟨by omega, by omega⟩) dX10_reckon_61 ?_
          refine tp_i (v := z226) e_z226.symm ?_
          refine call_VN (As := [.int x217, .int x216, .int z226]) (rest := [.ref h0]) (wr := [(h0, .inr (10, [.ref wr0, .ref wr1, .ref wr2, .ref wr3, .ref wr4, .int wsize, .int wleastOrdered, .int x217, .int x218, .int x219])), (wr0, .inl (g.2 0, 10, .inl wwords))]) FC hKn hZ (k_X0_plansWith l g d0 dr0 dr1 dr2 dr3 dr4 dr5 dr6 dr7 dr8 dr9 dstates dreally ddays dheal dleak dlines dhearers dwords dplans dnews dplanSizes dplanWords x217 x216 z226 (by omega) (by omega) (by omega) (by omega) (by omega) (by omega) (by omega) i_dplanSizes) m_yX0_plansWith b_283 (ci := 0) rfl rfl rfl hP hD hS hA [2, 3, 4] [0, 1] rfl (by decide) rfl (by decide) (by decide) rfl hl.1 rfl (Nat.le_of_ble_eq_true rfl) dX10_reckon_62 ⟨(Nat.le_of_ble_eq_true rfl), (Nat.le_of_ble_eq_true rfl)⟩ ⟨(Nat.le_of_ble_eq_true rfl), (Nat.le_of_ble_eq_true rfl)⟩ (fun u229 H locs q230 hP hD hS => ?_)
          have q230_0 : 0 ≤ (u229.1 0).toInt ∧ (u229.1 0).toInt ≤ 15 := q230
          have hP : va_P g.1 vwCl [(h0, .inr (10, [.ref wr0, .ref wr1, .ref wr2, .ref wr3, .ref wr4, .int wsize, .int wleastOrdered, .int x217, .int x218, .int x219])), (wr0, .inl (g.2 0, 10, .inl wwords)), (d0, .inr (0, [.int dstates, .int dreally, .int ddays, .int dheal, .int dleak, .int dlines, .int dhearers, .int dwords, .int dplans, .int dnews, .ref dr0, .ref dr1, .ref dr2, .ref dr3, .ref dr4, .ref dr5, .ref dr6, .ref dr7, .ref dr8, .ref dr9])), (dr6, .inl (g.2 0, 4, .inl dplanSizes)), (dr7, .inl (g.2 0, 20, .inl dplanWords))] H := hP
          have hD : va_D A [(h0, .inr (10, [.ref wr0, .ref wr1, .ref wr2, .ref wr3, .ref wr4, .int wsize, .int wleastOrdered, .int x217, .int x218, .int x219])), (wr0, .inl (g.2 0, 10, .inl wwords)), (d0, .inr (0, [.int dstates, .int dreally, .int ddays, .int dheal, .int dleak, .int dlines, .int dhearers, .int dwords, .int dplans, .int dnews, .ref dr0, .ref dr1, .ref dr2, .ref dr3, .ref dr4, .ref dr5, .ref dr6, .ref dr7, .ref dr8, .ref dr9])), (dr6, .inl (g.2 0, 4, .inl dplanSizes)), (dr7, .inl (g.2 0, 20, .inl dplanWords))] := hD
          refine W.eq (g2 := F0 m 65 ls [.int (u229.1 0), .ref h0]) rfl ?_
          refine g_put (C := RX10) (T := TX10) (N := 10) (ci := 10) (v := .int (u229.1 0)) FC hKn hP hD hS i_X10 tyX10 tyX10_ok nmX10 0 rfl rfl 7 (by decide) b_280 rfl rfl rfl (Nat.le_of_ble_eq_true rfl) dX10_reckon_65 (fun H locs hP hD hS => ?_)
          have hP : va_P g.1 vwCl [(h0, .inr (10, [.ref wr0, .ref wr1, .ref wr2, .ref wr3, .ref wr4, .int wsize, .int wleastOrdered, .int (u229.1 0), .int x218, .int x219])), (wr0, .inl (g.2 0, 10, .inl wwords)), (d0, .inr (0, [.int dstates, .int dreally, .int ddays, .int dheal, .int dleak, .int dlines, .int dhearers, .int dwords, .int dplans, .int dnews, .ref dr0, .ref dr1, .ref dr2, .ref dr3, .ref dr4, .ref dr5, .ref dr6, .ref dr7, .ref dr8, .ref dr9])), (dr6, .inl (g.2 0, 4, .inl dplanSizes)), (dr7, .inl (g.2 0, 20, .inl dplanWords))] H := hP
          have hD : va_D A [(h0, .inr (10, [.ref wr0, .ref wr1, .ref wr2, .ref wr3, .ref wr4, .int wsize, .int wleastOrdered, .int (u229.1 0), .int x218, .int x219])), (wr0, .inl (g.2 0, 10, .inl wwords)), (d0, .inr (0, [.int dstates, .int dreally, .int ddays, .int dheal, .int dleak, .int dlines, .int dhearers, .int dwords, .int dplans, .int dnews, .ref dr0, .ref dr1, .ref dr2, .ref dr3, .ref dr4, .ref dr5, .ref dr6, .ref dr7, .ref dr8, .ref dr9])), (dr6, .inl (g.2 0, 4, .inl dplanSizes)), (dr7, .inl (g.2 0, 20, .inl dplanWords))] := hD
          obtain ⟨z231, e_z231⟩ : ∃ y : Int32, y = x216 + 1 := ⟨_, rfl⟩
          refine lv_iinc (v := z231) (lv' := [(3, .int z231), (4, .int x215), (0, .ref h0), (1, .ref d0), (2, .int p2)]) hx hb dX10_reckon_68 hl (k := 1) rfl (by rw [e_z231]; rfl) (by decide) rfl (fun ls hl => ?_)
          refine lv_iload_n hx hb dX10_reckon_71 rfl (lv_at hl 4 rfl) ?_
          refine lv_if_le (tgt := 95) hx hb dX10_reckon_72 (by decide) (fun c232 => ?_) (fun c232 => ?_)
          · have c232 := k_le (a := p2.toInt) (b := 0) rfl (by decide) c232
            refine lv_iconst (v := 0) hx hb dX10_reckon_95 (by decide) ?_
            refine lv_istore (lv' := [(5, .int 0), (3, .int z231), (4, .int x215), (0, .ref h0), (1, .ref d0), (2, .int p2)]) hx hb dX10_reckon_96 hl (by decide) rfl (fun ls hl => ?_)
            refine lv_iload hx hb dX10_reckon_98 (lv_at hl 0 rfl) ?_
            refine lv_if_eq (tgt := 128) hx hb dX10_reckon_100 (by decide) (fun _ => ?_) (fun h => absurd h (by decide))
            obtain ⟨z233, e_z233⟩ : ∃ y : Int32, y = x215 + 1 := ⟨_, rfl⟩
            have t_z233 : z233.toInt = x215.toInt + 1 := by rw [e_z233]; exact addk (by decide) (by omega) (by omega)
            refine lv_iinc (v := z233) (lv' := [(4, .int z233), (5, .int 0), (3, .int z231), (0, .ref h0), (1, .ref d0), (2, .int p2)]) hx hb dX10_reckon_128 hl (k := 2) rfl (by rw [e_z233]; rfl) (by decide) rfl (fun ls hl => ?_)
            refine lv_goto (tgt := 27) hx hb dX10_reckon_131 (by decide) ?_
            exact ih222 z233 z231 (u229.1 0) x218 x219 _ _ ls (by omega) (by omega) (by omega) (by omega) (by omega) (by omega) hP hD hS (lv_sub hl [0, 2, 3, 4, 5] rfl)
          · have c232 := k_nle (a := p2.toInt) (b := 0) rfl (by decide) c232
            refine lv_iload_n hx hb dX10_reckon_75 rfl (lv_at hl 0 rfl) ?_
            refine lv_iload_n hx hb dX10_reckon_76 rfl (lv_at hl 4 rfl) ?_
            refine lv_icmp_lt (tgt := 95) hx hb dX10_reckon_77 (by decide) (fun c234 => ?_) (fun c234 => ?_)
            · have c234 := k_lt (a := z231.toInt) (b := p2.toInt) rfl rfl c234
              refine lv_iconst (v := 0) hx hb dX10_reckon_95 (by decide) ?_
              refine lv_istore (lv' := [(5, .int 0), (3, .int z231), (4, .int x215), (0, .ref h0), (1, .ref d0), (2, .int p2)]) hx hb dX10_reckon_96 hl (by decide) rfl (fun ls hl => ?_)
              refine lv_iload hx hb dX10_reckon_98 (lv_at hl 0 rfl) ?_
              refine lv_if_eq (tgt := 128) hx hb dX10_reckon_100 (by decide) (fun _ => ?_) (fun h => absurd h (by decide))
              obtain ⟨z235, e_z235⟩ : ∃ y : Int32, y = x215 + 1 := ⟨_, rfl⟩
              have t_z235 : z235.toInt = x215.toInt + 1 := by rw [e_z235]; exact addk (by decide) (by omega) (by omega)
              refine lv_iinc (v := z235) (lv' := [(4, .int z235), (5, .int 0), (3, .int z231), (0, .ref h0), (1, .ref d0), (2, .int p2)]) hx hb dX10_reckon_128 hl (k := 2) rfl (by rw [e_z235]; rfl) (by decide) rfl (fun ls hl => ?_)
              refine lv_goto (tgt := 27) hx hb dX10_reckon_131 (by decide) ?_
              exact ih222 z235 z231 (u229.1 0) x218 x219 _ _ ls (by omega) (by omega) (by omega) (by omega) (by omega) (by omega) hP hD hS (lv_sub hl [0, 2, 3, 4, 5] rfl)
            · have c234 := k_nlt (a := z231.toInt) (b := p2.toInt) rfl rfl c234
              refine lv_aload_n hx hb dX10_reckon_80 rfl (lv_at hl 2 rfl) ?_
              refine g_get (C := RX10) (T := TX10) (N := 10) (ci := 10) (v := .int (u229.1 0)) FC hKn hP i_X10 0 rfl rfl 7 (by decide) b_280 rfl dX10_reckon_81 ?_
              refine call_S (As := [.int (u229.1 0)]) (rest := []) (wr := [(h0, .inr (10, [.ref wr0, .ref wr1, .ref wr2, .ref wr3, .ref wr4, .int wsize, .int wleastOrdered, .int (u229.1 0), .int x218, .int x219])), (wr0, .inl (g.2 0, 10, .inl wwords)), (d0, .inr (0, [.int dstates, .int dreally, .int ddays, .int dheal, .int dleak, .int dlines, .int dhearers, .int dwords, .int dplans, .int dnews, .ref dr0, .ref dr1, .ref dr2, .ref dr3, .ref dr4, .ref dr5, .ref dr6, .ref dr7, .ref dr8, .ref dr9])), (dr6, .inl (g.2 0, 4, .inl dplanSizes)), (dr7, .inl (g.2 0, 20, .inl dplanWords))]) FC hKn hZ (k_bitCount_15 l g (u229.1 0) (by omega)) m_yJ6_bitCount_0f7a4 b_284 hP hD hS hA [] [0, 1, 2, 3, 4] rfl (by decide) rfl (by decide) (by decide) rfl hl.1 rfl (Nat.le_of_ble_eq_true rfl) dX10_reckon_84 ⟨(Nat.le_of_ble_eq_true rfl), (Nat.le_of_ble_eq_true rfl)⟩ ⟨(Nat.le_of_ble_eq_true rfl), (Nat.le_of_ble_eq_true rfl)⟩ (fun u236 H locs q237 hP hD hS => ?_)
              obtain ⟨q237_0, q237_1⟩ := q237
              have hP : va_P g.1 vwCl [(h0, .inr (10, [.ref wr0, .ref wr1, .ref wr2, .ref wr3, .ref wr4, .int wsize, .int wleastOrdered, .int (u229.1 0), .int x218, .int x219])), (wr0, .inl (g.2 0, 10, .inl wwords)), (d0, .inr (0, [.int dstates, .int dreally, .int ddays, .int dheal, .int dleak, .int dlines, .int dhearers, .int dwords, .int dplans, .int dnews, .ref dr0, .ref dr1, .ref dr2, .ref dr3, .ref dr4, .ref dr5, .ref dr6, .ref dr7, .ref dr8, .ref dr9])), (dr6, .inl (g.2 0, 4, .inl dplanSizes)), (dr7, .inl (g.2 0, 20, .inl dplanWords))] H := hP
              have hD : va_D A [(h0, .inr (10, [.ref wr0, .ref wr1, .ref wr2, .ref wr3, .ref wr4, .int wsize, .int wleastOrdered, .int (u229.1 0), .int x218, .int x219])), (wr0, .inl (g.2 0, 10, .inl wwords)), (d0, .inr (0, [.int dstates, .int dreally, .int ddays, .int dheal, .int dleak, .int dlines, .int dhearers, .int dwords, .int dplans, .int dnews, .ref dr0, .ref dr1, .ref dr2, .ref dr3, .ref dr4, .ref dr5, .ref dr6, .ref dr7, .ref dr8, .ref dr9])), (dr6, .inl (g.2 0, 4, .inl dplanSizes)), (dr7, .inl (g.2 0, 20, .inl dplanWords))] := hD
              refine W.eq (g2 := F0 m 87 ls [.int (u236.1 0)]) rfl ?_
              refine lv_iconst (v := 1) hx hb dX10_reckon_87 (by decide) ?_
              refine lv_icmp_ne (tgt := 95) hx hb dX10_reckon_88 (by decide) (fun c238 => ?_) (fun c238 => ?_)
              · have c238 := k_ne (a := (u236.1 0).toInt) (b := 1) rfl (by decide) c238
                refine lv_iconst (v := 0) hx hb dX10_reckon_95 (by decide) ?_
                refine lv_istore (lv' := [(5, .int 0), (3, .int z231), (4, .int x215), (0, .ref h0), (1, .ref d0), (2, .int p2)]) hx hb dX10_reckon_96 hl (by decide) rfl (fun ls hl => ?_)
                refine lv_iload hx hb dX10_reckon_98 (lv_at hl 0 rfl) ?_
                refine lv_if_eq (tgt := 128) hx hb dX10_reckon_100 (by decide) (fun _ => ?_) (fun h => absurd h (by decide))
                obtain ⟨z239, e_z239⟩ : ∃ y : Int32, y = x215 + 1 := ⟨_, rfl⟩
                have t_z239 : z239.toInt = x215.toInt + 1 := by rw [e_z239]; exact addk (by decide) (by omega) (by omega)
                refine lv_iinc (v := z239) (lv' := [(4, .int z239), (5, .int 0), (3, .int z231), (0, .ref h0), (1, .ref d0), (2, .int p2)]) hx hb dX10_reckon_128 hl (k := 2) rfl (by rw [e_z239]; rfl) (by decide) rfl (fun ls hl => ?_)
                refine lv_goto (tgt := 27) hx hb dX10_reckon_131 (by decide) ?_
                exact ih222 z239 z231 (u229.1 0) x218 x219 _ _ ls (by omega) (by omega) (by omega) (by omega) (by omega) (by omega) hP hD hS (lv_sub hl [0, 2, 3, 4, 5] rfl)
              · have c238 := k_eq (a := (u236.1 0).toInt) (b := 1) rfl (by decide) c238
                refine lv_iconst (v := 1) hx hb dX10_reckon_91 (by decide) ?_
                refine lv_goto (tgt := 96) hx hb dX10_reckon_92 (by decide) ?_
                refine lv_istore (lv' := [(5, .int 1), (3, .int z231), (4, .int x215), (0, .ref h0), (1, .ref d0), (2, .int p2)]) hx hb dX10_reckon_96 hl (by decide) rfl (fun ls hl => ?_)
                refine lv_iload hx hb dX10_reckon_98 (lv_at hl 0 rfl) ?_
                refine lv_if_eq (tgt := 128) hx hb dX10_reckon_100 (by decide) (fun h => absurd h (by decide)) (fun _ => ?_)
                refine lv_aload_n hx hb dX10_reckon_103 rfl (lv_at hl 3 rfl) ?_
                refine g_get (C := RX10) (T := TX10) (N := 10) (ci := 10) (v := .int x218) FC hKn hP i_X10 0 rfl rfl 8 (by decide) b_281 rfl dX10_reckon_104 ?_
                refine lv_iconst (v := -1) hx hb dX10_reckon_107 (by decide) ?_
                refine lv_icmp_ne (tgt := 128) hx hb dX10_reckon_108 (by decide) (fun c240 => ?_) (fun c240 => ?_)
                · have c240 := k_ne (a := x218.toInt) (b := -1) rfl (by decide) c240
                  obtain ⟨z241, e_z241⟩ : ∃ y : Int32, y = x215 + 1 := ⟨_, rfl⟩
                  have t_z241 : z241.toInt = x215.toInt + 1 := by rw [e_z241]; exact addk (by decide) (by omega) (by omega)
                  refine lv_iinc (v := z241) (lv' := [(4, .int z241), (5, .int 1), (3, .int z231), (0, .ref h0), (1, .ref d0), (2, .int p2)]) hx hb dX10_reckon_128 hl (k := 2) rfl (by rw [e_z241]; rfl) (by decide) rfl (fun ls hl => ?_)
                  refine lv_goto (tgt := 27) hx hb dX10_reckon_131 (by decide) ?_
                  exact ih222 z241 z231 (u229.1 0) x218 x219 _ _ ls (by omega) (by omega) (by omega) (by omega) (by omega) (by omega) hP hD hS (lv_sub hl [0, 2, 3, 4, 5] rfl)
                · have c240 := k_eq (a := x218.toInt) (b := -1) rfl (by decide) c240
                  refine lv_aload_n hx hb dX10_reckon_111 rfl (lv_at hl 3 rfl) ?_
                  refine lv_iload hx hb dX10_reckon_112 (lv_at hl 2 rfl) ?_
                  refine g_put (C := RX10) (T := TX10) (N := 10) (ci := 10) (v := .int x215) FC hKn hP hD hS i_X10 tyX10 tyX10_ok nmX10 0 rfl rfl 8 (by decide) b_281 rfl rfl rfl (Nat.le_of_ble_eq_true rfl) dX10_reckon_114 (fun H locs hP hD hS => ?_)
                  have hP : va_P g.1 vwCl [(h0, .inr (10, [.ref wr0, .ref wr1, .ref wr2, .ref wr3, .ref wr4, .int wsize, .int wleastOrdered, .int (u229.1 0), .int x215, .int x219])), (wr0, .inl (g.2 0, 10, .inl wwords)), (d0, .inr (0, [.int dstates, .int dreally, .int ddays, .int dheal, .int dleak, .int dlines, .int dhearers, .int dwords, .int dplans, .int dnews, .ref dr0, .ref dr1, .ref dr2, .ref dr3, .ref dr4, .ref dr5, .ref dr6, .ref dr7, .ref dr8, .ref dr9])), (dr6, .inl (g.2 0, 4, .inl dplanSizes)), (dr7, .inl (g.2 0, 20, .inl dplanWords))] H := hP
                  have hD : va_D A [(h0, .inr (10, [.ref wr0, .ref wr1, .ref wr2, .ref wr3, .ref wr4, .int wsize, .int wleastOrdered, .int (u229.1 0), .int x215, .int x219])), (wr0, .inl (g.2 0, 10, .inl wwords)), (d0, .inr (0, [.int dstates, .int dreally, .int ddays, .int dheal, .int dleak, .int dlines, .int dhearers, .int dwords, .int dplans, .int dnews, .ref dr0, .ref dr1, .ref dr2, .ref dr3, .ref dr4, .ref dr5, .ref dr6, .ref dr7, .ref dr8, .ref dr9])), (dr6, .inl (g.2 0, 4, .inl dplanSizes)), (dr7, .inl (g.2 0, 20, .inl dplanWords))] := hD
                  refine lv_aload_n hx hb dX10_reckon_117 rfl (lv_at hl 3 rfl) ?_
                  refine lv_aload_n hx hb dX10_reckon_118 rfl (lv_at hl 3 rfl) ?_
                  refine g_get (C := RX10) (T := TX10) (N := 10) (ci := 10) (v := .int (u229.1 0)) FC hKn hP i_X10 0 rfl rfl 7 (by decide) b_280 rfl dX10_reckon_119 ?_
                  refine call_S (As := [.int (u229.1 0)]) (rest := [.ref h0]) (wr := [(h0, .inr (10, [.ref wr0, .ref wr1, .ref wr2, .ref wr3, .ref wr4, .int wsize, .int wleastOrdered, .int (u229.1 0), .int x215, .int x219])), (wr0, .inl (g.2 0, 10, .inl wwords)), (d0, .inr (0, [.int dstates, .int dreally, .int ddays, .int dheal, .int dleak, .int dlines, .int dhearers, .int dwords, .int dplans, .int dnews, .ref dr0, .ref dr1, .ref dr2, .ref dr3, .ref dr4, .ref dr5, .ref dr6, .ref dr7, .ref dr8, .ref dr9])), (dr6, .inl (g.2 0, 4, .inl dplanSizes)), (dr7, .inl (g.2 0, 20, .inl dplanWords))]) FC hKn hZ (k_ntz l g (u229.1 0) (by omega)) m_yJ6_numberOfTrailingZeros_0f7a4 b_285 hP hD hS hA [] [0, 1, 2, 3, 4] rfl (by decide) rfl (by decide) (by decide) rfl hl.1 rfl (Nat.le_of_ble_eq_true rfl) dX10_reckon_122 ⟨(Nat.le_of_ble_eq_true rfl), (Nat.le_of_ble_eq_true rfl)⟩ ⟨(Nat.le_of_ble_eq_true rfl), (Nat.le_of_ble_eq_true rfl)⟩ (fun u242 H locs q243 hP hD hS => ?_)
                  have q243_0 : 0 ≤ (u242.1 0).toInt ∧ (u242.1 0).toInt ≤ 3 := q243
                  have hP : va_P g.1 vwCl [(h0, .inr (10, [.ref wr0, .ref wr1, .ref wr2, .ref wr3, .ref wr4, .int wsize, .int wleastOrdered, .int (u229.1 0), .int x215, .int x219])), (wr0, .inl (g.2 0, 10, .inl wwords)), (d0, .inr (0, [.int dstates, .int dreally, .int ddays, .int dheal, .int dleak, .int dlines, .int dhearers, .int dwords, .int dplans, .int dnews, .ref dr0, .ref dr1, .ref dr2, .ref dr3, .ref dr4, .ref dr5, .ref dr6, .ref dr7, .ref dr8, .ref dr9])), (dr6, .inl (g.2 0, 4, .inl dplanSizes)), (dr7, .inl (g.2 0, 20, .inl dplanWords))] H := hP
                  have hD : va_D A [(h0, .inr (10, [.ref wr0, .ref wr1, .ref wr2, .ref wr3, .ref wr4, .int wsize, .int wleastOrdered, .int (u229.1 0), .int x215, .int x219])), (wr0, .inl (g.2 0, 10, .inl wwords)), (d0, .inr (0, [.int dstates, .int dreally, .int ddays, .int dheal, .int dleak, .int dlines, .int dhearers, .int dwords, .int dplans, .int dnews, .ref dr0, .ref dr1, .ref dr2, .ref dr3, .ref dr4, .ref dr5, .ref dr6, .ref dr7, .ref dr8, .ref dr9])), (dr6, .inl (g.2 0, 4, .inl dplanSizes)), (dr7, .inl (g.2 0, 20, .inl dplanWords))] := hD
                  refine W.eq (g2 := F0 m 125 ls [.int (u242.1 0), .ref h0]) rfl ?_
                  refine g_put (C := RX10) (T := TX10) (N := 10) (ci := 10) (v := .int (u242.1 0)) FC hKn hP hD hS i_X10 tyX10 tyX10_ok nmX10 0 rfl rfl 9 (by decide) b_282 rfl rfl rfl (Nat.le_of_ble_eq_true rfl) dX10_reckon_125 (fun H locs hP hD hS => ?_)
                  have hP : va_P g.1 vwCl [(h0, .inr (10, [.ref wr0, .ref wr1, .ref wr2, .ref wr3, .ref wr4, .int wsize, .int wleastOrdered, .int (u229.1 0), .int x215, .int (u242.1 0)])), (wr0, .inl (g.2 0, 10, .inl wwords)), (d0, .inr (0, [.int dstates, .int dreally, .int ddays, .int dheal, .int dleak, .int dlines, .int dhearers, .int dwords, .int dplans, .int dnews, .ref dr0, .ref dr1, .ref dr2, .ref dr3, .ref dr4, .ref dr5, .ref dr6, .ref dr7, .ref dr8, .ref dr9])), (dr6, .inl (g.2 0, 4, .inl dplanSizes)), (dr7, .inl (g.2 0, 20, .inl dplanWords))] H := hP
                  have hD : va_D A [(h0, .inr (10, [.ref wr0, .ref wr1, .ref wr2, .ref wr3, .ref wr4, .int wsize, .int wleastOrdered, .int (u229.1 0), .int x215, .int (u242.1 0)])), (wr0, .inl (g.2 0, 10, .inl wwords)), (d0, .inr (0, [.int dstates, .int dreally, .int ddays, .int dheal, .int dleak, .int dlines, .int dhearers, .int dwords, .int dplans, .int dnews, .ref dr0, .ref dr1, .ref dr2, .ref dr3, .ref dr4, .ref dr5, .ref dr6, .ref dr7, .ref dr8, .ref dr9])), (dr6, .inl (g.2 0, 4, .inl dplanSizes)), (dr7, .inl (g.2 0, 20, .inl dplanWords))] := hD
                  obtain ⟨z244, e_z244⟩ : ∃ y : Int32, y = x215 + 1 := ⟨_, rfl⟩
                  have t_z244 : z244.toInt = x215.toInt + 1 := by rw [e_z244]; exact addk (by decide) (by omega) (by omega)
                  refine lv_iinc (v := z244) (lv' := [(4, .int z244), (5, .int 1), (3, .int z231), (0, .ref h0), (1, .ref d0), (2, .int p2)]) hx hb dX10_reckon_128 hl (k := 2) rfl (by rw [e_z244]; rfl) (by decide) rfl (fun ls hl => ?_)
                  refine lv_goto (tgt := 27) hx hb dX10_reckon_131 (by decide) ?_
                  exact ih222 z244 z231 (u229.1 0) x215 (u242.1 0) _ _ ls (by omega) (by omega) (by omega) (by omega) (by omega) (by omega) hP hD hS (lv_sub hl [0, 2, 3, 4, 5] rfl)
  have kc0 : (0 : Int32).toInt = 0 := by decide
  have kcm1 : (-1 : Int32).toInt = -1 := by decide
  exact lp221 _ (0 : Int32) (0 : Int32) z2 (-1 : Int32) (-1 : Int32) _ _ ls (by decide) (by omega) (by decide) (by decide) (by omega) (Nat.lt_succ_self _) hP hD hS (lv_sub hl [0, 1, 2, 3, 4] rfl)
