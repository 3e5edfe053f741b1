set_option maxRecDepth 100000 in
set_option maxHeartbeats 4000000 in
theorem c_X3_init (l : Launch) (g : GG) (h0 : Nat) : Ct l g yX3_init cX3_init 1 none { frames := 1, cells := 3, slots := 180, locals := 12 } [.ref h0] [(h0, .inr (3, [.null, .null, .null, .int 0]))] (S := Nat → Nat) (fun _ => none) (fun _ => True) (fun u => [(h0, .inr (3, [.ref (u 0), .ref (u 1), .ref (u 2), .int 0])), (u 0, .inl (g.2 0, 60, .inl (fun _ => 0))), (u 1, .inl (g.2 0, 60, .inl (fun _ => 0))), (u 2, .inl (g.2 0, 60, .inl (fun _ => 0)))]) := by
  refine Ct.of (by decide) (Nat.le_of_ble_eq_true rfl) ?_
  intro p e s m below meth c A ls FX hP hD hS hl
  obtain ⟨FC, hr, hlk, hKn, hA, hnm⟩ := id FX
  have FC : CallFix p m c cX3_init 1 s _ BIG RX3 := FC
  obtain ⟨hx, hb, hml, hown, hB⟩ := id FC
  have hl : lv_has ls 1 [(0, .ref h0)] := hl
  refine lv_aload_n hx hb dX3_init_0 rfl (lv_at hl 0 rfl) ?_
  refine W.objInit hx hb hown (hB _ b_230) (hB _ b_231) (hB _ b_232) rfl (by rw [hml]; exact hl.1) rfl dX3_init_1 (Nat.le_of_ble_eq_true rfl) (Nat.le_of_ble_eq_true rfl) ?_
  refine W.eq (g2 := F0 m 4 ls []) rfl ?_
  refine lv_aload_n hx hb dX3_init_4 rfl (lv_at hl 0 rfl) ?_
  refine lv_bipush (v := 60) hx hb dX3_init_5 (by decide) ?_
  refine g_newa FC hKn hP hD hS hA (atype := .int) b_233 rfl 0 rfl (fun _ h => by cases h) (a0 := (60, .inl (fun _ => 0))) (fun _ => rfl) (by decide) (by decide) (by decide) (Nat.le_of_ble_eq_true rfl) (Nat.le_of_ble_eq_true rfl) dX3_init_7 (fun q1 H hP hD hS => ?_)
  have hP : va_P g.1 vwCl [(h0, .inr (3, [.null, .null, .null, .int 0])), (q1, .inl (g.2 0, 60, .inl (fun _ => 0)))] H := hP
  have hD : va_D A [(h0, .inr (3, [.null, .null, .null, .int 0])), (q1, .inl (g.2 0, 60, .inl (fun _ => 0)))] := hD
  refine g_putF (C := RX3) (T := TX3) (N := 4) (ci := 3) (v := .ref q1) FC hKn hP hD hS i_X3 tyX3 tyX3_ok nmX3 0 rfl rfl 0 (by decide) b_100 rfl hnm rfl rfl rfl (Nat.le_of_ble_eq_true rfl) dX3_init_9 (fun H locs hP hD hS => ?_)
  have hP : va_P g.1 vwCl [(h0, .inr (3, [.ref q1, .null, .null, .int 0])), (q1, .inl (g.2 0, 60, .inl (fun _ => 0)))] H := hP
  have hD : va_D A [(h0, .inr (3, [.ref q1, .null, .null, .int 0])), (q1, .inl (g.2 0, 60, .inl (fun _ => 0)))] := hD
  refine lv_aload_n hx hb dX3_init_12 rfl (lv_at hl 0 rfl) ?_
  refine lv_bipush (v := 60) hx hb dX3_init_13 (by decide) ?_
  refine g_newa FC hKn hP hD hS hA (atype := .int) b_233 rfl 0 rfl (fun _ h => by cases h) (a0 := (60, .inl (fun _ => 0))) (fun _ => rfl) (by decide) (by decide) (by decide) (Nat.le_of_ble_eq_true rfl) (Nat.le_of_ble_eq_true rfl) dX3_init_15 (fun q2 H hP hD hS => ?_)
  have hP : va_P g.1 vwCl [(h0, .inr (3, [.ref q1, .null, .null, .int 0])), (q1, .inl (g.2 0, 60, .inl (fun _ => 0))), (q2, .inl (g.2 0, 60, .inl (fun _ => 0)))] H := hP
  have hD : va_D A [(h0, .inr (3, [.ref q1, .null, .null, .int 0])), (q1, .inl (g.2 0, 60, .inl (fun _ => 0))), (q2, .inl (g.2 0, 60, .inl (fun _ => 0)))] := hD
  refine g_putF (C := RX3) (T := TX3) (N := 4) (ci := 3) (v := .ref q2) FC hKn hP hD hS i_X3 tyX3 tyX3_ok nmX3 0 rfl rfl 1 (by decide) b_105 rfl hnm rfl rfl rfl (Nat.le_of_ble_eq_true rfl) dX3_init_17 (fun H locs hP hD hS => ?_)
  have hP : va_P g.1 vwCl [(h0, .inr (3, [.ref q1, .ref q2, .null, .int 0])), (q1, .inl (g.2 0, 60, .inl (fun _ => 0))), (q2, .inl (g.2 0, 60, .inl (fun _ => 0)))] H := hP
  have hD : va_D A [(h0, .inr (3, [.ref q1, .ref q2, .null, .int 0])), (q1, .inl (g.2 0, 60, .inl (fun _ => 0))), (q2, .inl (g.2 0, 60, .inl (fun _ => 0)))] := hD
  refine lv_aload_n hx hb dX3_init_20 rfl (lv_at hl 0 rfl) ?_
  refine lv_bipush (v := 60) hx hb dX3_init_21 (by decide) ?_
  refine g_newa FC hKn hP hD hS hA (atype := .int) b_233 rfl 0 rfl (fun _ h => by cases h) (a0 := (60, .inl (fun _ => 0))) (fun _ => rfl) (by decide) (by decide) (by decide) (Nat.le_of_ble_eq_true rfl) (Nat.le_of_ble_eq_true rfl) dX3_init_23 (fun q3 H hP hD hS => ?_)
  have hP : va_P g.1 vwCl [(h0, .inr (3, [.ref q1, .ref q2, .null, .int 0])), (q1, .inl (g.2 0, 60, .inl (fun _ => 0))), (q2, .inl (g.2 0, 60, .inl (fun _ => 0))), (q3, .inl (g.2 0, 60, .inl (fun _ => 0)))] H := hP
  have hD : va_D A [(h0, .inr (3, [.ref q1, .ref q2, .null, .int 0])), (q1, .inl (g.2 0, 60, .inl (fun _ => 0))), (q2, .inl (g.2 0, 60, .inl (fun _ => 0))), (q3, .inl (g.2 0, 60, .inl (fun _ => 0)))] := hD
  refine g_putF (C := RX3) (T := TX3) (N := 4) (ci := 3) (v := .ref q3) FC hKn hP hD hS i_X3 tyX3 tyX3_ok nmX3 0 rfl rfl 2 (by decide) b_106 rfl hnm rfl rfl rfl (Nat.le_of_ble_eq_true rfl) dX3_init_25 (fun H locs hP hD hS => ?_)
  have hP : va_P g.1 vwCl [(h0, .inr (3, [.ref q1, .ref q2, .ref q3, .int 0])), (q1, .inl (g.2 0, 60, .inl (fun _ => 0))), (q2, .inl (g.2 0, 60, .inl (fun _ => 0))), (q3, .inl (g.2 0, 60, .inl (fun _ => 0)))] H := hP
  have hD : va_D A [(h0, .inr (3, [.ref q1, .ref q2, .ref q3, .int 0])), (q1, .inl (g.2 0, 60, .inl (fun _ => 0))), (q2, .inl (g.2 0, 60, .inl (fun _ => 0))), (q3, .inl (g.2 0, 60, .inl (fun _ => 0)))] := hD
  exact rt_v FX (fun k => ([q1, q2, q3] : List Nat).getD k 0) rfl trivial (hP.sub [0, 1, 2, 3] rfl) (hD.sub [0, 1, 2, 3] (by decide) rfl) hS (Nat.le_of_ble_eq_true rfl) (Nat.le_of_ble_eq_true rfl) dX3_init_28
set_option maxRecDepth 100000 in
set_option maxHeartbeats 4000000 in
theorem c_X0_init (l : Launch) (g : GG) (h0 : Nat) : Ct l g yX0_init cX0_init 1 none { frames := 2, cells := 13, slots := 278, locals := 32 } [.ref h0] [(h0, .inr (0, [.int 0, .int 0, .int 0, .int 0, .int 0, .int 0, .int 0, .int 0, .int 0, .int 0, .null, .null, .null, .null, .null, .null, .null, .null, .null, .null]))] (S := Nat → Nat) (fun _ => none) (fun _ => True) (fun u => [(h0, .inr (0, [.int 0, .int 0, .int 0, .int 0, .int 0, .int 0, .int 0, .int 0, .int 0, .int 0, .ref (u 0), .ref (u 1), .ref (u 2), .ref (u 3), .ref (u 4), .ref (u 5), .ref (u 6), .ref (u 7), .ref (u 8), .ref (u 9)])), (u 0, .inl (g.2 0, 8, .inl (fun _ => 0))), (u 1, .inl (g.2 0, 32, .inl (fun _ => 0))), (u 2, .inl (g.2 0, 4, .inl (fun _ => 0))), (u 3, .inl (g.2 0, 4, .inl (fun _ => 0))), (u 4, .inl (g.2 0, 8, .inl (fun _ => 0))), (u 5, .inl (g.2 0, 8, .inl (fun _ => 0))), (u 6, .inl (g.2 0, 4, .inl (fun _ => 0))), (u 7, .inl (g.2 0, 20, .inl (fun _ => 0))), (u 8, .inl (g.2 0, 6, .inl (fun _ => 0))), (u 9, .inr (3, [.ref (u 10), .ref (u 11), .ref (u 12), .int 0])), (u 10, .inl (g.2 0, 60, .inl (fun _ => 0))), (u 11, .inl (g.2 0, 60, .inl (fun _ => 0))), (u 12, .inl (g.2 0, 60, .inl (fun _ => 0)))]) := by
  refine Ct.of (by decide) (Nat.le_of_ble_eq_true rfl) ?_
  intro p e s m below meth c A ls FX hP hD hS hl
  obtain ⟨FC, hr, hlk, hKn, hA, hnm⟩ := id FX
  have FC : CallFix p m c cX0_init 1 s _ BIG RX0 := FC
  obtain ⟨hx, hb, hml, hown, hB⟩ := id FC
  have hl : lv_has ls 1 [(0, .ref h0)] := hl
  refine lv_aload_n hx hb dX0_init_0 rfl (lv_at hl 0 rfl) ?_
  refine W.objInit hx hb hown (hB _ b_234) (hB _ b_231) (hB _ b_232) rfl (by rw [hml]; exact hl.1) rfl dX0_init_1 (Nat.le_of_ble_eq_true rfl) (Nat.le_of_ble_eq_true rfl) ?_
  refine W.eq (g2 := F0 m 4 ls []) rfl ?_
  refine lv_aload_n hx hb dX0_init_4 rfl (lv_at hl 0 rfl) ?_
  refine lv_bipush (v := 8) hx hb dX0_init_5 (by decide) ?_
  refine g_newa FC hKn hP hD hS hA (atype := .int) b_233 rfl 0 rfl (fun _ h => by cases h) (a0 := (8, .inl (fun _ => 0))) (fun _ => rfl) (by decide) (by decide) (by decide) (Nat.le_of_ble_eq_true rfl) (Nat.le_of_ble_eq_true rfl) dX0_init_7 (fun q1 H hP hD hS => ?_)
  have hP : va_P g.1 vwCl [(h0, .inr (0, [.int 0, .int 0, .int 0, .int 0, .int 0, .int 0, .int 0, .int 0, .int 0, .int 0, .null, .null, .null, .null, .null, .null, .null, .null, .null, .null])), (q1, .inl (g.2 0, 8, .inl (fun _ => 0)))] H := hP
  have hD : va_D A [(h0, .inr (0, [.int 0, .int 0, .int 0, .int 0, .int 0, .int 0, .int 0, .int 0, .int 0, .int 0, .null, .null, .null, .null, .null, .null, .null, .null, .null, .null])), (q1, .inl (g.2 0, 8, .inl (fun _ => 0)))] := hD
  refine g_putF (C := RX0) (T := TX0) (N := 20) (ci := 0) (v := .ref q1) FC hKn hP hD hS i_X0 tyX0 tyX0_ok nmX0 0 rfl rfl 10 (by decide) b_111 rfl hnm rfl rfl rfl (Nat.le_of_ble_eq_true rfl) dX0_init_9 (fun H locs hP hD hS => ?_)
  have hP : va_P g.1 vwCl [(h0, .inr (0, [.int 0, .int 0, .int 0, .int 0, .int 0, .int 0, .int 0, .int 0, .int 0, .int 0, .ref q1, .null, .null, .null, .null, .null, .null, .null, .null, .null])), (q1, .inl (g.2 0, 8, .inl (fun _ => 0)))] H := hP
  have hD : va_D A [(h0, .inr (0, [.int 0, .int 0, .int 0, .int 0, .int 0, .int 0, .int 0, .int 0, .int 0, .int 0, .ref q1, .null, .null, .null, .null, .null, .null, .null, .null, .null])), (q1, .inl (g.2 0, 8, .inl (fun _ => 0)))] := hD
  refine lv_aload_n hx hb dX0_init_12 rfl (lv_at hl 0 rfl) ?_
  refine lv_bipush (v := 32) hx hb dX0_init_13 (by decide) ?_
  refine g_newa FC hKn hP hD hS hA (atype := .int) b_233 rfl 0 rfl (fun _ h => by cases h) (a0 := (32, .inl (fun _ => 0))) (fun _ => rfl) (by decide) (by decide) (by decide) (Nat.le_of_ble_eq_true rfl) (Nat.le_of_ble_eq_true rfl) dX0_init_15 (fun q2 H hP hD hS => ?_)
  have hP : va_P g.1 vwCl [(h0, .inr (0, [.int 0, .int 0, .int 0, .int 0, .int 0, .int 0, .int 0, .int 0, .int 0, .int 0, .ref q1, .null, .null, .null, .null, .null, .null, .null, .null, .null])), (q1, .inl (g.2 0, 8, .inl (fun _ => 0))), (q2, .inl (g.2 0, 32, .inl (fun _ => 0)))] H := hP
  have hD : va_D A [(h0, .inr (0, [.int 0, .int 0, .int 0, .int 0, .int 0, .int 0, .int 0, .int 0, .int 0, .int 0, .ref q1, .null, .null, .null, .null, .null, .null, .null, .null, .null])), (q1, .inl (g.2 0, 8, .inl (fun _ => 0))), (q2, .inl (g.2 0, 32, .inl (fun _ => 0)))] := hD
  refine g_putF (C := RX0) (T := TX0) (N := 20) (ci := 0) (v := .ref q2) FC hKn hP hD hS i_X0 tyX0 tyX0_ok nmX0 0 rfl rfl 11 (by decide) b_113 rfl hnm rfl rfl rfl (Nat.le_of_ble_eq_true rfl) dX0_init_17 (fun H locs hP hD hS => ?_)
  have hP : va_P g.1 vwCl [(h0, .inr (0, [.int 0, .int 0, .int 0, .int 0, .int 0, .int 0, .int 0, .int 0, .int 0, .int 0, .ref q1, .ref q2, .null, .null, .null, .null, .null, .null, .null, .null])), (q1, .inl (g.2 0, 8, .inl (fun _ => 0))), (q2, .inl (g.2 0, 32, .inl (fun _ => 0)))] H := hP
  have hD : va_D A [(h0, .inr (0, [.int 0, .int 0, .int 0, .int 0, .int 0, .int 0, .int 0, .int 0, .int 0, .int 0, .ref q1, .ref q2, .null, .null, .null, .null, .null, .null, .null, .null])), (q1, .inl (g.2 0, 8, .inl (fun _ => 0))), (q2, .inl (g.2 0, 32, .inl (fun _ => 0)))] := hD
  refine lv_aload_n hx hb dX0_init_20 rfl (lv_at hl 0 rfl) ?_
  refine lv_iconst (v := 4) hx hb dX0_init_21 (by decide) ?_
  refine g_newa FC hKn hP hD hS hA (atype := .int) b_233 rfl 0 rfl (fun _ h => by cases h) (a0 := (4, .inl (fun _ => 0))) (fun _ => rfl) (by decide) (by decide) (by decide) (Nat.le_of_ble_eq_true rfl) (Nat.le_of_ble_eq_true rfl) dX0_init_22 (fun q3 H hP hD hS => ?_)
  have hP : va_P g.1 vwCl [(h0, .inr (0, [.int 0, .int 0, .int 0, .int 0, .int 0, .int 0, .int 0, .int 0, .int 0, .int 0, .ref q1, .ref q2, .null, .null, .null, .null, .null, .null, .null, .null])), (q1, .inl (g.2 0, 8, .inl (fun _ => 0))), (q2, .inl (g.2 0, 32, .inl (fun _ => 0))), (q3, .inl (g.2 0, 4, .inl (fun _ => 0)))] H := hP
  have hD : va_D A [(h0, .inr (0, [.int 0, .int 0, .int 0, .int 0, .int 0, .int 0, .int 0, .int 0, .int 0, .int 0, .ref q1, .ref q2, .null, .null, .null, .null, .null, .null, .null, .null])), (q1, .inl (g.2 0, 8, .inl (fun _ => 0))), (q2, .inl (g.2 0, 32, .inl (fun _ => 0))), (q3, .inl (g.2 0, 4, .inl (fun _ => 0)))] := hD
  refine g_putF (C := RX0) (T := TX0) (N := 20) (ci := 0) (v := .ref q3) FC hKn hP hD hS i_X0 tyX0 tyX0_ok nmX0 0 rfl rfl 12 (by decide) b_114 rfl hnm rfl rfl rfl (Nat.le_of_ble_eq_true rfl) dX0_init_24 (fun H locs hP hD hS => ?_)
  have hP : va_P g.1 vwCl [(h0, .inr (0, [.int 0, .int 0, .int 0, .int 0, .int 0, .int 0, .int 0, .int 0, .int 0, .int 0, .ref q1, .ref q2, .ref q3, .null, .null, .null, .null, .null, .null, .null])), (q1, .inl (g.2 0, 8, .inl (fun _ => 0))), (q2, .inl (g.2 0, 32, .inl (fun _ => 0))), (q3, .inl (g.2 0, 4, .inl (fun _ => 0)))] H := hP
  have hD : va_D A [(h0, .inr (0, [.int 0, .int 0, .int 0, .int 0, .int 0, .int 0, .int 0, .int 0, .int 0, .int 0, .ref q1, .ref q2, .ref q3, .null, .null, .null, .null, .null, .null, .null])), (q1, .inl (g.2 0, 8, .inl (fun _ => 0))), (q2, .inl (g.2 0, 32, .inl (fun _ => 0))), (q3, .inl (g.2 0, 4, .inl (fun _ => 0)))] := hD
  refine lv_aload_n hx hb dX0_init_27 rfl (lv_at hl 0 rfl) ?_
  refine lv_iconst (v := 4) hx hb dX0_init_28 (by decide) ?_
  refine g_newa FC hKn hP hD hS hA (atype := .int) b_233 rfl 0 rfl (fun _ h => by cases h) (a0 := (4, .inl (fun _ => 0))) (fun _ => rfl) (by decide) (by decide) (by decide) (Nat.le_of_ble_eq_true rfl) (Nat.le_of_ble_eq_true rfl) dX0_init_29 (fun q4 H hP hD hS => ?_)
  have hP : va_P g.1 vwCl [(h0, .inr (0, [.int 0, .int 0, .int 0, .int 0, .int 0, .int 0, .int 0, .int 0, .int 0, .int 0, .ref q1, .ref q2, .ref q3, .null, .null, .null, .null, .null, .null, .null])), (q1, .inl (g.2 0, 8, .inl (fun _ => 0))), (q2, .inl (g.2 0, 32, .inl (fun _ => 0))), (q3, .inl (g.2 0, 4, .inl (fun _ => 0))), (q4, .inl (g.2 0, 4, .inl (fun _ => 0)))] H := hP
  have hD : va_D A [(h0, .inr (0, [.int 0, .int 0, .int 0, .int 0, .int 0, .int 0, .int 0, .int 0, .int 0, .int 0, .ref q1, .ref q2, .ref q3, .null, .null, .null, .null, .null, .null, .null])), (q1, .inl (g.2 0, 8, .inl (fun _ => 0))), (q2, .inl (g.2 0, 32, .inl (fun _ => 0))), (q3, .inl (g.2 0, 4, .inl (fun _ => 0))), (q4, .inl (g.2 0, 4, .inl (fun _ => 0)))] := hD
  refine g_putF (C := RX0) (T := TX0) (N := 20) (ci := 0) (v := .ref q4) FC hKn hP hD hS i_X0 tyX0 tyX0_ok nmX0 0 rfl rfl 13 (by decide) b_115 rfl hnm rfl rfl rfl (Nat.le_of_ble_eq_true rfl) dX0_init_31 (fun H locs hP hD hS => ?_)
  have hP : va_P g.1 vwCl [(h0, .inr (0, [.int 0, .int 0, .int 0, .int 0, .int 0, .int 0, .int 0, .int 0, .int 0, .int 0, .ref q1, .ref q2, .ref q3, .ref q4, .null, .null, .null, .null, .null, .null])), (q1, .inl (g.2 0, 8, .inl (fun _ => 0))), (q2, .inl (g.2 0, 32, .inl (fun _ => 0))), (q3, .inl (g.2 0, 4, .inl (fun _ => 0))), (q4, .inl (g.2 0, 4, .inl (fun _ => 0)))] H := hP
  have hD : va_D A [(h0, .inr (0, [.int 0, .int 0, .int 0, .int 0, .int 0, .int 0, .int 0, .int 0, .int 0, .int 0, .ref q1, .ref q2, .ref q3, .ref q4, .null, .null, .null, .null, .null, .null])), (q1, .inl (g.2 0, 8, .inl (fun _ => 0))), (q2, .inl (g.2 0, 32, .inl (fun _ => 0))), (q3, .inl (g.2 0, 4, .inl (fun _ => 0))), (q4, .inl (g.2 0, 4, .inl (fun _ => 0)))] := hD
  refine lv_aload_n hx hb dX0_init_34 rfl (lv_at hl 0 rfl) ?_
  refine lv_bipush (v := 8) hx hb dX0_init_35 (by decide) ?_
  refine g_newa FC hKn hP hD hS hA (atype := .int) b_233 rfl 0 rfl (fun _ h => by cases h) (a0 := (8, .inl (fun _ => 0))) (fun _ => rfl) (by decide) (by decide) (by decide) (Nat.le_of_ble_eq_true rfl) (Nat.le_of_ble_eq_true rfl) dX0_init_37 (fun q5 H hP hD hS => ?_)
  have hP : va_P g.1 vwCl [(h0, .inr (0, [.int 0, .int 0, .int 0, .int 0, .int 0, .int 0, .int 0, .int 0, .int 0, .int 0, .ref q1, .ref q2, .ref q3, .ref q4, .null, .null, .null, .null, .null, .null])), (q1, .inl (g.2 0, 8, .inl (fun _ => 0))), (q2, .inl (g.2 0, 32, .inl (fun _ => 0))), (q3, .inl (g.2 0, 4, .inl (fun _ => 0))), (q4, .inl (g.2 0, 4, .inl (fun _ => 0))), (q5, .inl (g.2 0, 8, .inl (fun _ => 0)))] H := hP
  have hD : va_D A [(h0, .inr (0, [.int 0, .int 0, .int 0, .int 0, .int 0, .int 0, .int 0, .int 0, .int 0, .int 0, .ref q1, .ref q2, .ref q3, .ref q4, .null, .null, .null, .null, .null, .null])), (q1, .inl (g.2 0, 8, .inl (fun _ => 0))), (q2, .inl (g.2 0, 32, .inl (fun _ => 0))), (q3, .inl (g.2 0, 4, .inl (fun _ => 0))), (q4, .inl (g.2 0, 4, .inl (fun _ => 0))), (q5, .inl (g.2 0, 8, .inl (fun _ => 0)))] := hD
  refine g_putF (C := RX0) (T := TX0) (N := 20) (ci := 0) (v := .ref q5) FC hKn hP hD hS i_X0 tyX0 tyX0_ok nmX0 0 rfl rfl 14 (by decide) b_116 rfl hnm rfl rfl rfl (Nat.le_of_ble_eq_true rfl) dX0_init_39 (fun H locs hP hD hS => ?_)
  have hP : va_P g.1 vwCl [(h0, .inr (0, [.int 0, .int 0, .int 0, .int 0, .int 0, .int 0, .int 0, .int 0, .int 0, .int 0, .ref q1, .ref q2, .ref q3, .ref q4, .ref q5, .null, .null, .null, .null, .null])), (q1, .inl (g.2 0, 8, .inl (fun _ => 0))), (q2, .inl (g.2 0, 32, .inl (fun _ => 0))), (q3, .inl (g.2 0, 4, .inl (fun _ => 0))), (q4, .inl (g.2 0, 4, .inl (fun _ => 0))), (q5, .inl (g.2 0, 8, .inl (fun _ => 0)))] H := hP
  have hD : va_D A [(h0, .inr (0, [.int 0, .int 0, .int 0, .int 0, .int 0, .int 0, .int 0, .int 0, .int 0, .int 0, .ref q1, .ref q2, .ref q3, .ref q4, .ref q5, .null, .null, .null, .null, .null])), (q1, .inl (g.2 0, 8, .inl (fun _ => 0))), (q2, .inl (g.2 0, 32, .inl (fun _ => 0))), (q3, .inl (g.2 0, 4, .inl (fun _ => 0))), (q4, .inl (g.2 0, 4, .inl (fun _ => 0))), (q5, .inl (g.2 0, 8, .inl (fun _ => 0)))] := hD
  refine lv_aload_n hx hb dX0_init_42 rfl (lv_at hl 0 rfl) ?_
  refine lv_bipush (v := 8) hx hb dX0_init_43 (by decide) ?_
  refine g_newa FC hKn hP hD hS hA (atype := .int) b_233 rfl 0 rfl (fun _ h => by cases h) (a0 := (8, .inl (fun _ => 0))) (fun _ => rfl) (by decide) (by decide) (by decide) (Nat.le_of_ble_eq_true rfl) (Nat.le_of_ble_eq_true rfl) dX0_init_45 (fun q6 H hP hD hS => ?_)
  have hP : va_P g.1 vwCl [(h0, .inr (0, [.int 0, .int 0, .int 0, .int 0, .int 0, .int 0, .int 0, .int 0, .int 0, .int 0, .ref q1, .ref q2, .ref q3, .ref q4, .ref q5, .null, .null, .null, .null, .null])), (q1, .inl (g.2 0, 8, .inl (fun _ => 0))), (q2, .inl (g.2 0, 32, .inl (fun _ => 0))), (q3, .inl (g.2 0, 4, .inl (fun _ => 0))), (q4, .inl (g.2 0, 4, .inl (fun _ => 0))), (q5, .inl (g.2 0, 8, .inl (fun _ => 0))), (q6, .inl (g.2 0, 8, .inl (fun _ => 0)))] H := hP
  have hD : va_D A [(h0, .inr (0, [.int 0, .int 0, .int 0, .int 0, .int 0, .int 0, .int 0, .int 0, .int 0, .int 0, .ref q1, .ref q2, .ref q3, .ref q4, .ref q5, .null, .null, .null, .null, .null])), (q1, .inl (g.2 0, 8, .inl (fun _ => 0))), (q2, .inl (g.2 0, 32, .inl (fun _ => 0))), (q3, .inl (g.2 0, 4, .inl (fun _ => 0))), (q4, .inl (g.2 0, 4, .inl (fun _ => 0))), (q5, .inl (g.2 0, 8, .inl (fun _ => 0))), (q6, .inl (g.2 0, 8, .inl (fun _ => 0)))] := hD
  refine g_putF (C := RX0) (T := TX0) (N := 20) (ci := 0) (v := .ref q6) FC hKn hP hD hS i_X0 tyX0 tyX0_ok nmX0 0 rfl rfl 15 (by decide) b_117 rfl hnm rfl rfl rfl (Nat.le_of_ble_eq_true rfl) dX0_init_47 (fun H locs hP hD hS => ?_)
  have hP : va_P g.1 vwCl [(h0, .inr (0, [.int 0, .int 0, .int 0, .int 0, .int 0, .int 0, .int 0, .int 0, .int 0, .int 0, .ref q1, .ref q2, .ref q3, .ref q4, .ref q5, .ref q6, .null, .null, .null, .null])), (q1, .inl (g.2 0, 8, .inl (fun _ => 0))), (q2, .inl (g.2 0, 32, .inl (fun _ => 0))), (q3, .inl (g.2 0, 4, .inl (fun _ => 0))), (q4, .inl (g.2 0, 4, .inl (fun _ => 0))), (q5, .inl (g.2 0, 8, .inl (fun _ => 0))), (q6, .inl (g.2 0, 8, .inl (fun _ => 0)))] H := hP
  have hD : va_D A [(h0, .inr (0, [.int 0, .int 0, .int 0, .int 0, .int 0, .int 0, .int 0, .int 0, .int 0, .int 0, .ref q1, .ref q2, .ref q3, .ref q4, .ref q5, .ref q6, .null, .null, .null, .null])), (q1, .inl (g.2 0, 8, .inl (fun _ => 0))), (q2, .inl (g.2 0, 32, .inl (fun _ => 0))), (q3, .inl (g.2 0, 4, .inl (fun _ => 0))), (q4, .inl (g.2 0, 4, .inl (fun _ => 0))), (q5, .inl (g.2 0, 8, .inl (fun _ => 0))), (q6, .inl (g.2 0, 8, .inl (fun _ => 0)))] := hD
  refine lv_aload_n hx hb dX0_init_50 rfl (lv_at hl 0 rfl) ?_
  refine lv_iconst (v := 4) hx hb dX0_init_51 (by decide) ?_
  refine g_newa FC hKn hP hD hS hA (atype := .int) b_233 rfl 0 rfl (fun _ h => by cases h) (a0 := (4, .inl (fun _ => 0))) (fun _ => rfl) (by decide) (by decide) (by decide) (Nat.le_of_ble_eq_true rfl) (Nat.le_of_ble_eq_true rfl) dX0_init_52 (fun q7 H hP hD hS => ?_)
  have hP : va_P g.1 vwCl [(h0, .inr (0, [.int 0, .int 0, .int 0, .int 0, .int 0, .int 0, .int 0, .int 0, .int 0, .int 0, .ref q1, .ref q2, .ref q3, .ref q4, .ref q5, .ref q6, .null, .null, .null, .null])), (q1, .inl (g.2 0, 8, .inl (fun _ => 0))), (q2, .inl (g.2 0, 32, .inl (fun _ => 0))), (q3, .inl (g.2 0, 4, .inl (fun _ => 0))), (q4, .inl (g.2 0, 4, .inl (fun _ => 0))), (q5, .inl (g.2 0, 8, .inl (fun _ => 0))), (q6, .inl (g.2 0, 8, .inl (fun _ => 0))), (q7, .inl (g.2 0, 4, .inl (fun _ => 0)))] H := hP
  have hD : va_D A [(h0, .inr (0, [.int 0, .int 0, .int 0, .int 0, .int 0, .int 0, .int 0, .int 0, .int 0, .int 0, .ref q1, .ref q2, .ref q3, .ref q4, .ref q5, .ref q6, .null, .null, .null, .null])), (q1, .inl (g.2 0, 8, .inl (fun _ => 0))), (q2, .inl (g.2 0, 32, .inl (fun _ => 0))), (q3, .inl (g.2 0, 4, .inl (fun _ => 0))), (q4, .inl (g.2 0, 4, .inl (fun _ => 0))), (q5, .inl (g.2 0, 8, .inl (fun _ => 0))), (q6, .inl (g.2 0, 8, .inl (fun _ => 0))), (q7, .inl (g.2 0, 4, .inl (fun _ => 0)))] := hD
  refine g_putF (C := RX0) (T := TX0) (N := 20) (ci := 0) (v := .ref q7) FC hKn hP hD hS i_X0 tyX0 tyX0_ok nmX0 0 rfl rfl 16 (by decide) b_118 rfl hnm rfl rfl rfl (Nat.le_of_ble_eq_true rfl) dX0_init_54 (fun H locs hP hD hS => ?_)
  have hP : va_P g.1 vwCl [(h0, .inr (0, [.int 0, .int 0, .int 0, .int 0, .int 0, .int 0, .int 0, .int 0, .int 0, .int 0, .ref q1, .ref q2, .ref q3, .ref q4, .ref q5, .ref q6, .ref q7, .null, .null, .null])), (q1, .inl (g.2 0, 8, .inl (fun _ => 0))), (q2, .inl (g.2 0, 32, .inl (fun _ => 0))), (q3, .inl (g.2 0, 4, .inl (fun _ => 0))), (q4, .inl (g.2 0, 4, .inl (fun _ => 0))), (q5, .inl (g.2 0, 8, .inl (fun _ => 0))), (q6, .inl (g.2 0, 8, .inl (fun _ => 0))), (q7, .inl (g.2 0, 4, .inl (fun _ => 0)))] H := hP
  have hD : va_D A [(h0, .inr (0, [.int 0, .int 0, .int 0, .int 0, .int 0, .int 0, .int 0, .int 0, .int 0, .int 0, .ref q1, .ref q2, .ref q3, .ref q4, .ref q5, .ref q6, .ref q7, .null, .null, .null])), (q1, .inl (g.2 0, 8, .inl (fun _ => 0))), (q2, .inl (g.2 0, 32, .inl (fun _ => 0))), (q3, .inl (g.2 0, 4, .inl (fun _ => 0))), (q4, .inl (g.2 0, 4, .inl (fun _ => 0))), (q5, .inl (g.2 0, 8, .inl (fun _ => 0))), (q6, .inl (g.2 0, 8, .inl (fun _ => 0))), (q7, .inl (g.2 0, 4, .inl (fun _ => 0)))] := hD
  refine lv_aload_n hx hb dX0_init_57 rfl (lv_at hl 0 rfl) ?_
  refine lv_bipush (v := 20) hx hb dX0_init_58 (by decide) ?_
  refine g_newa FC hKn hP hD hS hA (atype := .int) b_233 rfl 0 rfl (fun _ h => by cases h) (a0 := (20, .inl (fun _ => 0))) (fun _ => rfl) (by decide) (by decide) (by decide) (Nat.le_of_ble_eq_true rfl) (Nat.le_of_ble_eq_true rfl) dX0_init_60 (fun q8 H hP hD hS => ?_)
  have hP : va_P g.1 vwCl [(h0, .inr (0, [.int 0, .int 0, .int 0, .int 0, .int 0, .int 0, .int 0, .int 0, .int 0, .int 0, .ref q1, .ref q2, .ref q3, .ref q4, .ref q5, .ref q6, .ref q7, .null, .null, .null])), (q1, .inl (g.2 0, 8, .inl (fun _ => 0))), (q2, .inl (g.2 0, 32, .inl (fun _ => 0))), (q3, .inl (g.2 0, 4, .inl (fun _ => 0))), (q4, .inl (g.2 0, 4, .inl (fun _ => 0))), (q5, .inl (g.2 0, 8, .inl (fun _ => 0))), (q6, .inl (g.2 0, 8, .inl (fun _ => 0))), (q7, .inl (g.2 0, 4, .inl (fun _ => 0))), (q8, .inl (g.2 0, 20, .inl (fun _ => 0)))] H := hP
  have hD : va_D A [(h0, .inr (0, [.int 0, .int 0, .int 0, .int 0, .int 0, .int 0, .int 0, .int 0, .int 0, .int 0, .ref q1, .ref q2, .ref q3, .ref q4, .ref q5, .ref q6, .ref q7, .null, .null, .null])), (q1, .inl (g.2 0, 8, .inl (fun _ => 0))), (q2, .inl (g.2 0, 32, .inl (fun _ => 0))), (q3, .inl (g.2 0, 4, .inl (fun _ => 0))), (q4, .inl (g.2 0, 4, .inl (fun _ => 0))), (q5, .inl (g.2 0, 8, .inl (fun _ => 0))), (q6, .inl (g.2 0, 8, .inl (fun _ => 0))), (q7, .inl (g.2 0, 4, .inl (fun _ => 0))), (q8, .inl (g.2 0, 20, .inl (fun _ => 0)))] := hD
  refine g_putF (C := RX0) (T := TX0) (N := 20) (ci := 0) (v := .ref q8) FC hKn hP hD hS i_X0 tyX0 tyX0_ok nmX0 0 rfl rfl 17 (by decide) b_119 rfl hnm rfl rfl rfl (Nat.le_of_ble_eq_true rfl) dX0_init_62 (fun H locs hP hD hS => ?_)
  have hP : va_P g.1 vwCl [(h0, .inr (0, [.int 0, .int 0, .int 0, .int 0, .int 0, .int 0, .int 0, .int 0, .int 0, .int 0, .ref q1, .ref q2, .ref q3, .ref q4, .ref q5, .ref q6, .ref q7, .ref q8, .null, .null])), (q1, .inl (g.2 0, 8, .inl (fun _ => 0))), (q2, .inl (g.2 0, 32, .inl (fun _ => 0))), (q3, .inl (g.2 0, 4, .inl (fun _ => 0))), (q4, .inl (g.2 0, 4, .inl (fun _ => 0))), (q5, .inl (g.2 0, 8, .inl (fun _ => 0))), (q6, .inl (g.2 0, 8, .inl (fun _ => 0))), (q7, .inl (g.2 0, 4, .inl (fun _ => 0))), (q8, .inl (g.2 0, 20, .inl (fun _ => 0)))] H := hP
  have hD : va_D A [(h0, .inr (0, [.int 0, .int 0, .int 0, .int 0, .int 0, .int 0, .int 0, .int 0, .int 0, .int 0, .ref q1, .ref q2, .ref q3, .ref q4, .ref q5, .ref q6, .ref q7, .ref q8, .null, .null])), (q1, .inl (g.2 0, 8, .inl (fun _ => 0))), (q2, .inl (g.2 0, 32, .inl (fun _ => 0))), (q3, .inl (g.2 0, 4, .inl (fun _ => 0))), (q4, .inl (g.2 0, 4, .inl (fun _ => 0))), (q5, .inl (g.2 0, 8, .inl (fun _ => 0))), (q6, .inl (g.2 0, 8, .inl (fun _ => 0))), (q7, .inl (g.2 0, 4, .inl (fun _ => 0))), (q8, .inl (g.2 0, 20, .inl (fun _ => 0)))] := hD
  refine lv_aload_n hx hb dX0_init_65 rfl (lv_at hl 0 rfl) ?_
  refine lv_bipush (v := 6) hx hb dX0_init_66 (by decide) ?_
  refine g_newa FC hKn hP hD hS hA (atype := .int) b_233 rfl 0 rfl (fun _ h => by cases h) (a0 := (6, .inl (fun _ => 0))) (fun _ => rfl) (by decide) (by decide) (by decide) (Nat.le_of_ble_eq_true rfl) (Nat.le_of_ble_eq_true rfl) dX0_init_68 (fun q9 H hP hD hS => ?_)
  have hP : va_P g.1 vwCl [(h0, .inr (0, [.int 0, .int 0, .int 0, .int 0, .int 0, .int 0, .int 0, .int 0, .int 0, .int 0, .ref q1, .ref q2, .ref q3, .ref q4, .ref q5, .ref q6, .ref q7, .ref q8, .null, .null])), (q1, .inl (g.2 0, 8, .inl (fun _ => 0))), (q2, .inl (g.2 0, 32, .inl (fun _ => 0))), (q3, .inl (g.2 0, 4, .inl (fun _ => 0))), (q4, .inl (g.2 0, 4, .inl (fun _ => 0))), (q5, .inl (g.2 0, 8, .inl (fun _ => 0))), (q6, .inl (g.2 0, 8, .inl (fun _ => 0))), (q7, .inl (g.2 0, 4, .inl (fun _ => 0))), (q8, .inl (g.2 0, 20, .inl (fun _ => 0))), (q9, .inl (g.2 0, 6, .inl (fun _ => 0)))] H := hP
  have hD : va_D A [(h0, .inr (0, [.int 0, .int 0, .int 0, .int 0, .int 0, .int 0, .int 0, .int 0, .int 0, .int 0, .ref q1, .ref q2, .ref q3, .ref q4, .ref q5, .ref q6, .ref q7, .ref q8, .null, .null])), (q1, .inl (g.2 0, 8, .inl (fun _ => 0))), (q2, .inl (g.2 0, 32, .inl (fun _ => 0))), (q3, .inl (g.2 0, 4, .inl (fun _ => 0))), (q4, .inl (g.2 0, 4, .inl (fun _ => 0))), (q5, .inl (g.2 0, 8, .inl (fun _ => 0))), (q6, .inl (g.2 0, 8, .inl (fun _ => 0))), (q7, .inl (g.2 0, 4, .inl (fun _ => 0))), (q8, .inl (g.2 0, 20, .inl (fun _ => 0))), (q9, .inl (g.2 0, 6, .inl (fun _ => 0)))] := hD
  refine g_putF (C := RX0) (T := TX0) (N := 20) (ci := 0) (v := .ref q9) FC hKn hP hD hS i_X0 tyX0 tyX0_ok nmX0 0 rfl rfl 18 (by decide) b_120 rfl hnm rfl rfl rfl (Nat.le_of_ble_eq_true rfl) dX0_init_70 (fun H locs hP hD hS => ?_)
  have hP : va_P g.1 vwCl [(h0, .inr (0, [.int 0, .int 0, .int 0, .int 0, .int 0, .int 0, .int 0, .int 0, .int 0, .int 0, .ref q1, .ref q2, .ref q3, .ref q4, .ref q5, .ref q6, .ref q7, .ref q8, .ref q9, .null])), (q1, .inl (g.2 0, 8, .inl (fun _ => 0))), (q2, .inl (g.2 0, 32, .inl (fun _ => 0))), (q3, .inl (g.2 0, 4, .inl (fun _ => 0))), (q4, .inl (g.2 0, 4, .inl (fun _ => 0))), (q5, .inl (g.2 0, 8, .inl (fun _ => 0))), (q6, .inl (g.2 0, 8, .inl (fun _ => 0))), (q7, .inl (g.2 0, 4, .inl (fun _ => 0))), (q8, .inl (g.2 0, 20, .inl (fun _ => 0))), (q9, .inl (g.2 0, 6, .inl (fun _ => 0)))] H := hP
  have hD : va_D A [(h0, .inr (0, [.int 0, .int 0, .int 0, .int 0, .int 0, .int 0, .int 0, .int 0, .int 0, .int 0, .ref q1, .ref q2, .ref q3, .ref q4, .ref q5, .ref q6, .ref q7, .ref q8, .ref q9, .null])), (q1, .inl (g.2 0, 8, .inl (fun _ => 0))), (q2, .inl (g.2 0, 32, .inl (fun _ => 0))), (q3, .inl (g.2 0, 4, .inl (fun _ => 0))), (q4, .inl (g.2 0, 4, .inl (fun _ => 0))), (q5, .inl (g.2 0, 8, .inl (fun _ => 0))), (q6, .inl (g.2 0, 8, .inl (fun _ => 0))), (q7, .inl (g.2 0, 4, .inl (fun _ => 0))), (q8, .inl (g.2 0, 20, .inl (fun _ => 0))), (q9, .inl (g.2 0, 6, .inl (fun _ => 0)))] := hD
  refine lv_aload_n hx hb dX0_init_73 rfl (lv_at hl 0 rfl) ?_
  refine g_new (C := RX3) (T := TX3) (N := 4) (ci := 3) (fs := [.null, .null, .null, .int 0]) FC hKn hP hD hS hA i_X3 tyX3 tyX3_ok b_235 b_236 b_191 rfl (fun j hj => by rcases (show j = 0 ∨ j = 1 ∨ j = 2 ∨ j = 3 by omega) with rfl | rfl | rfl | rfl <;> rfl) (Nat.le_of_ble_eq_true rfl) (Nat.le_of_ble_eq_true rfl) dX0_init_74 (fun q10 H hP hD hS => ?_)
  have hP : va_P g.1 vwCl [(h0, .inr (0, [.int 0, .int 0, .int 0, .int 0, .int 0, .int 0, .int 0, .int 0, .int 0, .int 0, .ref q1, .ref q2, .ref q3, .ref q4, .ref q5, .ref q6, .ref q7, .ref q8, .ref q9, .null])), (q1, .inl (g.2 0, 8, .inl (fun _ => 0))), (q2, .inl (g.2 0, 32, .inl (fun _ => 0))), (q3, .inl (g.2 0, 4, .inl (fun _ => 0))), (q4, .inl (g.2 0, 4, .inl (fun _ => 0))), (q5, .inl (g.2 0, 8, .inl (fun _ => 0))), (q6, .inl (g.2 0, 8, .inl (fun _ => 0))), (q7, .inl (g.2 0, 4, .inl (fun _ => 0))), (q8, .inl (g.2 0, 20, .inl (fun _ => 0))), (q9, .inl (g.2 0, 6, .inl (fun _ => 0))), (q10, .inr (3, [.null, .null, .null, .int 0]))] H := hP
  have hD : va_D A [(h0, .inr (0, [.int 0, .int 0, .int 0, .int 0, .int 0, .int 0, .int 0, .int 0, .int 0, .int 0, .ref q1, .ref q2, .ref q3, .ref q4, .ref q5, .ref q6, .ref q7, .ref q8, .ref q9, .null])), (q1, .inl (g.2 0, 8, .inl (fun _ => 0))), (q2, .inl (g.2 0, 32, .inl (fun _ => 0))), (q3, .inl (g.2 0, 4, .inl (fun _ => 0))), (q4, .inl (g.2 0, 4, .inl (fun _ => 0))), (q5, .inl (g.2 0, 8, .inl (fun _ => 0))), (q6, .inl (g.2 0, 8, .inl (fun _ => 0))), (q7, .inl (g.2 0, 4, .inl (fun _ => 0))), (q8, .inl (g.2 0, 20, .inl (fun _ => 0))), (q9, .inl (g.2 0, 6, .inl (fun _ => 0))), (q10, .inr (3, [.null, .null, .null, .int 0]))] := hD
  refine lv_dup hx hb dX0_init_77 rfl ?_
  refine call_IN (As := []) (rest := [.ref q10, .ref h0]) (wr := [(h0, .inr (0, [.int 0, .int 0, .int 0, .int 0, .int 0, .int 0, .int 0, .int 0, .int 0, .int 0, .ref q1, .ref q2, .ref q3, .ref q4, .ref q5, .ref q6, .ref q7, .ref q8, .ref q9, .null])), (q1, .inl (g.2 0, 8, .inl (fun _ => 0))), (q2, .inl (g.2 0, 32, .inl (fun _ => 0))), (q3, .inl (g.2 0, 4, .inl (fun _ => 0))), (q4, .inl (g.2 0, 4, .inl (fun _ => 0))), (q5, .inl (g.2 0, 8, .inl (fun _ => 0))), (q6, .inl (g.2 0, 8, .inl (fun _ => 0))), (q7, .inl (g.2 0, 4, .inl (fun _ => 0))), (q8, .inl (g.2 0, 20, .inl (fun _ => 0))), (q9, .inl (g.2 0, 6, .inl (fun _ => 0)))]) FC hKn (c_X3_init l g q10) m_yX3_init b_237 hP hD hS hA [10] [0, 1, 2, 3, 4, 5, 6, 7, 8, 9] rfl (by decide) rfl (by decide) (by decide) rfl hl.1 rfl (Nat.le_of_ble_eq_true rfl) dX0_init_78 ⟨(Nat.le_of_ble_eq_true rfl), (Nat.le_of_ble_eq_true rfl)⟩ ⟨(Nat.le_of_ble_eq_true rfl), (Nat.le_of_ble_eq_true rfl)⟩ (fun u11 H locs _ hP hD hS => ?_)
  have hP : va_P g.1 vwCl [(h0, .inr (0, [.int 0, .int 0, .int 0, .int 0, .int 0, .int 0, .int 0, .int 0, .int 0, .int 0, .ref q1, .ref q2, .ref q3, .ref q4, .ref q5, .ref q6, .ref q7, .ref q8, .ref q9, .null])), (q1, .inl (g.2 0, 8, .inl (fun _ => 0))), (q2, .inl (g.2 0, 32, .inl (fun _ => 0))), (q3, .inl (g.2 0, 4, .inl (fun _ => 0))), (q4, .inl (g.2 0, 4, .inl (fun _ => 0))), (q5, .inl (g.2 0, 8, .inl (fun _ => 0))), (q6, .inl (g.2 0, 8, .inl (fun _ => 0))), (q7, .inl (g.2 0, 4, .inl (fun _ => 0))), (q8, .inl (g.2 0, 20, .inl (fun _ => 0))), (q9, .inl (g.2 0, 6, .inl (fun _ => 0))), (q10, .inr (3, [.ref (u11 0), .ref (u11 1), .ref (u11 2), .int 0])), (u11 0, .inl (g.2 0, 60, .inl (fun _ => 0))), (u11 1, .inl (g.2 0, 60, .inl (fun _ => 0))), (u11 2, .inl (g.2 0, 60, .inl (fun _ => 0)))] H := hP
  have hD : va_D A [(h0, .inr (0, [.int 0, .int 0, .int 0, .int 0, .int 0, .int 0, .int 0, .int 0, .int 0, .int 0, .ref q1, .ref q2, .ref q3, .ref q4, .ref q5, .ref q6, .ref q7, .ref q8, .ref q9, .null])), (q1, .inl (g.2 0, 8, .inl (fun _ => 0))), (q2, .inl (g.2 0, 32, .inl (fun _ => 0))), (q3, .inl (g.2 0, 4, .inl (fun _ => 0))), (q4, .inl (g.2 0, 4, .inl (fun _ => 0))), (q5, .inl (g.2 0, 8, .inl (fun _ => 0))), (q6, .inl (g.2 0, 8, .inl (fun _ => 0))), (q7, .inl (g.2 0, 4, .inl (fun _ => 0))), (q8, .inl (g.2 0, 20, .inl (fun _ => 0))), (q9, .inl (g.2 0, 6, .inl (fun _ => 0))), (q10, .inr (3, [.ref (u11 0), .ref (u11 1), .ref (u11 2), .int 0])), (u11 0, .inl (g.2 0, 60, .inl (fun _ => 0))), (u11 1, .inl (g.2 0, 60, .inl (fun _ => 0))), (u11 2, .inl (g.2 0, 60, .inl (fun _ => 0)))] := hD
  refine W.eq (g2 := F0 m 81 ls [.ref q10, .ref h0]) rfl ?_
  refine g_putF (C := RX0) (T := TX0) (N := 20) (ci := 0) (v := .ref q10) FC hKn hP hD hS i_X0 tyX0 tyX0_ok nmX0 0 rfl rfl 19 (by decide) b_121 rfl hnm rfl rfl rfl (Nat.le_of_ble_eq_true rfl) dX0_init_81 (fun H locs hP hD hS => ?_)
  have hP : va_P g.1 vwCl [(h0, .inr (0, [.int 0, .int 0, .int 0, .int 0, .int 0, .int 0, .int 0, .int 0, .int 0, .int 0, .ref q1, .ref q2, .ref q3, .ref q4, .ref q5, .ref q6, .ref q7, .ref q8, .ref q9, .ref q10])), (q1, .inl (g.2 0, 8, .inl (fun _ => 0))), (q2, .inl (g.2 0, 32, .inl (fun _ => 0))), (q3, .inl (g.2 0, 4, .inl (fun _ => 0))), (q4, .inl (g.2 0, 4, .inl (fun _ => 0))), (q5, .inl (g.2 0, 8, .inl (fun _ => 0))), (q6, .inl (g.2 0, 8, .inl (fun _ => 0))), (q7, .inl (g.2 0, 4, .inl (fun _ => 0))), (q8, .inl (g.2 0, 20, .inl (fun _ => 0))), (q9, .inl (g.2 0, 6, .inl (fun _ => 0))), (q10, .inr (3, [.ref (u11 0), .ref (u11 1), .ref (u11 2), .int 0])), (u11 0, .inl (g.2 0, 60, .inl (fun _ => 0))), (u11 1, .inl (g.2 0, 60, .inl (fun _ => 0))), (u11 2, .inl (g.2 0, 60, .inl (fun _ => 0)))] H := hP
  have hD : va_D A [(h0, .inr (0, [.int 0, .int 0, .int 0, .int 0, .int 0, .int 0, .int 0, .int 0, .int 0, .int 0, .ref q1, .ref q2, .ref q3, .ref q4, .ref q5, .ref q6, .ref q7, .ref q8, .ref q9, .ref q10])), (q1, .inl (g.2 0, 8, .inl (fun _ => 0))), (q2, .inl (g.2 0, 32, .inl (fun _ => 0))), (q3, .inl (g.2 0, 4, .inl (fun _ => 0))), (q4, .inl (g.2 0, 4, .inl (fun _ => 0))), (q5, .inl (g.2 0, 8, .inl (fun _ => 0))), (q6, .inl (g.2 0, 8, .inl (fun _ => 0))), (q7, .inl (g.2 0, 4, .inl (fun _ => 0))), (q8, .inl (g.2 0, 20, .inl (fun _ => 0))), (q9, .inl (g.2 0, 6, .inl (fun _ => 0))), (q10, .inr (3, [.ref (u11 0), .ref (u11 1), .ref (u11 2), .int 0])), (u11 0, .inl (g.2 0, 60, .inl (fun _ => 0))), (u11 1, .inl (g.2 0, 60, .inl (fun _ => 0))), (u11 2, .inl (g.2 0, 60, .inl (fun _ => 0)))] := hD
  exact rt_v FX (fun k => ([q1, q2, q3, q4, q5, q6, q7, q8, q9, q10, u11 0, u11 1, u11 2] : List Nat).getD k 0) rfl trivial (hP.sub [0, 1, 2, 3, 4, 5, 6, 7, 8, 9, 10, 11, 12, 13] rfl) (hD.sub [0, 1, 2, 3, 4, 5, 6, 7, 8, 9, 10, 11, 12, 13] (by decide) rfl) hS (Nat.le_of_ble_eq_true rfl) (Nat.le_of_ble_eq_true rfl) dX0_init_84
set_option maxRecDepth 100000 in
set_option maxHeartbeats 4000000 in
theorem c_X9_init (l : Launch) (g : GG) (h0 : Nat) : Ct l g yX9_init cX9_init 1 none { frames := 1, cells := 1, slots := 900, locals := 12 } [.ref h0] [(h0, .inr (9, [.null, .int 0, .int 0, .int 0, .int 0, .int 0]))] (S := Nat → Nat) (fun _ => none) (fun _ => True) (fun u => [(h0, .inr (9, [.ref (u 0), .int 0, .int 0, .int 0, .int 0, .int 0])), (u 0, .inl (g.2 1, 900, .inl (fun _ => 0)))]) := by
  refine Ct.of (by decide) (Nat.le_of_ble_eq_true rfl) ?_
  intro p e s m below meth c A ls FX hP hD hS hl
  obtain ⟨FC, hr, hlk, hKn, hA, hnm⟩ := id FX
  have FC : CallFix p m c cX9_init 1 s _ BIG RX9 := FC
  obtain ⟨hx, hb, hml, hown, hB⟩ := id FC
  have hl : lv_has ls 1 [(0, .ref h0)] := hl
  refine lv_aload_n hx hb dX9_init_0 rfl (lv_at hl 0 rfl) ?_
  refine W.objInit hx hb hown (hB _ b_238) (hB _ b_231) (hB _ b_232) rfl (by rw [hml]; exact hl.1) rfl dX9_init_1 (Nat.le_of_ble_eq_true rfl) (Nat.le_of_ble_eq_true rfl) ?_
  refine W.eq (g2 := F0 m 4 ls []) rfl ?_
  refine lv_aload_n hx hb dX9_init_4 rfl (lv_at hl 0 rfl) ?_
  refine lv_sipush (v := 900) hx hb dX9_init_5 (by decide) ?_
  refine g_newa FC hKn hP hD hS hA (atype := .byte) b_239 rfl 1 rfl (fun _ h => by cases h) (a0 := (900, .inl (fun _ => 0))) (fun _ => rfl) (by decide) (by decide) (by decide) (Nat.le_of_ble_eq_true rfl) (Nat.le_of_ble_eq_true rfl) dX9_init_8 (fun q1 H hP hD hS => ?_)
  have hP : va_P g.1 vwCl [(h0, .inr (9, [.null, .int 0, .int 0, .int 0, .int 0, .int 0])), (q1, .inl (g.2 1, 900, .inl (fun _ => 0)))] H := hP
  have hD : va_D A [(h0, .inr (9, [.null, .int 0, .int 0, .int 0, .int 0, .int 0])), (q1, .inl (g.2 1, 900, .inl (fun _ => 0)))] := hD
  refine g_putF (C := RX9) (T := TX9) (N := 6) (ci := 9) (v := .ref q1) FC hKn hP hD hS i_X9 tyX9 tyX9_ok nmX9 0 rfl rfl 0 (by decide) b_131 rfl hnm rfl rfl rfl (Nat.le_of_ble_eq_true rfl) dX9_init_10 (fun H locs hP hD hS => ?_)
  have hP : va_P g.1 vwCl [(h0, .inr (9, [.ref q1, .int 0, .int 0, .int 0, .int 0, .int 0])), (q1, .inl (g.2 1, 900, .inl (fun _ => 0)))] H := hP
  have hD : va_D A [(h0, .inr (9, [.ref q1, .int 0, .int 0, .int 0, .int 0, .int 0])), (q1, .inl (g.2 1, 900, .inl (fun _ => 0)))] := hD
  exact rt_v FX (fun k => ([q1] : List Nat).getD k 0) rfl trivial (hP.sub [0, 1] rfl) (hD.sub [0, 1] (by decide) rfl) hS (Nat.le_of_ble_eq_true rfl) (Nat.le_of_ble_eq_true rfl) dX9_init_13
set_option maxRecDepth 100000 in
set_option maxHeartbeats 4000000 in
theorem c_X1_init (l : Launch) (g : GG) (h0 : Nat) : Ct l g yX1_init cX1_init 1 none { frames := 3, cells := 16, slots := 1204, locals := 52 } [.ref h0] [(h0, .inr (1, [.null, .null, .int 0, .int 0, .int 0]))] (S := Nat → Nat) (fun _ => none) (fun _ => True) (fun u => [(h0, .inr (1, [.ref (u 0), .ref (u 2), .int 0, .int (-1), .int 0])), (u 0, .inr (9, [.ref (u 1), .int 0, .int 0, .int 0, .int 0, .int 0])), (u 1, .inl (g.2 1, 900, .inl (fun _ => 0))), (u 2, .inr (0, [.int 0, .int 0, .int 0, .int 0, .int 0, .int 0, .int 0, .int 0, .int 0, .int 0, .ref (u 3), .ref (u 4), .ref (u 5), .ref (u 6), .ref (u 7), .ref (u 8), .ref (u 9), .ref (u 10), .ref (u 11), .ref (u 12)])), (u 3, .inl (g.2 0, 8, .inl (fun _ => 0))), (u 4, .inl (g.2 0, 32, .inl (fun _ => 0))), (u 5, .inl (g.2 0, 4, .inl (fun _ => 0))), (u 6, .inl (g.2 0, 4, .inl (fun _ => 0))), (u 7, .inl (g.2 0, 8, .inl (fun _ => 0))), (u 8, .inl (g.2 0, 8, .inl (fun _ => 0))), (u 9, .inl (g.2 0, 4, .inl (fun _ => 0))), (u 10, .inl (g.2 0, 20, .inl (fun _ => 0))), (u 11, .inl (g.2 0, 6, .inl (fun _ => 0))), (u 12, .inr (3, [.ref (u 13), .ref (u 14), .ref (u 15), .int 0])), (u 13, .inl (g.2 0, 60, .inl (fun _ => 0))), (u 14, .inl (g.2 0, 60, .inl (fun _ => 0))), (u 15, .inl (g.2 0, 60, .inl (fun _ => 0)))]) := by
  refine Ct.of (by decide) (Nat.le_of_ble_eq_true rfl) ?_
  intro p e s m below meth c A ls FX hP hD hS hl
  obtain ⟨FC, hr, hlk, hKn, hA, hnm⟩ := id FX
  have FC : CallFix p m c cX1_init 1 s _ BIG RX1 := FC
  obtain ⟨hx, hb, hml, hown, hB⟩ := id FC
  have hl : lv_has ls 1 [(0, .ref h0)] := hl
  refine lv_aload_n hx hb dX1_init_0 rfl (lv_at hl 0 rfl) ?_
  refine W.objInit hx hb hown (hB _ b_240) (hB _ b_231) (hB _ b_232) rfl (by rw [hml]; exact hl.1) rfl dX1_init_1 (Nat.le_of_ble_eq_true rfl) (Nat.le_of_ble_eq_true rfl) ?_
  refine W.eq (g2 := F0 m 4 ls []) rfl ?_
  refine lv_aload_n hx hb dX1_init_4 rfl (lv_at hl 0 rfl) ?_
  refine g_new (C := RX9) (T := TX9) (N := 6) (ci := 9) (fs := [.null, .int 0, .int 0, .int 0, .int 0, .int 0]) FC hKn hP hD hS hA i_X9 tyX9 tyX9_ok b_241 b_242 b_199 rfl (fun j hj => by rcases (show j = 0 ∨ j = 1 ∨ j = 2 ∨ j = 3 ∨ j = 4 ∨ j = 5 by omega) with rfl | rfl | rfl | rfl | rfl | rfl <;> rfl) (Nat.le_of_ble_eq_true rfl) (Nat.le_of_ble_eq_true rfl) dX1_init_5 (fun q1 H hP hD hS => ?_)
  have hP : va_P g.1 vwCl [(h0, .inr (1, [.null, .null, .int 0, .int 0, .int 0])), (q1, .inr (9, [.null, .int 0, .int 0, .int 0, .int 0, .int 0]))] H := hP
  have hD : va_D A [(h0, .inr (1, [.null, .null, .int 0, .int 0, .int 0])), (q1, .inr (9, [.null, .int 0, .int 0, .int 0, .int 0, .int 0]))] := hD
  refine lv_dup hx hb dX1_init_8 rfl ?_
  refine call_IN (As := []) (rest := [.ref q1, .ref h0]) (wr := [(h0, .inr (1, [.null, .null, .int 0, .int 0, .int 0]))]) FC hKn (c_X9_init l g q1) m_yX9_init b_243 hP hD hS hA [1] [0] rfl (by decide) rfl (by decide) (by decide) rfl hl.1 rfl (Nat.le_of_ble_eq_true rfl) dX1_init_9 ⟨(Nat.le_of_ble_eq_true rfl), (Nat.le_of_ble_eq_true rfl)⟩ ⟨(Nat.le_of_ble_eq_true rfl), (Nat.le_of_ble_eq_true rfl)⟩ (fun u2 H locs _ hP hD hS => ?_)
  have hP : va_P g.1 vwCl [(h0, .inr (1, [.null, .null, .int 0, .int 0, .int 0])), (q1, .inr (9, [.ref (u2 0), .int 0, .int 0, .int 0, .int 0, .int 0])), (u2 0, .inl (g.2 1, 900, .inl (fun _ => 0)))] H := hP
  have hD : va_D A [(h0, .inr (1, [.null, .null, .int 0, .int 0, .int 0])), (q1, .inr (9, [.ref (u2 0), .int 0, .int 0, .int 0, .int 0, .int 0])), (u2 0, .inl (g.2 1, 900, .inl (fun _ => 0)))] := hD
  refine W.eq (g2 := F0 m 12 ls [.ref q1, .ref h0]) rfl ?_
  refine g_putF (C := RX1) (T := TX1) (N := 5) (ci := 1) (v := .ref q1) FC hKn hP hD hS i_X1 tyX1 tyX1_ok nmX1 0 rfl rfl 0 (by decide) b_136 rfl hnm rfl rfl rfl (Nat.le_of_ble_eq_true rfl) dX1_init_12 (fun H locs hP hD hS => ?_)
  have hP : va_P g.1 vwCl [(h0, .inr (1, [.ref q1, .null, .int 0, .int 0, .int 0])), (q1, .inr (9, [.ref (u2 0), .int 0, .int 0, .int 0, .int 0, .int 0])), (u2 0, .inl (g.2 1, 900, .inl (fun _ => 0)))] H := hP
  have hD : va_D A [(h0, .inr (1, [.ref q1, .null, .int 0, .int 0, .int 0])), (q1, .inr (9, [.ref (u2 0), .int 0, .int 0, .int 0, .int 0, .int 0])), (u2 0, .inl (g.2 1, 900, .inl (fun _ => 0)))] := hD
  refine lv_aload_n hx hb dX1_init_15 rfl (lv_at hl 0 rfl) ?_
  refine g_new (C := RX0) (T := TX0) (N := 20) (ci := 0) (fs := [.int 0, .int 0, .int 0, .int 0, .int 0, .int 0, .int 0, .int 0, .int 0, .int 0, .null, .null, .null, .null, .null, .null, .null, .null, .null, .null]) FC hKn hP hD hS hA i_X0 tyX0 tyX0_ok b_244 b_245 b_47 rfl (fun j hj => by rcases (show j = 0 ∨ j = 1 ∨ j = 2 ∨ j = 3 ∨ j = 4 ∨ j = 5 ∨ j = 6 ∨ j = 7 ∨ j = 8 ∨ j = 9 ∨ j = 10 ∨ j = 11 ∨ j = 12 ∨ j = 13 ∨ j = 14 ∨ j = 15 ∨ j = 16 ∨ j = 17 ∨ j = 18 ∨ j = 19 by omega) with rfl | rfl | rfl | rfl | rfl | rfl | rfl | rfl | rfl | rfl | rfl | rfl | rfl | rfl | rfl | rfl | rfl | rfl | rfl | rfl <;> rfl) (Nat.le_of_ble_eq_true rfl) (Nat.le_of_ble_eq_true rfl) dX1_init_16 (fun q3 H hP hD hS => ?_)
  have hP : va_P g.1 vwCl [(h0, .inr (1, [.ref q1, .null, .int 0, .int 0, .int 0])), (q1, .inr (9, [.ref (u2 0), .int 0, .int 0, .int 0, .int 0, .int 0])), (u2 0, .inl (g.2 1, 900, .inl (fun _ => 0))), (q3, .inr (0, [.int 0, .int 0, .int 0, .int 0, .int 0, .int 0, .int 0, .int 0, .int 0, .int 0, .null, .null, .null, .null, .null, .null, .null, .null, .null, .null]))] H := hP
  have hD : va_D A [(h0, .inr (1, [.ref q1, .null, .int 0, .int 0, .int 0])), (q1, .inr (9, [.ref (u2 0), .int 0, .int 0, .int 0, .int 0, .int 0])), (u2 0, .inl (g.2 1, 900, .inl (fun _ => 0))), (q3, .inr (0, [.int 0, .int 0, .int 0, .int 0, .int 0, .int 0, .int 0, .int 0, .int 0, .int 0, .null, .null, .null, .null, .null, .null, .null, .null, .null, .null]))] := hD
  refine lv_dup hx hb dX1_init_19 rfl ?_
  refine call_IN (As := []) (rest := [.ref q3, .ref h0]) (wr := [(h0, .inr (1, [.ref q1, .null, .int 0, .int 0, .int 0])), (q1, .inr (9, [.ref (u2 0), .int 0, .int 0, .int 0, .int 0, .int 0])), (u2 0, .inl (g.2 1, 900, .inl (fun _ => 0)))]) FC hKn (c_X0_init l g q3) m_yX0_init b_246 hP hD hS hA [3] [0, 1, 2] rfl (by decide) rfl (by decide) (by decide) rfl hl.1 rfl (Nat.le_of_ble_eq_true rfl) dX1_init_20 ⟨(Nat.le_of_ble_eq_true rfl), (Nat.le_of_ble_eq_true rfl)⟩ ⟨(Nat.le_of_ble_eq_true rfl), (Nat.le_of_ble_eq_true rfl)⟩ (fun u4 H locs _ hP hD hS => ?_)
  have hP : va_P g.1 vwCl [(h0, .inr (1, [.ref q1, .null, .int 0, .int 0, .int 0])), (q1, .inr (9, [.ref (u2 0), .int 0, .int 0, .int 0, .int 0, .int 0])), (u2 0, .inl (g.2 1, 900, .inl (fun _ => 0))), (q3, .inr (0, [.int 0, .int 0, .int 0, .int 0, .int 0, .int 0, .int 0, .int 0, .int 0, .int 0, .ref (u4 0), .ref (u4 1), .ref (u4 2), .ref (u4 3), .ref (u4 4), .ref (u4 5), .ref (u4 6), .ref (u4 7), .ref (u4 8), .ref (u4 9)])), (u4 0, .inl (g.2 0, 8, .inl (fun _ => 0))), (u4 1, .inl (g.2 0, 32, .inl (fun _ => 0))), (u4 2, .inl (g.2 0, 4, .inl (fun _ => 0))), (u4 3, .inl (g.2 0, 4, .inl (fun _ => 0))), (u4 4, .inl (g.2 0, 8, .inl (fun _ => 0))), (u4 5, .inl (g.2 0, 8, .inl (fun _ => 0))), (u4 6, .inl (g.2 0, 4, .inl (fun _ => 0))), (u4 7, .inl (g.2 0, 20, .inl (fun _ => 0))), (u4 8, .inl (g.2 0, 6, .inl (fun _ => 0))), (u4 9, .inr (3, [.ref (u4 10), .ref (u4 11), .ref (u4 12), .int 0])), (u4 10, .inl (g.2 0, 60, .inl (fun _ => 0))), (u4 11, .inl (g.2 0, 60, .inl (fun _ => 0))), (u4 12, .inl (g.2 0, 60, .inl (fun _ => 0)))] H := hP
  have hD : va_D A [(h0, .inr (1, [.ref q1, .null, .int 0, .int 0, .int 0])), (q1, .inr (9, [.ref (u2 0), .int 0, .int 0, .int 0, .int 0, .int 0])), (u2 0, .inl (g.2 1, 900, .inl (fun _ => 0))), (q3, .inr (0, [.int 0, .int 0, .int 0, .int 0, .int 0, .int 0, .int 0, .int 0, .int 0, .int 0, .ref (u4 0), .ref (u4 1), .ref (u4 2), .ref (u4 3), .ref (u4 4), .ref (u4 5), .ref (u4 6), .ref (u4 7), .ref (u4 8), .ref (u4 9)])), (u4 0, .inl (g.2 0, 8, .inl (fun _ => 0))), (u4 1, .inl (g.2 0, 32, .inl (fun _ => 0))), (u4 2, .inl (g.2 0, 4, .inl (fun _ => 0))), (u4 3, .inl (g.2 0, 4, .inl (fun _ => 0))), (u4 4, .inl (g.2 0, 8, .inl (fun _ => 0))), (u4 5, .inl (g.2 0, 8, .inl (fun _ => 0))), (u4 6, .inl (g.2 0, 4, .inl (fun _ => 0))), (u4 7, .inl (g.2 0, 20, .inl (fun _ => 0))), (u4 8, .inl (g.2 0, 6, .inl (fun _ => 0))), (u4 9, .inr (3, [.ref (u4 10), .ref (u4 11), .ref (u4 12), .int 0])), (u4 10, .inl (g.2 0, 60, .inl (fun _ => 0))), (u4 11, .inl (g.2 0, 60, .inl (fun _ => 0))), (u4 12, .inl (g.2 0, 60, .inl (fun _ => 0)))] := hD
  refine W.eq (g2 := F0 m 23 ls [.ref q3, .ref h0]) rfl ?_
  refine g_putF (C := RX1) (T := TX1) (N := 5) (ci := 1) (v := .ref q3) FC hKn hP hD hS i_X1 tyX1 tyX1_ok nmX1 0 rfl rfl 1 (by decide) b_134 rfl hnm rfl rfl rfl (Nat.le_of_ble_eq_true rfl) dX1_init_23 (fun H locs hP hD hS => ?_)
  have hP : va_P g.1 vwCl [(h0, .inr (1, [.ref q1, .ref q3, .int 0, .int 0, .int 0])), (q1, .inr (9, [.ref (u2 0), .int 0, .int 0, .int 0, .int 0, .int 0])), (u2 0, .inl (g.2 1, 900, .inl (fun _ => 0))), (q3, .inr (0, [.int 0, .int 0, .int 0, .int 0, .int 0, .int 0, .int 0, .int 0, .int 0, .int 0, .ref (u4 0), .ref (u4 1), .ref (u4 2), .ref (u4 3), .ref (u4 4), .ref (u4 5), .ref (u4 6), .ref (u4 7), .ref (u4 8), .ref (u4 9)])), (u4 0, .inl (g.2 0, 8, .inl (fun _ => 0))), (u4 1, .inl (g.2 0, 32, .inl (fun _ => 0))), (u4 2, .inl (g.2 0, 4, .inl (fun _ => 0))), (u4 3, .inl (g.2 0, 4, .inl (fun _ => 0))), (u4 4, .inl (g.2 0, 8, .inl (fun _ => 0))), (u4 5, .inl (g.2 0, 8, .inl (fun _ => 0))), (u4 6, .inl (g.2 0, 4, .inl (fun _ => 0))), (u4 7, .inl (g.2 0, 20, .inl (fun _ => 0))), (u4 8, .inl (g.2 0, 6, .inl (fun _ => 0))), (u4 9, .inr (3, [.ref (u4 10), .ref (u4 11), .ref (u4 12), .int 0])), (u4 10, .inl (g.2 0, 60, .inl (fun _ => 0))), (u4 11, .inl (g.2 0, 60, .inl (fun _ => 0))), (u4 12, .inl (g.2 0, 60, .inl (fun _ => 0)))] H := hP
  have hD : va_D A [(h0, .inr (1, [.ref q1, .ref q3, .int 0, .int 0, .int 0])), (q1, .inr (9, [.ref (u2 0), .int 0, .int 0, .int 0, .int 0, .int 0])), (u2 0, .inl (g.2 1, 900, .inl (fun _ => 0))), (q3, .inr (0, [.int 0, .int 0, .int 0, .int 0, .int 0, .int 0, .int 0, .int 0, .int 0, .int 0, .ref (u4 0), .ref (u4 1), .ref (u4 2), .ref (u4 3), .ref (u4 4), .ref (u4 5), .ref (u4 6), .ref (u4 7), .ref (u4 8), .ref (u4 9)])), (u4 0, .inl (g.2 0, 8, .inl (fun _ => 0))), (u4 1, .inl (g.2 0, 32, .inl (fun _ => 0))), (u4 2, .inl (g.2 0, 4, .inl (fun _ => 0))), (u4 3, .inl (g.2 0, 4, .inl (fun _ => 0))), (u4 4, .inl (g.2 0, 8, .inl (fun _ => 0))), (u4 5, .inl (g.2 0, 8, .inl (fun _ => 0))), (u4 6, .inl (g.2 0, 4, .inl (fun _ => 0))), (u4 7, .inl (g.2 0, 20, .inl (fun _ => 0))), (u4 8, .inl (g.2 0, 6, .inl (fun _ => 0))), (u4 9, .inr (3, [.ref (u4 10), .ref (u4 11), .ref (u4 12), .int 0])), (u4 10, .inl (g.2 0, 60, .inl (fun _ => 0))), (u4 11, .inl (g.2 0, 60, .inl (fun _ => 0))), (u4 12, .inl (g.2 0, 60, .inl (fun _ => 0)))] := hD
  refine lv_aload_n hx hb dX1_init_26 rfl (lv_at hl 0 rfl) ?_
  refine lv_iconst (v := -1) hx hb dX1_init_27 (by decide) ?_
  refine g_put (C := RX1) (T := TX1) (N := 5) (ci := 1) (v := .int (-1)) FC hKn hP hD hS i_X1 tyX1 tyX1_ok nmX1 0 rfl rfl 3 (by decide) b_133 rfl rfl rfl (Nat.le_of_ble_eq_true rfl) dX1_init_28 (fun H locs hP hD hS => ?_)
  have hP : va_P g.1 vwCl [(h0, .inr (1, [.ref q1, .ref q3, .int 0, .int (-1), .int 0])), (q1, .inr (9, [.ref (u2 0), .int 0, .int 0, .int 0, .int 0, .int 0])), (u2 0, .inl (g.2 1, 900, .inl (fun _ => 0))), (q3, .inr (0, [.int 0, .int 0, .int 0, .int 0, .int 0, .int 0, .int 0, .int 0, .int 0, .int 0, .ref (u4 0), .ref (u4 1), .ref (u4 2), .ref (u4 3), .ref (u4 4), .ref (u4 5), .ref (u4 6), .ref (u4 7), .ref (u4 8), .ref (u4 9)])), (u4 0, .inl (g.2 0, 8, .inl (fun _ => 0))), (u4 1, .inl (g.2 0, 32, .inl (fun _ => 0))), (u4 2, .inl (g.2 0, 4, .inl (fun _ => 0))), (u4 3, .inl (g.2 0, 4, .inl (fun _ => 0))), (u4 4, .inl (g.2 0, 8, .inl (fun _ => 0))), (u4 5, .inl (g.2 0, 8, .inl (fun _ => 0))), (u4 6, .inl (g.2 0, 4, .inl (fun _ => 0))), (u4 7, .inl (g.2 0, 20, .inl (fun _ => 0))), (u4 8, .inl (g.2 0, 6, .inl (fun _ => 0))), (u4 9, .inr (3, [.ref (u4 10), .ref (u4 11), .ref (u4 12), .int 0])), (u4 10, .inl (g.2 0, 60, .inl (fun _ => 0))), (u4 11, .inl (g.2 0, 60, .inl (fun _ => 0))), (u4 12, .inl (g.2 0, 60, .inl (fun _ => 0)))] H := hP
  have hD : va_D A [(h0, .inr (1, [.ref q1, .ref q3, .int 0, .int (-1), .int 0])), (q1, .inr (9, [.ref (u2 0), .int 0, .int 0, .int 0, .int 0, .int 0])), (u2 0, .inl (g.2 1, 900, .inl (fun _ => 0))), (q3, .inr (0, [.int 0, .int 0, .int 0, .int 0, .int 0, .int 0, .int 0, .int 0, .int 0, .int 0, .ref (u4 0), .ref (u4 1), .ref (u4 2), .ref (u4 3), .ref (u4 4), .ref (u4 5), .ref (u4 6), .ref (u4 7), .ref (u4 8), .ref (u4 9)])), (u4 0, .inl (g.2 0, 8, .inl (fun _ => 0))), (u4 1, .inl (g.2 0, 32, .inl (fun _ => 0))), (u4 2, .inl (g.2 0, 4, .inl (fun _ => 0))), (u4 3, .inl (g.2 0, 4, .inl (fun _ => 0))), (u4 4, .inl (g.2 0, 8, .inl (fun _ => 0))), (u4 5, .inl (g.2 0, 8, .inl (fun _ => 0))), (u4 6, .inl (g.2 0, 4, .inl (fun _ => 0))), (u4 7, .inl (g.2 0, 20, .inl (fun _ => 0))), (u4 8, .inl (g.2 0, 6, .inl (fun _ => 0))), (u4 9, .inr (3, [.ref (u4 10), .ref (u4 11), .ref (u4 12), .int 0])), (u4 10, .inl (g.2 0, 60, .inl (fun _ => 0))), (u4 11, .inl (g.2 0, 60, .inl (fun _ => 0))), (u4 12, .inl (g.2 0, 60, .inl (fun _ => 0)))] := hD
  exact rt_v FX (fun k => ([q1, u2 0, q3, u4 0, u4 1, u4 2, u4 3, u4 4, u4 5, u4 6, u4 7, u4 8, u4 9, u4 10, u4 11, u4 12] : List Nat).getD k 0) rfl trivial (hP.sub [0, 1, 2, 3, 4, 5, 6, 7, 8, 9, 10, 11, 12, 13, 14, 15, 16] rfl) (hD.sub [0, 1, 2, 3, 4, 5, 6, 7, 8, 9, 10, 11, 12, 13, 14, 15, 16] (by decide) rfl) hS (Nat.le_of_ble_eq_true rfl) (Nat.le_of_ble_eq_true rfl) dX1_init_31
set_option maxRecDepth 100000 in
set_option maxHeartbeats 4000000 in
theorem c_X8_init (l : Launch) (g : GG) (h0 : Nat) : Ct l g yX8_init cX8_init 1 none { frames := 1, cells := 1, slots := 60, locals := 12 } [.ref h0] [(h0, .inr (8, [.null, .int 0, .int 0, .int 0]))] (S := Nat → Nat) (fun _ => none) (fun _ => True) (fun u => [(h0, .inr (8, [.ref (u 0), .int 0, .int 0, .int 0])), (u 0, .inl (g.2 3, 60, .inr (.inl (fun _ => 0))))]) := by
  refine Ct.of (by decide) (Nat.le_of_ble_eq_true rfl) ?_
  intro p e s m below meth c A ls FX hP hD hS hl
  obtain ⟨FC, hr, hlk, hKn, hA, hnm⟩ := id FX
  have FC : CallFix p m c cX8_init 1 s _ BIG RX8 := FC
  obtain ⟨hx, hb, hml, hown, hB⟩ := id FC
  have hl : lv_has ls 1 [(0, .ref h0)] := hl
  refine lv_aload_n hx hb dX8_init_0 rfl (lv_at hl 0 rfl) ?_
  refine W.objInit hx hb hown (hB _ b_247) (hB _ b_231) (hB _ b_232) rfl (by rw [hml]; exact hl.1) rfl dX8_init_1 (Nat.le_of_ble_eq_true rfl) (Nat.le_of_ble_eq_true rfl) ?_
  refine W.eq (g2 := F0 m 4 ls []) rfl ?_
  refine lv_aload_n hx hb dX8_init_4 rfl (lv_at hl 0 rfl) ?_
  refine lv_bipush (v := 60) hx hb dX8_init_5 (by decide) ?_
  refine g_newa FC hKn hP hD hS hA (atype := .long) b_248 rfl 3 rfl (fun _ h => by cases h) (a0 := (60, .inr (.inl (fun _ => 0)))) (fun _ => rfl) (by decide) (by decide) (by decide) (Nat.le_of_ble_eq_true rfl) (Nat.le_of_ble_eq_true rfl) dX8_init_7 (fun q1 H hP hD hS => ?_)
  have hP : va_P g.1 vwCl [(h0, .inr (8, [.null, .int 0, .int 0, .int 0])), (q1, .inl (g.2 3, 60, .inr (.inl (fun _ => 0))))] H := hP
  have hD : va_D A [(h0, .inr (8, [.null, .int 0, .int 0, .int 0])), (q1, .inl (g.2 3, 60, .inr (.inl (fun _ => 0))))] := hD
  refine g_putF (C := RX8) (T := TX8) (N := 4) (ci := 8) (v := .ref q1) FC hKn hP hD hS i_X8 tyX8 tyX8_ok nmX8 0 rfl rfl 0 (by decide) b_145 rfl hnm rfl rfl rfl (Nat.le_of_ble_eq_true rfl) dX8_init_9 (fun H locs hP hD hS => ?_)
  have hP : va_P g.1 vwCl [(h0, .inr (8, [.ref q1, .int 0, .int 0, .int 0])), (q1, .inl (g.2 3, 60, .inr (.inl (fun _ => 0))))] H := hP
  have hD : va_D A [(h0, .inr (8, [.ref q1, .int 0, .int 0, .int 0])), (q1, .inl (g.2 3, 60, .inr (.inl (fun _ => 0))))] := hD
  exact rt_v FX (fun k => ([q1] : List Nat).getD k 0) rfl trivial (hP.sub [0, 1] rfl) (hD.sub [0, 1] (by decide) rfl) hS (Nat.le_of_ble_eq_true rfl) (Nat.le_of_ble_eq_true rfl) dX8_init_12
set_option maxRecDepth 100000 in
set_option maxHeartbeats 4000000 in
theorem c_X10_init (l : Launch) (g : GG) (h0 : Nat) : Ct l g yX10_init cX10_init 1 none { frames := 1, cells := 5, slots := 42, locals := 12 } [.ref h0] [(h0, .inr (10, [.null, .null, .null, .null, .null, .int 0, .int 0, .int 0, .int 0, .int 0]))] (S := Unit) (fun _ => none) (fun _ => True) (fun u => []) := by
  refine Ct.of (by decide) (Nat.le_of_ble_eq_true rfl) ?_
  intro p e s m below meth c A ls FX hP hD hS hl
  obtain ⟨FC, hr, hlk, hKn, hA, hnm⟩ := id FX
  have FC : CallFix p m c cX10_init 1 s _ BIG RX10 := FC
  obtain ⟨hx, hb, hml, hown, hB⟩ := id FC
  have hl : lv_has ls 1 [(0, .ref h0)] := hl
  refine lv_aload_n hx hb dX10_init_0 rfl (lv_at hl 0 rfl) ?_
  refine W.objInit hx hb hown (hB _ b_249) (hB _ b_231) (hB _ b_232) rfl (by rw [hml]; exact hl.1) rfl dX10_init_1 (Nat.le_of_ble_eq_true rfl) (Nat.le_of_ble_eq_true rfl) ?_
  refine W.eq (g2 := F0 m 4 ls []) rfl ?_
  refine lv_aload_n hx hb dX10_init_4 rfl (lv_at hl 0 rfl) ?_
  refine lv_bipush (v := 10) hx hb dX10_init_5 (by decide) ?_
  refine g_newa FC hKn hP hD hS hA (atype := .int) b_233 rfl 0 rfl (fun _ h => by cases h) (a0 := (10, .inl (fun _ => 0))) (fun _ => rfl) (by decide) (by decide) (by decide) (Nat.le_of_ble_eq_true rfl) (Nat.le_of_ble_eq_true rfl) dX10_init_7 (fun q1 H hP hD hS => ?_)
  have hP : va_P g.1 vwCl [(h0, .inr (10, [.null, .null, .null, .null, .null, .int 0, .int 0, .int 0, .int 0, .int 0])), (q1, .inl (g.2 0, 10, .inl (fun _ => 0)))] H := hP
  have hD : va_D A [(h0, .inr (10, [.null, .null, .null, .null, .null, .int 0, .int 0, .int 0, .int 0, .int 0])), (q1, .inl (g.2 0, 10, .inl (fun _ => 0)))] := hD
  refine g_putF (C := RX10) (T := TX10) (N := 10) (ci := 10) (v := .ref q1) FC hKn hP hD hS i_X10 tyX10 tyX10_ok nmX10 0 rfl rfl 0 (by decide) b_250 rfl hnm rfl rfl rfl (Nat.le_of_ble_eq_true rfl) dX10_init_9 (fun H locs hP hD hS => ?_)
  have hP : va_P g.1 vwCl [(h0, .inr (10, [.ref q1, .null, .null, .null, .null, .int 0, .int 0, .int 0, .int 0, .int 0])), (q1, .inl (g.2 0, 10, .inl (fun _ => 0)))] H := hP
  have hD : va_D A [(h0, .inr (10, [.ref q1, .null, .null, .null, .null, .int 0, .int 0, .int 0, .int 0, .int 0])), (q1, .inl (g.2 0, 10, .inl (fun _ => 0)))] := hD
  refine lv_aload_n hx hb dX10_init_12 rfl (lv_at hl 0 rfl) ?_
  refine lv_bipush (v := 10) hx hb dX10_init_13 (by decide) ?_
  refine g_newa FC hKn hP hD hS hA (atype := .int) b_233 rfl 0 rfl (fun _ h => by cases h) (a0 := (10, .inl (fun _ => 0))) (fun _ => rfl) (by decide) (by decide) (by decide) (Nat.le_of_ble_eq_true rfl) (Nat.le_of_ble_eq_true rfl) dX10_init_15 (fun q2 H hP hD hS => ?_)
  have hP : va_P g.1 vwCl [(h0, .inr (10, [.ref q1, .null, .null, .null, .null, .int 0, .int 0, .int 0, .int 0, .int 0])), (q1, .inl (g.2 0, 10, .inl (fun _ => 0))), (q2, .inl (g.2 0, 10, .inl (fun _ => 0)))] H := hP
  have hD : va_D A [(h0, .inr (10, [.ref q1, .null, .null, .null, .null, .int 0, .int 0, .int 0, .int 0, .int 0])), (q1, .inl (g.2 0, 10, .inl (fun _ => 0))), (q2, .inl (g.2 0, 10, .inl (fun _ => 0)))] := hD
  refine g_putF (C := RX10) (T := TX10) (N := 10) (ci := 10) (v := .ref q2) FC hKn hP hD hS i_X10 tyX10 tyX10_ok nmX10 0 rfl rfl 1 (by decide) b_251 rfl hnm rfl rfl rfl (Nat.le_of_ble_eq_true rfl) dX10_init_17 (fun H locs hP hD hS => ?_)
  have hP : va_P g.1 vwCl [(h0, .inr (10, [.ref q1, .ref q2, .null, .null, .null, .int 0, .int 0, .int 0, .int 0, .int 0])), (q1, .inl (g.2 0, 10, .inl (fun _ => 0))), (q2, .inl (g.2 0, 10, .inl (fun _ => 0)))] H := hP
  have hD : va_D A [(h0, .inr (10, [.ref q1, .ref q2, .null, .null, .null, .int 0, .int 0, .int 0, .int 0, .int 0])), (q1, .inl (g.2 0, 10, .inl (fun _ => 0))), (q2, .inl (g.2 0, 10, .inl (fun _ => 0)))] := hD
  refine lv_aload_n hx hb dX10_init_20 rfl (lv_at hl 0 rfl) ?_
  refine lv_bipush (v := 10) hx hb dX10_init_21 (by decide) ?_
  refine g_newa FC hKn hP hD hS hA (atype := .int) b_233 rfl 0 rfl (fun _ h => by cases h) (a0 := (10, .inl (fun _ => 0))) (fun _ => rfl) (by decide) (by decide) (by decide) (Nat.le_of_ble_eq_true rfl) (Nat.le_of_ble_eq_true rfl) dX10_init_23 (fun q3 H hP hD hS => ?_)
  have hP : va_P g.1 vwCl [(h0, .inr (10, [.ref q1, .ref q2, .null, .null, .null, .int 0, .int 0, .int 0, .int 0, .int 0])), (q1, .inl (g.2 0, 10, .inl (fun _ => 0))), (q2, .inl (g.2 0, 10, .inl (fun _ => 0))), (q3, .inl (g.2 0, 10, .inl (fun _ => 0)))] H := hP
  have hD : va_D A [(h0, .inr (10, [.ref q1, .ref q2, .null, .null, .null, .int 0, .int 0, .int 0, .int 0, .int 0])), (q1, .inl (g.2 0, 10, .inl (fun _ => 0))), (q2, .inl (g.2 0, 10, .inl (fun _ => 0))), (q3, .inl (g.2 0, 10, .inl (fun _ => 0)))] := hD
  refine g_putF (C := RX10) (T := TX10) (N := 10) (ci := 10) (v := .ref q3) FC hKn hP hD hS i_X10 tyX10 tyX10_ok nmX10 0 rfl rfl 2 (by decide) b_252 rfl hnm rfl rfl rfl (Nat.le_of_ble_eq_true rfl) dX10_init_25 (fun H locs hP hD hS => ?_)
  have hP : va_P g.1 vwCl [(h0, .inr (10, [.ref q1, .ref q2, .ref q3, .null, .null, .int 0, .int 0, .int 0, .int 0, .int 0])), (q1, .inl (g.2 0, 10, .inl (fun _ => 0))), (q2, .inl (g.2 0, 10, .inl (fun _ => 0))), (q3, .inl (g.2 0, 10, .inl (fun _ => 0)))] H := hP
  have hD : va_D A [(h0, .inr (10, [.ref q1, .ref q2, .ref q3, .null, .null, .int 0, .int 0, .int 0, .int 0, .int 0])), (q1, .inl (g.2 0, 10, .inl (fun _ => 0))), (q2, .inl (g.2 0, 10, .inl (fun _ => 0))), (q3, .inl (g.2 0, 10, .inl (fun _ => 0)))] := hD
  refine lv_aload_n hx hb dX10_init_28 rfl (lv_at hl 0 rfl) ?_
  refine lv_bipush (v := 6) hx hb dX10_init_29 (by decide) ?_
  refine g_newa FC hKn hP hD hS hA (atype := .int) b_233 rfl 0 rfl (fun _ h => by cases h) (a0 := (6, .inl (fun _ => 0))) (fun _ => rfl) (by decide) (by decide) (by decide) (Nat.le_of_ble_eq_true rfl) (Nat.le_of_ble_eq_true rfl) dX10_init_31 (fun q4 H hP hD hS => ?_)
  have hP : va_P g.1 vwCl [(h0, .inr (10, [.ref q1, .ref q2, .ref q3, .null, .null, .int 0, .int 0, .int 0, .int 0, .int 0])), (q1, .inl (g.2 0, 10, .inl (fun _ => 0))), (q2, .inl (g.2 0, 10, .inl (fun _ => 0))), (q3, .inl (g.2 0, 10, .inl (fun _ => 0))), (q4, .inl (g.2 0, 6, .inl (fun _ => 0)))] H := hP
  have hD : va_D A [(h0, .inr (10, [.ref q1, .ref q2, .ref q3, .null, .null, .int 0, .int 0, .int 0, .int 0, .int 0])), (q1, .inl (g.2 0, 10, .inl (fun _ => 0))), (q2, .inl (g.2 0, 10, .inl (fun _ => 0))), (q3, .inl (g.2 0, 10, .inl (fun _ => 0))), (q4, .inl (g.2 0, 6, .inl (fun _ => 0)))] := hD
  refine g_putF (C := RX10) (T := TX10) (N := 10) (ci := 10) (v := .ref q4) FC hKn hP hD hS i_X10 tyX10 tyX10_ok nmX10 0 rfl rfl 3 (by decide) b_253 rfl hnm rfl rfl rfl (Nat.le_of_ble_eq_true rfl) dX10_init_33 (fun H locs hP hD hS => ?_)
  have hP : va_P g.1 vwCl [(h0, .inr (10, [.ref q1, .ref q2, .ref q3, .ref q4, .null, .int 0, .int 0, .int 0, .int 0, .int 0])), (q1, .inl (g.2 0, 10, .inl (fun _ => 0))), (q2, .inl (g.2 0, 10, .inl (fun _ => 0))), (q3, .inl (g.2 0, 10, .inl (fun _ => 0))), (q4, .inl (g.2 0, 6, .inl (fun _ => 0)))] H := hP
  have hD : va_D A [(h0, .inr (10, [.ref q1, .ref q2, .ref q3, .ref q4, .null, .int 0, .int 0, .int 0, .int 0, .int 0])), (q1, .inl (g.2 0, 10, .inl (fun _ => 0))), (q2, .inl (g.2 0, 10, .inl (fun _ => 0))), (q3, .inl (g.2 0, 10, .inl (fun _ => 0))), (q4, .inl (g.2 0, 6, .inl (fun _ => 0)))] := hD
  refine lv_aload_n hx hb dX10_init_36 rfl (lv_at hl 0 rfl) ?_
  refine lv_bipush (v := 6) hx hb dX10_init_37 (by decide) ?_
  refine g_newa FC hKn hP hD hS hA (atype := .int) b_233 rfl 0 rfl (fun _ h => by cases h) (a0 := (6, .inl (fun _ => 0))) (fun _ => rfl) (by decide) (by decide) (by decide) (Nat.le_of_ble_eq_true rfl) (Nat.le_of_ble_eq_true rfl) dX10_init_39 (fun q5 H hP hD hS => ?_)
  have hP : va_P g.1 vwCl [(h0, .inr (10, [.ref q1, .ref q2, .ref q3, .ref q4, .null, .int 0, .int 0, .int 0, .int 0, .int 0])), (q1, .inl (g.2 0, 10, .inl (fun _ => 0))), (q2, .inl (g.2 0, 10, .inl (fun _ => 0))), (q3, .inl (g.2 0, 10, .inl (fun _ => 0))), (q4, .inl (g.2 0, 6, .inl (fun _ => 0))), (q5, .inl (g.2 0, 6, .inl (fun _ => 0)))] H := hP
  have hD : va_D A [(h0, .inr (10, [.ref q1, .ref q2, .ref q3, .ref q4, .null, .int 0, .int 0, .int 0, .int 0, .int 0])), (q1, .inl (g.2 0, 10, .inl (fun _ => 0))), (q2, .inl (g.2 0, 10, .inl (fun _ => 0))), (q3, .inl (g.2 0, 10, .inl (fun _ => 0))), (q4, .inl (g.2 0, 6, .inl (fun _ => 0))), (q5, .inl (g.2 0, 6, .inl (fun _ => 0)))] := hD
  refine g_putF (C := RX10) (T := TX10) (N := 10) (ci := 10) (v := .ref q5) FC hKn hP hD hS i_X10 tyX10 tyX10_ok nmX10 0 rfl rfl 4 (by decide) b_254 rfl hnm rfl rfl rfl (Nat.le_of_ble_eq_true rfl) dX10_init_41 (fun H locs hP hD hS => ?_)
  have hP : va_P g.1 vwCl [(h0, .inr (10, [.ref q1, .ref q2, .ref q3, .ref q4, .ref q5, .int 0, .int 0, .int 0, .int 0, .int 0])), (q1, .inl (g.2 0, 10, .inl (fun _ => 0))), (q2, .inl (g.2 0, 10, .inl (fun _ => 0))), (q3, .inl (g.2 0, 10, .inl (fun _ => 0))), (q4, .inl (g.2 0, 6, .inl (fun _ => 0))), (q5, .inl (g.2 0, 6, .inl (fun _ => 0)))] H := hP
  have hD : va_D A [(h0, .inr (10, [.ref q1, .ref q2, .ref q3, .ref q4, .ref q5, .int 0, .int 0, .int 0, .int 0, .int 0])), (q1, .inl (g.2 0, 10, .inl (fun _ => 0))), (q2, .inl (g.2 0, 10, .inl (fun _ => 0))), (q3, .inl (g.2 0, 10, .inl (fun _ => 0))), (q4, .inl (g.2 0, 6, .inl (fun _ => 0))), (q5, .inl (g.2 0, 6, .inl (fun _ => 0)))] := hD
  exact rt_v FX () rfl trivial (hP.sub [] rfl) (hD.sub [] (by decide) rfl) hS (Nat.le_of_ble_eq_true rfl) (Nat.le_of_ble_eq_true rfl) dX10_init_44
set_option maxRecDepth 100000 in
set_option maxHeartbeats 4000000 in
theorem c_X4_init (l : Launch) (g : GG) (h0 : Nat) : Ct l g yX4_init cX4_init 1 none { frames := 1, cells := 1, slots := 256, locals := 12 } [.ref h0] [(h0, .inr (4, [.null]))] (S := Unit) (fun _ => none) (fun _ => True) (fun u => []) := by
  refine Ct.of (by decide) (Nat.le_of_ble_eq_true rfl) ?_
  intro p e s m below meth c A ls FX hP hD hS hl
  obtain ⟨FC, hr, hlk, hKn, hA, hnm⟩ := id FX
  have FC : CallFix p m c cX4_init 1 s _ BIG RX4 := FC
  obtain ⟨hx, hb, hml, hown, hB⟩ := id FC
  have hl : lv_has ls 1 [(0, .ref h0)] := hl
  refine lv_aload_n hx hb dX4_init_0 rfl (lv_at hl 0 rfl) ?_
  refine W.objInit hx hb hown (hB _ b_255) (hB _ b_231) (hB _ b_232) rfl (by rw [hml]; exact hl.1) rfl dX4_init_1 (Nat.le_of_ble_eq_true rfl) (Nat.le_of_ble_eq_true rfl) ?_
  refine W.eq (g2 := F0 m 4 ls []) rfl ?_
  refine lv_aload_n hx hb dX4_init_4 rfl (lv_at hl 0 rfl) ?_
  refine lv_sipush (v := 256) hx hb dX4_init_5 (by decide) ?_
  refine g_newa FC hKn hP hD hS hA (atype := .int) b_233 rfl 0 rfl (fun _ h => by cases h) (a0 := (256, .inl (fun _ => 0))) (fun _ => rfl) (by decide) (by decide) (by decide) (Nat.le_of_ble_eq_true rfl) (Nat.le_of_ble_eq_true rfl) dX4_init_8 (fun q1 H hP hD hS => ?_)
  have hP : va_P g.1 vwCl [(h0, .inr (4, [.null])), (q1, .inl (g.2 0, 256, .inl (fun _ => 0)))] H := hP
  have hD : va_D A [(h0, .inr (4, [.null])), (q1, .inl (g.2 0, 256, .inl (fun _ => 0)))] := hD
  refine g_putF (C := RX4) (T := TX4) (N := 1) (ci := 4) (v := .ref q1) FC hKn hP hD hS i_X4 tyX4 tyX4_ok nmX4 0 rfl rfl 0 (by decide) b_256 rfl hnm rfl rfl rfl (Nat.le_of_ble_eq_true rfl) dX4_init_10 (fun H locs hP hD hS => ?_)
  have hP : va_P g.1 vwCl [(h0, .inr (4, [.ref q1])), (q1, .inl (g.2 0, 256, .inl (fun _ => 0)))] H := hP
  have hD : va_D A [(h0, .inr (4, [.ref q1])), (q1, .inl (g.2 0, 256, .inl (fun _ => 0)))] := hD
  exact rt_v FX () rfl trivial (hP.sub [] rfl) (hD.sub [] (by decide) rfl) hS (Nat.le_of_ble_eq_true rfl) (Nat.le_of_ble_eq_true rfl) dX4_init_13
set_option maxRecDepth 100000 in
set_option maxHeartbeats 4000000 in
theorem c_X6_init (l : Launch) (g : GG) (h0 : Nat) : Ct l g yX6_init cX6_init 1 none { frames := 1, cells := 2, slots := 512, locals := 12 } [.ref h0] [(h0, .inr (6, [.null, .null, .int 0]))] (S := Unit) (fun _ => none) (fun _ => True) (fun u => []) := by
  refine Ct.of (by decide) (Nat.le_of_ble_eq_true rfl) ?_
  intro p e s m below meth c A ls FX hP hD hS hl
  obtain ⟨FC, hr, hlk, hKn, hA, hnm⟩ := id FX
  have FC : CallFix p m c cX6_init 1 s _ BIG RX6 := FC
  obtain ⟨hx, hb, hml, hown, hB⟩ := id FC
  have hl : lv_has ls 1 [(0, .ref h0)] := hl
  refine lv_aload_n hx hb dX6_init_0 rfl (lv_at hl 0 rfl) ?_
  refine W.objInit hx hb hown (hB _ b_257) (hB _ b_231) (hB _ b_232) rfl (by rw [hml]; exact hl.1) rfl dX6_init_1 (Nat.le_of_ble_eq_true rfl) (Nat.le_of_ble_eq_true rfl) ?_
  refine W.eq (g2 := F0 m 4 ls []) rfl ?_
  refine lv_aload_n hx hb dX6_init_4 rfl (lv_at hl 0 rfl) ?_
  refine lv_sipush (v := 256) hx hb dX6_init_5 (by decide) ?_
  refine g_newa FC hKn hP hD hS hA (atype := .int) b_233 rfl 0 rfl (fun _ h => by cases h) (a0 := (256, .inl (fun _ => 0))) (fun _ => rfl) (by decide) (by decide) (by decide) (Nat.le_of_ble_eq_true rfl) (Nat.le_of_ble_eq_true rfl) dX6_init_8 (fun q1 H hP hD hS => ?_)
  have hP : va_P g.1 vwCl [(h0, .inr (6, [.null, .null, .int 0])), (q1, .inl (g.2 0, 256, .inl (fun _ => 0)))] H := hP
  have hD : va_D A [(h0, .inr (6, [.null, .null, .int 0])), (q1, .inl (g.2 0, 256, .inl (fun _ => 0)))] := hD
  refine g_putF (C := RX6) (T := TX6) (N := 3) (ci := 6) (v := .ref q1) FC hKn hP hD hS i_X6 tyX6 tyX6_ok nmX6 0 rfl rfl 0 (by decide) b_258 rfl hnm rfl rfl rfl (Nat.le_of_ble_eq_true rfl) dX6_init_10 (fun H locs hP hD hS => ?_)
  have hP : va_P g.1 vwCl [(h0, .inr (6, [.ref q1, .null, .int 0])), (q1, .inl (g.2 0, 256, .inl (fun _ => 0)))] H := hP
  have hD : va_D A [(h0, .inr (6, [.ref q1, .null, .int 0])), (q1, .inl (g.2 0, 256, .inl (fun _ => 0)))] := hD
  refine lv_aload_n hx hb dX6_init_13 rfl (lv_at hl 0 rfl) ?_
  refine lv_sipush (v := 256) hx hb dX6_init_14 (by decide) ?_
  refine g_newa FC hKn hP hD hS hA (atype := .int) b_233 rfl 0 rfl (fun _ h => by cases h) (a0 := (256, .inl (fun _ => 0))) (fun _ => rfl) (by decide) (by decide) (by decide) (Nat.le_of_ble_eq_true rfl) (Nat.le_of_ble_eq_true rfl) dX6_init_17 (fun q2 H hP hD hS => ?_)
  have hP : va_P g.1 vwCl [(h0, .inr (6, [.ref q1, .null, .int 0])), (q1, .inl (g.2 0, 256, .inl (fun _ => 0))), (q2, .inl (g.2 0, 256, .inl (fun _ => 0)))] H := hP
  have hD : va_D A [(h0, .inr (6, [.ref q1, .null, .int 0])), (q1, .inl (g.2 0, 256, .inl (fun _ => 0))), (q2, .inl (g.2 0, 256, .inl (fun _ => 0)))] := hD
  refine g_putF (C := RX6) (T := TX6) (N := 3) (ci := 6) (v := .ref q2) FC hKn hP hD hS i_X6 tyX6 tyX6_ok nmX6 0 rfl rfl 1 (by decide) b_259 rfl hnm rfl rfl rfl (Nat.le_of_ble_eq_true rfl) dX6_init_19 (fun H locs hP hD hS => ?_)
  have hP : va_P g.1 vwCl [(h0, .inr (6, [.ref q1, .ref q2, .int 0])), (q1, .inl (g.2 0, 256, .inl (fun _ => 0))), (q2, .inl (g.2 0, 256, .inl (fun _ => 0)))] H := hP
  have hD : va_D A [(h0, .inr (6, [.ref q1, .ref q2, .int 0])), (q1, .inl (g.2 0, 256, .inl (fun _ => 0))), (q2, .inl (g.2 0, 256, .inl (fun _ => 0)))] := hD
  exact rt_v FX () rfl trivial (hP.sub [] rfl) (hD.sub [] (by decide) rfl) hS (Nat.le_of_ble_eq_true rfl) (Nat.le_of_ble_eq_true rfl) dX6_init_22
set_option maxRecDepth 100000 in
set_option maxHeartbeats 4000000 in
theorem c_X5_init (l : Launch) (g : GG) (h0 : Nat) : Ct l g yX5_init cX5_init 1 none { frames := 1, cells := 2, slots := 2826, locals := 12 } [.ref h0] [(h0, .inr (5, [.null, .null, .int 0, .int 0, .int 0]))] (S := Unit) (fun _ => none) (fun _ => True) (fun u => []) := by
  refine Ct.of (by decide) (Nat.le_of_ble_eq_true rfl) ?_
  intro p e s m below meth c A ls FX hP hD hS hl
  obtain ⟨FC, hr, hlk, hKn, hA, hnm⟩ := id FX
  have FC : CallFix p m c cX5_init 1 s _ BIG RX5 := FC
  obtain ⟨hx, hb, hml, hown, hB⟩ := id FC
  have hl : lv_has ls 1 [(0, .ref h0)] := hl
  refine lv_aload_n hx hb dX5_init_0 rfl (lv_at hl 0 rfl) ?_
  refine W.objInit hx hb hown (hB _ b_260) (hB _ b_231) (hB _ b_232) rfl (by rw [hml]; exact hl.1) rfl dX5_init_1 (Nat.le_of_ble_eq_true rfl) (Nat.le_of_ble_eq_true rfl) ?_
  refine W.eq (g2 := F0 m 4 ls []) rfl ?_
  refine lv_aload_n hx hb dX5_init_4 rfl (lv_at hl 0 rfl) ?_
  refine lv_sipush (v := 2816) hx hb dX5_init_5 (by decide) ?_
  refine g_newa FC hKn hP hD hS hA (atype := .int) b_233 rfl 0 rfl (fun _ h => by cases h) (a0 := (2816, .inl (fun _ => 0))) (fun _ => rfl) (by decide) (by decide) (by decide) (Nat.le_of_ble_eq_true rfl) (Nat.le_of_ble_eq_true rfl) dX5_init_8 (fun q1 H hP hD hS => ?_)
  have hP : va_P g.1 vwCl [(h0, .inr (5, [.null, .null, .int 0, .int 0, .int 0])), (q1, .inl (g.2 0, 2816, .inl (fun _ => 0)))] H := hP
  have hD : va_D A [(h0, .inr (5, [.null, .null, .int 0, .int 0, .int 0])), (q1, .inl (g.2 0, 2816, .inl (fun _ => 0)))] := hD
  refine g_putF (C := RX5) (T := TX5) (N := 5) (ci := 5) (v := .ref q1) FC hKn hP hD hS i_X5 tyX5 tyX5_ok nmX5 0 rfl rfl 0 (by decide) b_261 rfl hnm rfl rfl rfl (Nat.le_of_ble_eq_true rfl) dX5_init_10 (fun H locs hP hD hS => ?_)
  have hP : va_P g.1 vwCl [(h0, .inr (5, [.ref q1, .null, .int 0, .int 0, .int 0])), (q1, .inl (g.2 0, 2816, .inl (fun _ => 0)))] H := hP
  have hD : va_D A [(h0, .inr (5, [.ref q1, .null, .int 0, .int 0, .int 0])), (q1, .inl (g.2 0, 2816, .inl (fun _ => 0)))] := hD
  refine lv_aload_n hx hb dX5_init_13 rfl (lv_at hl 0 rfl) ?_
  refine lv_bipush (v := 10) hx hb dX5_init_14 (by decide) ?_
  refine g_newa FC hKn hP hD hS hA (atype := .int) b_233 rfl 0 rfl (fun _ h => by cases h) (a0 := (10, .inl (fun _ => 0))) (fun _ => rfl) (by decide) (by decide) (by decide) (Nat.le_of_ble_eq_true rfl) (Nat.le_of_ble_eq_true rfl) dX5_init_16 (fun q2 H hP hD hS => ?_)
  have hP : va_P g.1 vwCl [(h0, .inr (5, [.ref q1, .null, .int 0, .int 0, .int 0])), (q1, .inl (g.2 0, 2816, .inl (fun _ => 0))), (q2, .inl (g.2 0, 10, .inl (fun _ => 0)))] H := hP
  have hD : va_D A [(h0, .inr (5, [.ref q1, .null, .int 0, .int 0, .int 0])), (q1, .inl (g.2 0, 2816, .inl (fun _ => 0))), (q2, .inl (g.2 0, 10, .inl (fun _ => 0)))] := hD
  refine g_putF (C := RX5) (T := TX5) (N := 5) (ci := 5) (v := .ref q2) FC hKn hP hD hS i_X5 tyX5 tyX5_ok nmX5 0 rfl rfl 1 (by decide) b_262 rfl hnm rfl rfl rfl (Nat.le_of_ble_eq_true rfl) dX5_init_18 (fun H locs hP hD hS => ?_)
  have hP : va_P g.1 vwCl [(h0, .inr (5, [.ref q1, .ref q2, .int 0, .int 0, .int 0])), (q1, .inl (g.2 0, 2816, .inl (fun _ => 0))), (q2, .inl (g.2 0, 10, .inl (fun _ => 0)))] H := hP
  have hD : va_D A [(h0, .inr (5, [.ref q1, .ref q2, .int 0, .int 0, .int 0])), (q1, .inl (g.2 0, 2816, .inl (fun _ => 0))), (q2, .inl (g.2 0, 10, .inl (fun _ => 0)))] := hD
  exact rt_v FX () rfl trivial (hP.sub [] rfl) (hD.sub [] (by decide) rfl) hS (Nat.le_of_ble_eq_true rfl) (Nat.le_of_ble_eq_true rfl) dX5_init_21
set_option maxRecDepth 100000 in
set_option maxHeartbeats 4000000 in
theorem c_X7_init (l : Launch) (g : GG) (h0 : Nat) : Ct l g yX7_init cX7_init 1 none { frames := 1, cells := 2, slots := 512, locals := 12 } [.ref h0] [(h0, .inr (7, [.null, .null, .int 0, .int 0]))] (S := Unit) (fun _ => none) (fun _ => True) (fun u => []) := by
  refine Ct.of (by decide) (Nat.le_of_ble_eq_true rfl) ?_
  intro p e s m below meth c A ls FX hP hD hS hl
  obtain ⟨FC, hr, hlk, hKn, hA, hnm⟩ := id FX
  have FC : CallFix p m c cX7_init 1 s _ BIG RX7 := FC
  obtain ⟨hx, hb, hml, hown, hB⟩ := id FC
  have hl : lv_has ls 1 [(0, .ref h0)] := hl
  refine lv_aload_n hx hb dX7_init_0 rfl (lv_at hl 0 rfl) ?_
  refine W.objInit hx hb hown (hB _ b_263) (hB _ b_231) (hB _ b_232) rfl (by rw [hml]; exact hl.1) rfl dX7_init_1 (Nat.le_of_ble_eq_true rfl) (Nat.le_of_ble_eq_true rfl) ?_
  refine W.eq (g2 := F0 m 4 ls []) rfl ?_
  refine lv_aload_n hx hb dX7_init_4 rfl (lv_at hl 0 rfl) ?_
  refine lv_sipush (v := 256) hx hb dX7_init_5 (by decide) ?_
  refine g_newa FC hKn hP hD hS hA (atype := .int) b_233 rfl 0 rfl (fun _ h => by cases h) (a0 := (256, .inl (fun _ => 0))) (fun _ => rfl) (by decide) (by decide) (by decide) (Nat.le_of_ble_eq_true rfl) (Nat.le_of_ble_eq_true rfl) dX7_init_8 (fun q1 H hP hD hS => ?_)
  have hP : va_P g.1 vwCl [(h0, .inr (7, [.null, .null, .int 0, .int 0])), (q1, .inl (g.2 0, 256, .inl (fun _ => 0)))] H := hP
  have hD : va_D A [(h0, .inr (7, [.null, .null, .int 0, .int 0])), (q1, .inl (g.2 0, 256, .inl (fun _ => 0)))] := hD
  refine g_putF (C := RX7) (T := TX7) (N := 4) (ci := 7) (v := .ref q1) FC hKn hP hD hS i_X7 tyX7 tyX7_ok nmX7 0 rfl rfl 0 (by decide) b_264 rfl hnm rfl rfl rfl (Nat.le_of_ble_eq_true rfl) dX7_init_10 (fun H locs hP hD hS => ?_)
  have hP : va_P g.1 vwCl [(h0, .inr (7, [.ref q1, .null, .int 0, .int 0])), (q1, .inl (g.2 0, 256, .inl (fun _ => 0)))] H := hP
  have hD : va_D A [(h0, .inr (7, [.ref q1, .null, .int 0, .int 0])), (q1, .inl (g.2 0, 256, .inl (fun _ => 0)))] := hD
  refine lv_aload_n hx hb dX7_init_13 rfl (lv_at hl 0 rfl) ?_
  refine lv_sipush (v := 256) hx hb dX7_init_14 (by decide) ?_
  refine g_newa FC hKn hP hD hS hA (atype := .int) b_233 rfl 0 rfl (fun _ h => by cases h) (a0 := (256, .inl (fun _ => 0))) (fun _ => rfl) (by decide) (by decide) (by decide) (Nat.le_of_ble_eq_true rfl) (Nat.le_of_ble_eq_true rfl) dX7_init_17 (fun q2 H hP hD hS => ?_)
  have hP : va_P g.1 vwCl [(h0, .inr (7, [.ref q1, .null, .int 0, .int 0])), (q1, .inl (g.2 0, 256, .inl (fun _ => 0))), (q2, .inl (g.2 0, 256, .inl (fun _ => 0)))] H := hP
  have hD : va_D A [(h0, .inr (7, [.ref q1, .null, .int 0, .int 0])), (q1, .inl (g.2 0, 256, .inl (fun _ => 0))), (q2, .inl (g.2 0, 256, .inl (fun _ => 0)))] := hD
  refine g_putF (C := RX7) (T := TX7) (N := 4) (ci := 7) (v := .ref q2) FC hKn hP hD hS i_X7 tyX7 tyX7_ok nmX7 0 rfl rfl 1 (by decide) b_265 rfl hnm rfl rfl rfl (Nat.le_of_ble_eq_true rfl) dX7_init_19 (fun H locs hP hD hS => ?_)
  have hP : va_P g.1 vwCl [(h0, .inr (7, [.ref q1, .ref q2, .int 0, .int 0])), (q1, .inl (g.2 0, 256, .inl (fun _ => 0))), (q2, .inl (g.2 0, 256, .inl (fun _ => 0)))] H := hP
  have hD : va_D A [(h0, .inr (7, [.ref q1, .ref q2, .int 0, .int 0])), (q1, .inl (g.2 0, 256, .inl (fun _ => 0))), (q2, .inl (g.2 0, 256, .inl (fun _ => 0)))] := hD
  exact rt_v FX () rfl trivial (hP.sub [] rfl) (hD.sub [] (by decide) rfl) hS (Nat.le_of_ble_eq_true rfl) (Nat.le_of_ble_eq_true rfl) dX7_init_22
set_option maxRecDepth 100000 in
set_option maxHeartbeats 4000000 in
theorem c_X2_init (l : Launch) (g : GG) (h0 : Nat) : Ct l g yX2_init cX2_init 1 none { frames := 1, cells := 3, slots := 16, locals := 12 } [.ref h0] [(h0, .inr (2, [.null, .null, .null, .int 0]))] (S := Unit) (fun _ => none) (fun _ => True) (fun u => []) := by
  refine Ct.of (by decide) (Nat.le_of_ble_eq_true rfl) ?_
  intro p e s m below meth c A ls FX hP hD hS hl
  obtain ⟨FC, hr, hlk, hKn, hA, hnm⟩ := id FX
  have FC : CallFix p m c cX2_init 1 s _ BIG RX2 := FC
  obtain ⟨hx, hb, hml, hown, hB⟩ := id FC
  have hl : lv_has ls 1 [(0, .ref h0)] := hl
  refine lv_aload_n hx hb dX2_init_0 rfl (lv_at hl 0 rfl) ?_
  refine W.objInit hx hb hown (hB _ b_266) (hB _ b_231) (hB _ b_232) rfl (by rw [hml]; exact hl.1) rfl dX2_init_1 (Nat.le_of_ble_eq_true rfl) (Nat.le_of_ble_eq_true rfl) ?_
  refine W.eq (g2 := F0 m 4 ls []) rfl ?_
  refine lv_aload_n hx hb dX2_init_4 rfl (lv_at hl 0 rfl) ?_
  refine lv_bipush (v := 6) hx hb dX2_init_5 (by decide) ?_
  refine g_newa FC hKn hP hD hS hA (atype := .int) b_233 rfl 0 rfl (fun _ h => by cases h) (a0 := (6, .inl (fun _ => 0))) (fun _ => rfl) (by decide) (by decide) (by decide) (Nat.le_of_ble_eq_true rfl) (Nat.le_of_ble_eq_true rfl) dX2_init_7 (fun q1 H hP hD hS => ?_)
  have hP : va_P g.1 vwCl [(h0, .inr (2, [.null, .null, .null, .int 0])), (q1, .inl (g.2 0, 6, .inl (fun _ => 0)))] H := hP
  have hD : va_D A [(h0, .inr (2, [.null, .null, .null, .int 0])), (q1, .inl (g.2 0, 6, .inl (fun _ => 0)))] := hD
  refine g_putF (C := RX2) (T := TX2) (N := 4) (ci := 2) (v := .ref q1) FC hKn hP hD hS i_X2 tyX2 tyX2_ok nmX2 0 rfl rfl 0 (by decide) b_267 rfl hnm rfl rfl rfl (Nat.le_of_ble_eq_true rfl) dX2_init_9 (fun H locs hP hD hS => ?_)
  have hP : va_P g.1 vwCl [(h0, .inr (2, [.ref q1, .null, .null, .int 0])), (q1, .inl (g.2 0, 6, .inl (fun _ => 0)))] H := hP
  have hD : va_D A [(h0, .inr (2, [.ref q1, .null, .null, .int 0])), (q1, .inl (g.2 0, 6, .inl (fun _ => 0)))] := hD
  refine lv_aload_n hx hb dX2_init_12 rfl (lv_at hl 0 rfl) ?_
  refine lv_bipush (v := 6) hx hb dX2_init_13 (by decide) ?_
  refine g_newa FC hKn hP hD hS hA (atype := .int) b_233 rfl 0 rfl (fun _ h => by cases h) (a0 := (6, .inl (fun _ => 0))) (fun _ => rfl) (by decide) (by decide) (by decide) (Nat.le_of_ble_eq_true rfl) (Nat.le_of_ble_eq_true rfl) dX2_init_15 (fun q2 H hP hD hS => ?_)
  have hP : va_P g.1 vwCl [(h0, .inr (2, [.ref q1, .null, .null, .int 0])), (q1, .inl (g.2 0, 6, .inl (fun _ => 0))), (q2, .inl (g.2 0, 6, .inl (fun _ => 0)))] H := hP
  have hD : va_D A [(h0, .inr (2, [.ref q1, .null, .null, .int 0])), (q1, .inl (g.2 0, 6, .inl (fun _ => 0))), (q2, .inl (g.2 0, 6, .inl (fun _ => 0)))] := hD
  refine g_putF (C := RX2) (T := TX2) (N := 4) (ci := 2) (v := .ref q2) FC hKn hP hD hS i_X2 tyX2 tyX2_ok nmX2 0 rfl rfl 1 (by decide) b_268 rfl hnm rfl rfl rfl (Nat.le_of_ble_eq_true rfl) dX2_init_17 (fun H locs hP hD hS => ?_)
  have hP : va_P g.1 vwCl [(h0, .inr (2, [.ref q1, .ref q2, .null, .int 0])), (q1, .inl (g.2 0, 6, .inl (fun _ => 0))), (q2, .inl (g.2 0, 6, .inl (fun _ => 0)))] H := hP
  have hD : va_D A [(h0, .inr (2, [.ref q1, .ref q2, .null, .int 0])), (q1, .inl (g.2 0, 6, .inl (fun _ => 0))), (q2, .inl (g.2 0, 6, .inl (fun _ => 0)))] := hD
  refine lv_aload_n hx hb dX2_init_20 rfl (lv_at hl 0 rfl) ?_
  refine lv_iconst (v := 4) hx hb dX2_init_21 (by decide) ?_
  refine g_newa FC hKn hP hD hS hA (atype := .int) b_233 rfl 0 rfl (fun _ h => by cases h) (a0 := (4, .inl (fun _ => 0))) (fun _ => rfl) (by decide) (by decide) (by decide) (Nat.le_of_ble_eq_true rfl) (Nat.le_of_ble_eq_true rfl) dX2_init_22 (fun q3 H hP hD hS => ?_)
  have hP : va_P g.1 vwCl [(h0, .inr (2, [.ref q1, .ref q2, .null, .int 0])), (q1, .inl (g.2 0, 6, .inl (fun _ => 0))), (q2, .inl (g.2 0, 6, .inl (fun _ => 0))), (q3, .inl (g.2 0, 4, .inl (fun _ => 0)))] H := hP
  have hD : va_D A [(h0, .inr (2, [.ref q1, .ref q2, .null, .int 0])), (q1, .inl (g.2 0, 6, .inl (fun _ => 0))), (q2, .inl (g.2 0, 6, .inl (fun _ => 0))), (q3, .inl (g.2 0, 4, .inl (fun _ => 0)))] := hD
  refine g_putF (C := RX2) (T := TX2) (N := 4) (ci := 2) (v := .ref q3) FC hKn hP hD hS i_X2 tyX2 tyX2_ok nmX2 0 rfl rfl 2 (by decide) b_269 rfl hnm rfl rfl rfl (Nat.le_of_ble_eq_true rfl) dX2_init_24 (fun H locs hP hD hS => ?_)
  have hP : va_P g.1 vwCl [(h0, .inr (2, [.ref q1, .ref q2, .ref q3, .int 0])), (q1, .inl (g.2 0, 6, .inl (fun _ => 0))), (q2, .inl (g.2 0, 6, .inl (fun _ => 0))), (q3, .inl (g.2 0, 4, .inl (fun _ => 0)))] H := hP
  have hD : va_D A [(h0, .inr (2, [.ref q1, .ref q2, .ref q3, .int 0])), (q1, .inl (g.2 0, 6, .inl (fun _ => 0))), (q2, .inl (g.2 0, 6, .inl (fun _ => 0))), (q3, .inl (g.2 0, 4, .inl (fun _ => 0)))] := hD
  exact rt_v FX () rfl trivial (hP.sub [] rfl) (hD.sub [] (by decide) rfl) hS (Nat.le_of_ble_eq_true rfl) (Nat.le_of_ble_eq_true rfl) dX2_init_27
