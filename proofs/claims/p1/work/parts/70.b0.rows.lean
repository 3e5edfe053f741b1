set_option maxRecDepth 100000 in
set_option maxHeartbeats 4000000 in
/-- feed -/
theorem law_0 {p : Program} {e : Env} {s : State} {m : MethodId} {below : List Frame} {meth : Method} {c : Code} {l : Launch} {g : GG} {b : Nat} {xs : Nat → Int32} (C0 : lw_At p s m meth c b 6 xs) (hKn : Kn g s) {H : Heap} {locs : List Loc} {ls : Array Slot} {qx qm : Nat} {u v : Nat → Nat} (hP : va_P g.1 vwCl (WX g qx u ++ WM g qm v) H) (hD : va_D (lA s) (WX g qx u ++ WM g qm v)) (hS : va_S (lA s) s.heap H locs) (hl : lv_has ls 4 [(3, .int 0), (2, .ref qm), (1, .ref qx), (0, .ref b)]) : W p l e room_1 s m #[Value.ref b] below meth c H locs 122 12079 (lw_Z below #[Value.ref b] s) (F0 m 332 ls []) := by
  obtain ⟨hx, hb, hr, hml, hown, hts, hX, hbl, hlocks, hgv⟩ := id C0
  have hA : ∀ q : Nat, s.heap.size ≤ q → lA s q := fun _ h => h
  have hbA : ¬ lA s b := Nat.not_le.mpr hbl
  have hB : ∀ w ∈ BIG, w.before #[Value.ref b] s = true := fun w h => hts w (big_in w h)
  have FC : CallFix p m c cL_law 4 s #[Value.ref b] BIG RL := ⟨hx, hb, hml, hown, hB⟩
  have hP : va_P g.1 vwCl [(qx, .inr (11, [.ref (u 0), .ref (u 17), .ref (u 31), .ref (u 32), .ref (u 33), .ref (u 34), .ref (u 35), .ref (u 36), .ref (u 37), .ref (u 38), .ref (u 39)])), (u 0, .inr (1, [.ref (u 1), .ref (u 3), .int 0, .int (-1), .int 0])), (u 1, .inr (9, [.ref (u 2), .int 0, .int 0, .int 0, .int 0, .int 0])), (u 2, .inl (g.2 1, 900, .inl (fun _ => 0))), (qm, .inr (12, [.int 0, .ref (v 0), .ref (v 1), .ref (v 2), .ref (v 3), .int 0, .ref (v 4), .int 0, .int 0, .int 0, .int 0, .int 0, .int 0, .int (-1), .ref (v 5), .ref (v 6), .int 0, .int 0, .int 0, .ref (v 7), .ref (v 8), .int 0, .int 0, .ref (v 9), .ref (v 10), .ref (v 11), .ref (v 12), .ref (v 13), .ref (v 14)])), (v 3, .inl (g.2 1, 900, .inl (fun _ => 0))), (v 4, .inl (g.2 0, 5, .inl (fun _ => 0)))] H := hP.sub [0, 1, 2, 3, 85, 89, 90] rfl
  have hD : va_D (lA s) [(qx, .inr (11, [.ref (u 0), .ref (u 17), .ref (u 31), .ref (u 32), .ref (u 33), .ref (u 34), .ref (u 35), .ref (u 36), .ref (u 37), .ref (u 38), .ref (u 39)])), (u 0, .inr (1, [.ref (u 1), .ref (u 3), .int 0, .int (-1), .int 0])), (u 1, .inr (9, [.ref (u 2), .int 0, .int 0, .int 0, .int 0, .int 0])), (u 2, .inl (g.2 1, 900, .inl (fun _ => 0))), (qm, .inr (12, [.int 0, .ref (v 0), .ref (v 1), .ref (v 2), .ref (v 3), .int 0, .ref (v 4), .int 0, .int 0, .int 0, .int 0, .int 0, .int 0, .int (-1), .ref (v 5), .ref (v 6), .int 0, .int 0, .int 0, .ref (v 7), .ref (v 8), .int 0, .int 0, .ref (v 9), .ref (v 10), .ref (v 11), .ref (v 12), .ref (v 13), .ref (v 14)])), (v 3, .inl (g.2 1, 900, .inl (fun _ => 0))), (v 4, .inl (g.2 0, 5, .inl (fun _ => 0)))] := hD.sub [0, 1, 2, 3, 85, 89, 90] (by decide) rfl
  refine lv_aload_n hx hb dL_law_332 rfl (lv_at hl 2 rfl) ?_
  refine lv_aload_n hx hb dL_law_333 rfl (lv_at hl 3 rfl) ?_
  refine lv_iload_n hx hb dL_law_334 rfl (lv_at hl 0 rfl) ?_
  refine lv_iconst (v := 1) hx hb dL_law_335 (by decide) ?_
  refine lv_iadd hx hb dL_law_336 ?_
  refine tp_i (v := 1) (by decide) ?_
  refine va_sld hx hb hX hbl hbA hS (by unfold vp_in; decide) dL_law_337 ?_
  refine tp_i (v := xs 1) rfl ?_
  refine lv_aload_n hx hb dL_law_338 rfl (lv_at hl 3 rfl) ?_
  refine lv_iload_n hx hb dL_law_339 rfl (lv_at hl 0 rfl) ?_
  refine lv_iconst (v := 2) hx hb dL_law_340 (by decide) ?_
  refine lv_iadd hx hb dL_law_341 ?_
  refine tp_i (v := 2) (by decide) ?_
  refine va_sld hx hb hX hbl hbA hS (by unfold vp_in; decide) dL_law_342 ?_
  refine tp_i (v := xs 2) rfl ?_
  refine lv_aload_n hx hb dL_law_343 rfl (lv_at hl 3 rfl) ?_
  refine lv_iload_n hx hb dL_law_344 rfl (lv_at hl 0 rfl) ?_
  refine lv_iconst (v := 3) hx hb dL_law_345 (by decide) ?_
  refine lv_iadd hx hb dL_law_346 ?_
  refine tp_i (v := 3) (by decide) ?_
  refine va_sld hx hb hX hbl hbA hS (by unfold vp_in; decide) dL_law_347 ?_
  refine tp_i (v := xs 3) rfl ?_
  refine lv_aload_n hx hb dL_law_348 rfl (lv_at hl 3 rfl) ?_
  refine lv_iload_n hx hb dL_law_349 rfl (lv_at hl 0 rfl) ?_
  refine lv_iconst (v := 4) hx hb dL_law_350 (by decide) ?_
  refine lv_iadd hx hb dL_law_351 ?_
  refine tp_i (v := 4) (by decide) ?_
  refine va_sld hx hb hX hbl hbA hS (by unfold vp_in; decide) dL_law_352 ?_
  refine tp_i (v := xs 4) rfl ?_
  refine lv_aload_n hx hb dL_law_353 rfl (lv_at hl 3 rfl) ?_
  refine lv_iload_n hx hb dL_law_354 rfl (lv_at hl 0 rfl) ?_
  refine lv_iconst (v := 5) hx hb dL_law_355 (by decide) ?_
  refine lv_iadd hx hb dL_law_356 ?_
  refine tp_i (v := 5) (by decide) ?_
  refine va_sld hx hb hX hbl hbA hS (by unfold vp_in; decide) dL_law_357 ?_
  refine tp_i (v := xs 5) rfl ?_
  refine call_V (As := [.int (xs 1), .int (xs 2), .int (xs 3), .int (xs 4), .int (xs 5)]) (rest := []) (wr := [(qm, .inr (12, [.int 0, .ref (v 0), .ref (v 1), .ref (v 2), .ref (v 3), .int 0, .ref (v 4), .int 0, .int 0, .int 0, .int 0, .int 0, .int 0, .int (-1), .ref (v 5), .ref (v 6), .int 0, .int 0, .int 0, .ref (v 7), .ref (v 8), .int 0, .int 0, .ref (v 9), .ref (v 10), .ref (v 11), .ref (v 12), .ref (v 13), .ref (v 14)])), (v 3, .inl (g.2 1, 900, .inl (fun _ => 0))), (v 4, .inl (g.2 0, 5, .inl (fun _ => 0)))]) FC hKn (c_X11_feed l g qx (u 17) (u 0) (u 31) (u 32) (u 33) (u 34) (u 35) (u 36) (u 37) (u 38) (u 39) (u 1) (u 3) (u 2) (fun _ => 0) (xs 1) (xs 2) (xs 3) (xs 4) (xs 5)) m_yX11_feed b_484 (ci := 11) rfl rfl rfl hP hD hS hA [0, 1, 2, 3] [4, 5, 6] rfl (by decide) rfl (by decide) (by decide) rfl hl.1 rfl (Nat.le_of_ble_eq_true rfl) dL_law_358 ⟨(Nat.le_of_ble_eq_true rfl), (Nat.le_of_ble_eq_true rfl)⟩ ⟨(Nat.le_of_ble_eq_true rfl), (Nat.le_of_ble_eq_true rfl)⟩ (fun u1 H locs _ hP hD hS => ?_)
  have hP : va_P g.1 vwCl [(qm, .inr (12, [.int 0, .ref (v 0), .ref (v 1), .ref (v 2), .ref (v 3), .int 0, .ref (v 4), .int 0, .int 0, .int 0, .int 0, .int 0, .int 0, .int (-1), .ref (v 5), .ref (v 6), .int 0, .int 0, .int 0, .ref (v 7), .ref (v 8), .int 0, .int 0, .ref (v 9), .ref (v 10), .ref (v 11), .ref (v 12), .ref (v 13), .ref (v 14)])), (v 3, .inl (g.2 1, 900, .inl (fun _ => 0))), (v 4, .inl (g.2 0, 5, .inl (fun _ => 0)))] H := hP
  have hD : va_D (lA s) [(qm, .inr (12, [.int 0, .ref (v 0), .ref (v 1), .ref (v 2), .ref (v 3), .int 0, .ref (v 4), .int 0, .int 0, .int 0, .int 0, .int 0, .int 0, .int (-1), .ref (v 5), .ref (v 6), .int 0, .int 0, .int 0, .ref (v 7), .ref (v 8), .int 0, .int 0, .ref (v 9), .ref (v 10), .ref (v 11), .ref (v 12), .ref (v 13), .ref (v 14)])), (v 3, .inl (g.2 1, 900, .inl (fun _ => 0))), (v 4, .inl (g.2 0, 5, .inl (fun _ => 0)))] := hD
  refine W.eq (g2 := F0 m 361 ls [.int 20]) rfl ?_
  refine lv_aload_n hx hb dL_law_361 rfl (lv_at hl 1 rfl) ?_
  refine lv_aload_n hx hb dL_law_362 rfl (lv_at hl 3 rfl) ?_
  refine lv_iload_n hx hb dL_law_363 rfl (lv_at hl 0 rfl) ?_
  refine lv_iconst (v := 1) hx hb dL_law_364 (by decide) ?_
  refine lv_iadd hx hb dL_law_365 ?_
  refine tp_i (v := 1) (by decide) ?_
  refine va_sld hx hb hX hbl hbA hS (by unfold vp_in; decide) dL_law_366 ?_
  refine tp_i (v := xs 1) rfl ?_
  refine lv_aload_n hx hb dL_law_367 rfl (lv_at hl 3 rfl) ?_
  refine lv_iload_n hx hb dL_law_368 rfl (lv_at hl 0 rfl) ?_
  refine lv_iconst (v := 2) hx hb dL_law_369 (by decide) ?_
  refine lv_iadd hx hb dL_law_370 ?_
  refine tp_i (v := 2) (by decide) ?_
  refine va_sld hx hb hX hbl hbA hS (by unfold vp_in; decide) dL_law_371 ?_
  refine tp_i (v := xs 2) rfl ?_
  refine lv_aload_n hx hb dL_law_372 rfl (lv_at hl 3 rfl) ?_
  refine lv_iload_n hx hb dL_law_373 rfl (lv_at hl 0 rfl) ?_
  refine lv_iconst (v := 3) hx hb dL_law_374 (by decide) ?_
  refine lv_iadd hx hb dL_law_375 ?_
  refine tp_i (v := 3) (by decide) ?_
  refine va_sld hx hb hX hbl hbA hS (by unfold vp_in; decide) dL_law_376 ?_
  refine tp_i (v := xs 3) rfl ?_
  refine lv_aload_n hx hb dL_law_377 rfl (lv_at hl 3 rfl) ?_
  refine lv_iload_n hx hb dL_law_378 rfl (lv_at hl 0 rfl) ?_
  refine lv_iconst (v := 4) hx hb dL_law_379 (by decide) ?_
  refine lv_iadd hx hb dL_law_380 ?_
  refine tp_i (v := 4) (by decide) ?_
  refine va_sld hx hb hX hbl hbA hS (by unfold vp_in; decide) dL_law_381 ?_
  refine tp_i (v := xs 4) rfl ?_
  refine lv_aload_n hx hb dL_law_382 rfl (lv_at hl 3 rfl) ?_
  refine lv_iload_n hx hb dL_law_383 rfl (lv_at hl 0 rfl) ?_
  refine lv_iconst (v := 5) hx hb dL_law_384 (by decide) ?_
  refine lv_iadd hx hb dL_law_385 ?_
  refine tp_i (v := 5) (by decide) ?_
  refine va_sld hx hb hX hbl hbA hS (by unfold vp_in; decide) dL_law_386 ?_
  refine tp_i (v := xs 5) rfl ?_
  refine call_V (As := [.int (xs 1), .int (xs 2), .int (xs 3), .int (xs 4), .int (xs 5)]) (rest := [.int 20]) (wr := []) FC hKn (c_X12_feed l g qm (v 0) (v 1) (v 2) (v 3) (v 4) (v 5) (v 6) (v 7) (v 8) (v 9) (v 10) (v 11) (v 12) (v 13) (v 14) (xs 1) (xs 2) (xs 3) (xs 4) (xs 5)) m_yX12_feed b_485 (ci := 12) rfl rfl rfl hP hD hS hA [0, 1, 2] [] rfl (by decide) rfl (by decide) (by decide) rfl hl.1 rfl (Nat.le_of_ble_eq_true rfl) dL_law_387 ⟨(Nat.le_of_ble_eq_true rfl), (Nat.le_of_ble_eq_true rfl)⟩ ⟨(Nat.le_of_ble_eq_true rfl), (Nat.le_of_ble_eq_true rfl)⟩ (fun u2 H locs _ hP hD hS => ?_)
  have hP : va_P g.1 vwCl [] H := hP
  have hD : va_D (lA s) [] := hD
  refine W.eq (g2 := F0 m 390 ls [.int 20, .int 20]) rfl ?_
  refine lv_icmp_eq (tgt := 2465) hx hb dL_law_390 (by decide) (fun _ => ?_) (fun h => absurd rfl h)
  exact law_end C0 hS (lv_sub hl [0, 1, 2, 3] rfl) (Nat.le_of_ble_eq_true rfl) (Nat.le_of_ble_eq_true rfl)
set_option maxRecDepth 100000 in
set_option maxHeartbeats 4000000 in
/-- end -/
theorem law_1 {p : Program} {e : Env} {s : State} {m : MethodId} {below : List Frame} {meth : Method} {c : Code} {l : Launch} {g : GG} {b : Nat} {xs : Nat → Int32} (C0 : lw_At p s m meth c b 6 xs) (hKn : Kn g s) {H : Heap} {locs : List Loc} {ls : Array Slot} {qx qm : Nat} {u v : Nat → Nat} (hP : va_P g.1 vwCl (WX g qx u ++ WM g qm v) H) (hD : va_D (lA s) (WX g qx u ++ WM g qm v)) (hS : va_S (lA s) s.heap H locs) (hl : lv_has ls 4 [(3, .int 0), (2, .ref qm), (1, .ref qx), (0, .ref b)]) : W p l e room_1 s m #[Value.ref b] below meth c H locs 122 12079 (lw_Z below #[Value.ref b] s) (F0 m 395 ls []) := by
  obtain ⟨hx, hb, hr, hml, hown, hts, hX, hbl, hlocks, hgv⟩ := id C0
  have hA : ∀ q : Nat, s.heap.size ≤ q → lA s q := fun _ h => h
  have hbA : ¬ lA s b := Nat.not_le.mpr hbl
  have hB : ∀ w ∈ BIG, w.before #[Value.ref b] s = true := fun w h => hts w (big_in w h)
  have FC : CallFix p m c cL_law 4 s #[Value.ref b] BIG RL := ⟨hx, hb, hml, hown, hB⟩
  have hP : va_P g.1 vwCl [(qx, .inr (11, [.ref (u 0), .ref (u 17), .ref (u 31), .ref (u 32), .ref (u 33), .ref (u 34), .ref (u 35), .ref (u 36), .ref (u 37), .ref (u 38), .ref (u 39)])), (u 0, .inr (1, [.ref (u 1), .ref (u 3), .int 0, .int (-1), .int 0])), (u 1, .inr (9, [.ref (u 2), .int 0, .int 0, .int 0, .int 0, .int 0])), (qm, .inr (12, [.int 0, .ref (v 0), .ref (v 1), .ref (v 2), .ref (v 3), .int 0, .ref (v 4), .int 0, .int 0, .int 0, .int 0, .int 0, .int 0, .int (-1), .ref (v 5), .ref (v 6), .int 0, .int 0, .int 0, .ref (v 7), .ref (v 8), .int 0, .int 0, .ref (v 9), .ref (v 10), .ref (v 11), .ref (v 12), .ref (v 13), .ref (v 14)]))] H := hP.sub [0, 1, 2, 85] rfl
  have hD : va_D (lA s) [(qx, .inr (11, [.ref (u 0), .ref (u 17), .ref (u 31), .ref (u 32), .ref (u 33), .ref (u 34), .ref (u 35), .ref (u 36), .ref (u 37), .ref (u 38), .ref (u 39)])), (u 0, .inr (1, [.ref (u 1), .ref (u 3), .int 0, .int (-1), .int 0])), (u 1, .inr (9, [.ref (u 2), .int 0, .int 0, .int 0, .int 0, .int 0])), (qm, .inr (12, [.int 0, .ref (v 0), .ref (v 1), .ref (v 2), .ref (v 3), .int 0, .ref (v 4), .int 0, .int 0, .int 0, .int 0, .int 0, .int 0, .int (-1), .ref (v 5), .ref (v 6), .int 0, .int 0, .int 0, .ref (v 7), .ref (v 8), .int 0, .int 0, .ref (v 9), .ref (v 10), .ref (v 11), .ref (v 12), .ref (v 13), .ref (v 14)]))] := hD.sub [0, 1, 2, 85] (by decide) rfl
  refine lv_aload_n hx hb dL_law_395 rfl (lv_at hl 2 rfl) ?_
  refine lv_aload_n hx hb dL_law_396 rfl (lv_at hl 3 rfl) ?_
  refine lv_iload_n hx hb dL_law_397 rfl (lv_at hl 0 rfl) ?_
  refine lv_iconst (v := 1) hx hb dL_law_398 (by decide) ?_
  refine lv_iadd hx hb dL_law_399 ?_
  refine tp_i (v := 1) (by decide) ?_
  refine va_sld hx hb hX hbl hbA hS (by unfold vp_in; decide) dL_law_400 ?_
  refine tp_i (v := xs 1) rfl ?_
  refine call_V (As := [.int (xs 1)]) (rest := []) (wr := [(qm, .inr (12, [.int 0, .ref (v 0), .ref (v 1), .ref (v 2), .ref (v 3), .int 0, .ref (v 4), .int 0, .int 0, .int 0, .int 0, .int 0, .int 0, .int (-1), .ref (v 5), .ref (v 6), .int 0, .int 0, .int 0, .ref (v 7), .ref (v 8), .int 0, .int 0, .ref (v 9), .ref (v 10), .ref (v 11), .ref (v 12), .ref (v 13), .ref (v 14)]))]) FC hKn (c_X11_end l g qx (u 17) (u 0) (u 31) (u 32) (u 33) (u 34) (u 35) (u 36) (u 37) (u 38) (u 39) (u 1) (u 3) (u 2) (xs 1)) m_yX11_end b_486 (ci := 11) rfl rfl rfl hP hD hS hA [0, 1, 2] [3] rfl (by decide) rfl (by decide) (by decide) rfl hl.1 rfl (Nat.le_of_ble_eq_true rfl) dL_law_401 ⟨(Nat.le_of_ble_eq_true rfl), (Nat.le_of_ble_eq_true rfl)⟩ ⟨(Nat.le_of_ble_eq_true rfl), (Nat.le_of_ble_eq_true rfl)⟩ (fun u1 H locs _ hP hD hS => ?_)
  have hP : va_P g.1 vwCl [(qm, .inr (12, [.int 0, .ref (v 0), .ref (v 1), .ref (v 2), .ref (v 3), .int 0, .ref (v 4), .int 0, .int 0, .int 0, .int 0, .int 0, .int 0, .int (-1), .ref (v 5), .ref (v 6), .int 0, .int 0, .int 0, .ref (v 7), .ref (v 8), .int 0, .int 0, .ref (v 9), .ref (v 10), .ref (v 11), .ref (v 12), .ref (v 13), .ref (v 14)]))] H := hP
  have hD : va_D (lA s) [(qm, .inr (12, [.int 0, .ref (v 0), .ref (v 1), .ref (v 2), .ref (v 3), .int 0, .ref (v 4), .int 0, .int 0, .int 0, .int 0, .int 0, .int 0, .int (-1), .ref (v 5), .ref (v 6), .int 0, .int 0, .int 0, .ref (v 7), .ref (v 8), .int 0, .int 0, .ref (v 9), .ref (v 10), .ref (v 11), .ref (v 12), .ref (v 13), .ref (v 14)]))] := hD
  refine W.eq (g2 := F0 m 404 ls [.int (sp_end (xs 1))]) rfl ?_
  refine lv_aload_n hx hb dL_law_404 rfl (lv_at hl 1 rfl) ?_
  refine lv_aload_n hx hb dL_law_405 rfl (lv_at hl 3 rfl) ?_
  refine lv_iload_n hx hb dL_law_406 rfl (lv_at hl 0 rfl) ?_
  refine lv_iconst (v := 1) hx hb dL_law_407 (by decide) ?_
  refine lv_iadd hx hb dL_law_408 ?_
  refine tp_i (v := 1) (by decide) ?_
  refine va_sld hx hb hX hbl hbA hS (by unfold vp_in; decide) dL_law_409 ?_
  refine tp_i (v := xs 1) rfl ?_
  refine call_V (As := [.int (xs 1)]) (rest := [.int (sp_end (xs 1))]) (wr := []) FC hKn (c_X12_end l g qm (v 0) (v 1) (v 2) (v 3) (v 4) (v 5) (v 6) (v 7) (v 8) (v 9) (v 10) (v 11) (v 12) (v 13) (v 14) (xs 1)) m_yX12_end b_487 (ci := 12) rfl rfl rfl hP hD hS hA [0] [] rfl (by decide) rfl (by decide) (by decide) rfl hl.1 rfl (Nat.le_of_ble_eq_true rfl) dL_law_410 ⟨(Nat.le_of_ble_eq_true rfl), (Nat.le_of_ble_eq_true rfl)⟩ ⟨(Nat.le_of_ble_eq_true rfl), (Nat.le_of_ble_eq_true rfl)⟩ (fun u2 H locs _ hP hD hS => ?_)
  have hP : va_P g.1 vwCl [] H := hP
  have hD : va_D (lA s) [] := hD
  refine W.eq (g2 := F0 m 413 ls [.int (sp_end (xs 1)), .int (sp_end (xs 1))]) rfl ?_
  refine lv_icmp_eq (tgt := 2465) hx hb dL_law_413 (by decide) (fun _ => ?_) (fun h => absurd rfl h)
  exact law_end C0 hS (lv_sub hl [0, 1, 2, 3] rfl) (Nat.le_of_ble_eq_true rfl) (Nat.le_of_ble_eq_true rfl)
set_option maxRecDepth 100000 in
set_option maxHeartbeats 4000000 in
/-- desk -/
theorem law_2 {p : Program} {e : Env} {s : State} {m : MethodId} {below : List Frame} {meth : Method} {c : Code} {l : Launch} {g : GG} {b : Nat} {xs : Nat → Int32} (C0 : lw_At p s m meth c b 6 xs) (hKn : Kn g s) {H : Heap} {locs : List Loc} {ls : Array Slot} {qx qm : Nat} {u v : Nat → Nat} (hP : va_P g.1 vwCl (WX g qx u ++ WM g qm v) H) (hD : va_D (lA s) (WX g qx u ++ WM g qm v)) (hS : va_S (lA s) s.heap H locs) (hl : lv_has ls 4 [(3, .int 0), (2, .ref qm), (1, .ref qx), (0, .ref b)]) : W p l e room_1 s m #[Value.ref b] below meth c H locs 122 12079 (lw_Z below #[Value.ref b] s) (F0 m 418 ls []) := by
  obtain ⟨hx, hb, hr, hml, hown, hts, hX, hbl, hlocks, hgv⟩ := id C0
  have hA : ∀ q : Nat, s.heap.size ≤ q → lA s q := fun _ h => h
  have hbA : ¬ lA s b := Nat.not_le.mpr hbl
  have hB : ∀ w ∈ BIG, w.before #[Value.ref b] s = true := fun w h => hts w (big_in w h)
  have FC : CallFix p m c cL_law 4 s #[Value.ref b] BIG RL := ⟨hx, hb, hml, hown, hB⟩
  have hP : va_P g.1 vwCl [(qx, .inr (11, [.ref (u 0), .ref (u 17), .ref (u 31), .ref (u 32), .ref (u 33), .ref (u 34), .ref (u 35), .ref (u 36), .ref (u 37), .ref (u 38), .ref (u 39)])), (u 0, .inr (1, [.ref (u 1), .ref (u 3), .int 0, .int (-1), .int 0])), (u 1, .inr (9, [.ref (u 2), .int 0, .int 0, .int 0, .int 0, .int 0])), (u 3, .inr (0, [.int 0, .int 0, .int 0, .int 0, .int 0, .int 0, .int 0, .int 0, .int 0, .int 0, .ref (u 4), .ref (u 5), .ref (u 6), .ref (u 7), .ref (u 8), .ref (u 9), .ref (u 10), .ref (u 11), .ref (u 12), .ref (u 13)])), (u 4, .inl (g.2 0, 8, .inl (fun _ => 0))), (u 5, .inl (g.2 0, 32, .inl (fun _ => 0))), (u 6, .inl (g.2 0, 4, .inl (fun _ => 0))), (u 7, .inl (g.2 0, 4, .inl (fun _ => 0))), (u 8, .inl (g.2 0, 8, .inl (fun _ => 0))), (u 9, .inl (g.2 0, 8, .inl (fun _ => 0))), (u 10, .inl (g.2 0, 4, .inl (fun _ => 0))), (u 11, .inl (g.2 0, 20, .inl (fun _ => 0))), (u 12, .inl (g.2 0, 6, .inl (fun _ => 0))), (u 13, .inr (3, [.ref (u 14), .ref (u 15), .ref (u 16), .int 0])), (u 14, .inl (g.2 0, 60, .inl (fun _ => 0))), (u 15, .inl (g.2 0, 60, .inl (fun _ => 0))), (u 16, .inl (g.2 0, 60, .inl (fun _ => 0))), (u 17, .inr (0, [.int 0, .int 0, .int 0, .int 0, .int 0, .int 0, .int 0, .int 0, .int 0, .int 0, .ref (u 18), .ref (u 19), .ref (u 20), .ref (u 21), .ref (u 22), .ref (u 23), .ref (u 24), .ref (u 25), .ref (u 26), .ref (u 27)])), (u 18, .inl (g.2 0, 8, .inl (fun _ => 0))), (u 19, .inl (g.2 0, 32, .inl (fun _ => 0))), (u 20, .inl (g.2 0, 4, .inl (fun _ => 0))), (u 21, .inl (g.2 0, 4, .inl (fun _ => 0))), (u 22, .inl (g.2 0, 8, .inl (fun _ => 0))), (u 23, .inl (g.2 0, 8, .inl (fun _ => 0))), (u 24, .inl (g.2 0, 4, .inl (fun _ => 0))), (u 25, .inl (g.2 0, 20, .inl (fun _ => 0))), (u 26, .inl (g.2 0, 6, .inl (fun _ => 0))), (u 27, .inr (3, [.ref (u 28), .ref (u 29), .ref (u 30), .int 0])), (u 28, .inl (g.2 0, 60, .inl (fun _ => 0))), (u 29, .inl (g.2 0, 60, .inl (fun _ => 0))), (u 30, .inl (g.2 0, 60, .inl (fun _ => 0))), (qm, .inr (12, [.int 0, .ref (v 0), .ref (v 1), .ref (v 2), .ref (v 3), .int 0, .ref (v 4), .int 0, .int 0, .int 0, .int 0, .int 0, .int 0, .int (-1), .ref (v 5), .ref (v 6), .int 0, .int 0, .int 0, .ref (v 7), .ref (v 8), .int 0, .int 0, .ref (v 9), .ref (v 10), .ref (v 11), .ref (v 12), .ref (v 13), .ref (v 14)])), (v 0, .inl (g.2 0, 225, .inl (fun _ => 0))), (v 5, .inl (g.2 0, 225, .inl (fun _ => 0)))] H := hP.sub [0, 1, 2, 4, 5, 6, 7, 8, 9, 10, 11, 12, 13, 14, 15, 16, 17, 18, 19, 20, 21, 22, 23, 24, 25, 26, 27, 28, 29, 30, 31, 85, 86, 91] rfl
  have hD : va_D (lA s) [(qx, .inr (11, [.ref (u 0), .ref (u 17), .ref (u 31), .ref (u 32), .ref (u 33), .ref (u 34), .ref (u 35), .ref (u 36), .ref (u 37), .ref (u 38), .ref (u 39)])), (u 0, .inr (1, [.ref (u 1), .ref (u 3), .int 0, .int (-1), .int 0])), (u 1, .inr (9, [.ref (u 2), .int 0, .int 0, .int 0, .int 0, .int 0])), (u 3, .inr (0, [.int 0, .int 0, .int 0, .int 0, .int 0, .int 0, .int 0, .int 0, .int 0, .int 0, .ref (u 4), .ref (u 5), .ref (u 6), .ref (u 7), .ref (u 8), .ref (u 9), .ref (u 10), .ref (u 11), .ref (u 12), .ref (u 13)])), (u 4, .inl (g.2 0, 8, .inl (fun _ => 0))), (u 5, .inl (g.2 0, 32, .inl (fun _ => 0))), (u 6, .inl (g.2 0, 4, .inl (fun _ => 0))), (u 7, .inl (g.2 0, 4, .inl (fun _ => 0))), (u 8, .inl (g.2 0, 8, .inl (fun _ => 0))), (u 9, .inl (g.2 0, 8, .inl (fun _ => 0))), (u 10, .inl (g.2 0, 4, .inl (fun _ => 0))), (u 11, .inl (g.2 0, 20, .inl (fun _ => 0))), (u 12, .inl (g.2 0, 6, .inl (fun _ => 0))), (u 13, .inr (3, [.ref (u 14), .ref (u 15), .ref (u 16), .int 0])), (u 14, .inl (g.2 0, 60, .inl (fun _ => 0))), (u 15, .inl (g.2 0, 60, .inl (fun _ => 0))), (u 16, .inl (g.2 0, 60, .inl (fun _ => 0))), (u 17, .inr (0, [.int 0, .int 0, .int 0, .int 0, .int 0, .int 0, .int 0, .int 0, .int 0, .int 0, .ref (u 18), .ref (u 19), .ref (u 20), .ref (u 21), .ref (u 22), .ref (u 23), .ref (u 24), .ref (u 25), .ref (u 26), .ref (u 27)])), (u 18, .inl (g.2 0, 8, .inl (fun _ => 0))), (u 19, .inl (g.2 0, 32, .inl (fun _ => 0))), (u 20, .inl (g.2 0, 4, .inl (fun _ => 0))), (u 21, .inl (g.2 0, 4, .inl (fun _ => 0))), (u 22, .inl (g.2 0, 8, .inl (fun _ => 0))), (u 23, .inl (g.2 0, 8, .inl (fun _ => 0))), (u 24, .inl (g.2 0, 4, .inl (fun _ => 0))), (u 25, .inl (g.2 0, 20, .inl (fun _ => 0))), (u 26, .inl (g.2 0, 6, .inl (fun _ => 0))), (u 27, .inr (3, [.ref (u 28), .ref (u 29), .ref (u 30), .int 0])), (u 28, .inl (g.2 0, 60, .inl (fun _ => 0))), (u 29, .inl (g.2 0, 60, .inl (fun _ => 0))), (u 30, .inl (g.2 0, 60, .inl (fun _ => 0))), (qm, .inr (12, [.int 0, .ref (v 0), .ref (v 1), .ref (v 2), .ref (v 3), .int 0, .ref (v 4), .int 0, .int 0, .int 0, .int 0, .int 0, .int 0, .int (-1), .ref (v 5), .ref (v 6), .int 0, .int 0, .int 0, .ref (v 7), .ref (v 8), .int 0, .int 0, .ref (v 9), .ref (v 10), .ref (v 11), .ref (v 12), .ref (v 13), .ref (v 14)])), (v 0, .inl (g.2 0, 225, .inl (fun _ => 0))), (v 5, .inl (g.2 0, 225, .inl (fun _ => 0)))] := hD.sub [0, 1, 2, 4, 5, 6, 7, 8, 9, 10, 11, 12, 13, 14, 15, 16, 17, 18, 19, 20, 21, 22, 23, 24, 25, 26, 27, 28, 29, 30, 31, 85, 86, 91] (by decide) rfl
  refine lv_aload_n hx hb dL_law_418 rfl (lv_at hl 2 rfl) ?_
  refine call_V (As := []) (rest := []) (wr := [(qm, .inr (12, [.int 0, .ref (v 0), .ref (v 1), .ref (v 2), .ref (v 3), .int 0, .ref (v 4), .int 0, .int 0, .int 0, .int 0, .int 0, .int 0, .int (-1), .ref (v 5), .ref (v 6), .int 0, .int 0, .int 0, .ref (v 7), .ref (v 8), .int 0, .int 0, .ref (v 9), .ref (v 10), .ref (v 11), .ref (v 12), .ref (v 13), .ref (v 14)])), (v 0, .inl (g.2 0, 225, .inl (fun _ => 0))), (v 5, .inl (g.2 0, 225, .inl (fun _ => 0)))]) FC hKn (c_X11_desk l g qx (u 0) (u 31) (u 32) (u 33) (u 34) (u 35) (u 36) (u 37) (u 38) (u 39) (u 1) (u 2) (u 17) (u 18) (u 19) (u 20) (u 21) (u 22) (u 23) (u 24) (u 25) (u 26) (u 27) (u 28) (u 29) (u 30) (u 3) (u 4) (u 5) (u 6) (u 7) (u 8) (u 9) (u 10) (u 11) (u 12) (u 13) (u 14) (u 15) (u 16)) m_yX11_desk b_488 (ci := 11) rfl rfl rfl hP hD hS hA [0, 1, 2, 17, 18, 19, 20, 21, 22, 23, 24, 25, 26, 27, 28, 29, 30, 3, 4, 5, 6, 7, 8, 9, 10, 11, 12, 13, 14, 15, 16] [31, 32, 33] rfl (by decide) rfl (by decide) (by decide) rfl hl.1 rfl (Nat.le_of_ble_eq_true rfl) dL_law_419 ⟨(Nat.le_of_ble_eq_true rfl), (Nat.le_of_ble_eq_true rfl)⟩ ⟨(Nat.le_of_ble_eq_true rfl), (Nat.le_of_ble_eq_true rfl)⟩ (fun u1 H locs _ hP hD hS => ?_)
  have hP : va_P g.1 vwCl [(qm, .inr (12, [.int 0, .ref (v 0), .ref (v 1), .ref (v 2), .ref (v 3), .int 0, .ref (v 4), .int 0, .int 0, .int 0, .int 0, .int 0, .int 0, .int (-1), .ref (v 5), .ref (v 6), .int 0, .int 0, .int 0, .ref (v 7), .ref (v 8), .int 0, .int 0, .ref (v 9), .ref (v 10), .ref (v 11), .ref (v 12), .ref (v 13), .ref (v 14)])), (v 0, .inl (g.2 0, 225, .inl (fun _ => 0))), (v 5, .inl (g.2 0, 225, .inl (fun _ => 0)))] H := hP
  have hD : va_D (lA s) [(qm, .inr (12, [.int 0, .ref (v 0), .ref (v 1), .ref (v 2), .ref (v 3), .int 0, .ref (v 4), .int 0, .int 0, .int 0, .int 0, .int 0, .int 0, .int (-1), .ref (v 5), .ref (v 6), .int 0, .int 0, .int 0, .ref (v 7), .ref (v 8), .int 0, .int 0, .ref (v 9), .ref (v 10), .ref (v 11), .ref (v 12), .ref (v 13), .ref (v 14)])), (v 0, .inl (g.2 0, 225, .inl (fun _ => 0))), (v 5, .inl (g.2 0, 225, .inl (fun _ => 0)))] := hD
  refine W.eq (g2 := F0 m 422 ls [.int 0]) rfl ?_
  refine lv_aload_n hx hb dL_law_422 rfl (lv_at hl 1 rfl) ?_
  refine call_V (As := []) (rest := [.int 0]) (wr := []) FC hKn (c_X12_desk l g qm (v 0) (v 1) (v 2) (v 3) (v 4) (v 5) (v 6) (v 7) (v 8) (v 9) (v 10) (v 11) (v 12) (v 13) (v 14)) m_yX12_desk b_489 (ci := 12) rfl rfl rfl hP hD hS hA [0, 1, 2] [] rfl (by decide) rfl (by decide) (by decide) rfl hl.1 rfl (Nat.le_of_ble_eq_true rfl) dL_law_423 ⟨(Nat.le_of_ble_eq_true rfl), (Nat.le_of_ble_eq_true rfl)⟩ ⟨(Nat.le_of_ble_eq_true rfl), (Nat.le_of_ble_eq_true rfl)⟩ (fun u2 H locs _ hP hD hS => ?_)
  have hP : va_P g.1 vwCl [] H := hP
  have hD : va_D (lA s) [] := hD
  refine W.eq (g2 := F0 m 426 ls [.int 0, .int 0]) rfl ?_
  refine lv_icmp_eq (tgt := 2465) hx hb dL_law_426 (by decide) (fun _ => ?_) (fun h => absurd rfl h)
  exact law_end C0 hS (lv_sub hl [0, 1, 2, 3] rfl) (Nat.le_of_ble_eq_true rfl) (Nat.le_of_ble_eq_true rfl)
set_option maxRecDepth 100000 in
set_option maxHeartbeats 4000000 in
/-- fault -/
theorem law_3 {p : Program} {e : Env} {s : State} {m : MethodId} {below : List Frame} {meth : Method} {c : Code} {l : Launch} {g : GG} {b : Nat} {xs : Nat → Int32} (C0 : lw_At p s m meth c b 6 xs) (hKn : Kn g s) {H : Heap} {locs : List Loc} {ls : Array Slot} {qx qm : Nat} {u v : Nat → Nat} (hP : va_P g.1 vwCl (WX g qx u ++ WM g qm v) H) (hD : va_D (lA s) (WX g qx u ++ WM g qm v)) (hS : va_S (lA s) s.heap H locs) (hl : lv_has ls 4 [(3, .int 0), (2, .ref qm), (1, .ref qx), (0, .ref b)]) : W p l e room_1 s m #[Value.ref b] below meth c H locs 122 12079 (lw_Z below #[Value.ref b] s) (F0 m 431 ls []) := by
  obtain ⟨hx, hb, hr, hml, hown, hts, hX, hbl, hlocks, hgv⟩ := id C0
  have hA : ∀ q : Nat, s.heap.size ≤ q → lA s q := fun _ h => h
  have hbA : ¬ lA s b := Nat.not_le.mpr hbl
  have hB : ∀ w ∈ BIG, w.before #[Value.ref b] s = true := fun w h => hts w (big_in w h)
  have FC : CallFix p m c cL_law 4 s #[Value.ref b] BIG RL := ⟨hx, hb, hml, hown, hB⟩
  have hP : va_P g.1 vwCl [(qx, .inr (11, [.ref (u 0), .ref (u 17), .ref (u 31), .ref (u 32), .ref (u 33), .ref (u 34), .ref (u 35), .ref (u 36), .ref (u 37), .ref (u 38), .ref (u 39)])), (u 0, .inr (1, [.ref (u 1), .ref (u 3), .int 0, .int (-1), .int 0])), (qm, .inr (12, [.int 0, .ref (v 0), .ref (v 1), .ref (v 2), .ref (v 3), .int 0, .ref (v 4), .int 0, .int 0, .int 0, .int 0, .int 0, .int 0, .int (-1), .ref (v 5), .ref (v 6), .int 0, .int 0, .int 0, .ref (v 7), .ref (v 8), .int 0, .int 0, .ref (v 9), .ref (v 10), .ref (v 11), .ref (v 12), .ref (v 13), .ref (v 14)]))] H := hP.sub [0, 1, 85] rfl
  have hD : va_D (lA s) [(qx, .inr (11, [.ref (u 0), .ref (u 17), .ref (u 31), .ref (u 32), .ref (u 33), .ref (u 34), .ref (u 35), .ref (u 36), .ref (u 37), .ref (u 38), .ref (u 39)])), (u 0, .inr (1, [.ref (u 1), .ref (u 3), .int 0, .int (-1), .int 0])), (qm, .inr (12, [.int 0, .ref (v 0), .ref (v 1), .ref (v 2), .ref (v 3), .int 0, .ref (v 4), .int 0, .int 0, .int 0, .int 0, .int 0, .int 0, .int (-1), .ref (v 5), .ref (v 6), .int 0, .int 0, .int 0, .ref (v 7), .ref (v 8), .int 0, .int 0, .ref (v 9), .ref (v 10), .ref (v 11), .ref (v 12), .ref (v 13), .ref (v 14)]))] := hD.sub [0, 1, 85] (by decide) rfl
  refine lv_aload_n hx hb dL_law_431 rfl (lv_at hl 2 rfl) ?_
  refine lv_aload_n hx hb dL_law_432 rfl (lv_at hl 3 rfl) ?_
  refine lv_iload_n hx hb dL_law_433 rfl (lv_at hl 0 rfl) ?_
  refine lv_iconst (v := 1) hx hb dL_law_434 (by decide) ?_
  refine lv_iadd hx hb dL_law_435 ?_
  refine tp_i (v := 1) (by decide) ?_
  refine va_sld hx hb hX hbl hbA hS (by unfold vp_in; decide) dL_law_436 ?_
  refine tp_i (v := xs 1) rfl ?_
  refine call_V (As := [.int (xs 1)]) (rest := []) (wr := [(qm, .inr (12, [.int 0, .ref (v 0), .ref (v 1), .ref (v 2), .ref (v 3), .int 0, .ref (v 4), .int 0, .int 0, .int 0, .int 0, .int 0, .int 0, .int (-1), .ref (v 5), .ref (v 6), .int 0, .int 0, .int 0, .ref (v 7), .ref (v 8), .int 0, .int 0, .ref (v 9), .ref (v 10), .ref (v 11), .ref (v 12), .ref (v 13), .ref (v 14)]))]) FC hKn (c_X11_fault l g qx (u 17) (u 0) (u 31) (u 32) (u 33) (u 34) (u 35) (u 36) (u 37) (u 38) (u 39) (u 1) (u 3) (xs 1)) m_yX11_fault b_490 (ci := 11) rfl rfl rfl hP hD hS hA [0, 1] [2] rfl (by decide) rfl (by decide) (by decide) rfl hl.1 rfl (Nat.le_of_ble_eq_true rfl) dL_law_437 ⟨(Nat.le_of_ble_eq_true rfl), (Nat.le_of_ble_eq_true rfl)⟩ ⟨(Nat.le_of_ble_eq_true rfl), (Nat.le_of_ble_eq_true rfl)⟩ (fun u1 H locs _ hP hD hS => ?_)
  have hP : va_P g.1 vwCl [(qm, .inr (12, [.int 0, .ref (v 0), .ref (v 1), .ref (v 2), .ref (v 3), .int 0, .ref (v 4), .int 0, .int 0, .int 0, .int 0, .int 0, .int 0, .int (-1), .ref (v 5), .ref (v 6), .int 0, .int 0, .int 0, .ref (v 7), .ref (v 8), .int 0, .int 0, .ref (v 9), .ref (v 10), .ref (v 11), .ref (v 12), .ref (v 13), .ref (v 14)]))] H := hP
  have hD : va_D (lA s) [(qm, .inr (12, [.int 0, .ref (v 0), .ref (v 1), .ref (v 2), .ref (v 3), .int 0, .ref (v 4), .int 0, .int 0, .int 0, .int 0, .int 0, .int 0, .int (-1), .ref (v 5), .ref (v 6), .int 0, .int 0, .int 0, .ref (v 7), .ref (v 8), .int 0, .int 0, .ref (v 9), .ref (v 10), .ref (v 11), .ref (v 12), .ref (v 13), .ref (v 14)]))] := hD
  refine W.eq (g2 := F0 m 440 ls [.int (sp_fault (xs 1))]) rfl ?_
  refine lv_aload_n hx hb dL_law_440 rfl (lv_at hl 1 rfl) ?_
  refine lv_aload_n hx hb dL_law_441 rfl (lv_at hl 3 rfl) ?_
  refine lv_iload_n hx hb dL_law_442 rfl (lv_at hl 0 rfl) ?_
  refine lv_iconst (v := 1) hx hb dL_law_443 (by decide) ?_
  refine lv_iadd hx hb dL_law_444 ?_
  refine tp_i (v := 1) (by decide) ?_
  refine va_sld hx hb hX hbl hbA hS (by unfold vp_in; decide) dL_law_445 ?_
  refine tp_i (v := xs 1) rfl ?_
  refine call_V (As := [.int (xs 1)]) (rest := [.int (sp_fault (xs 1))]) (wr := []) FC hKn (c_X12_fault l g qm (v 0) (v 1) (v 2) (v 3) (v 4) (v 5) (v 6) (v 7) (v 8) (v 9) (v 10) (v 11) (v 12) (v 13) (v 14) (xs 1)) m_yX12_fault b_491 (ci := 12) rfl rfl rfl hP hD hS hA [0] [] rfl (by decide) rfl (by decide) (by decide) rfl hl.1 rfl (Nat.le_of_ble_eq_true rfl) dL_law_446 ⟨(Nat.le_of_ble_eq_true rfl), (Nat.le_of_ble_eq_true rfl)⟩ ⟨(Nat.le_of_ble_eq_true rfl), (Nat.le_of_ble_eq_true rfl)⟩ (fun u2 H locs _ hP hD hS => ?_)
  have hP : va_P g.1 vwCl [] H := hP
  have hD : va_D (lA s) [] := hD
  refine W.eq (g2 := F0 m 449 ls [.int (sp_fault (xs 1)), .int (sp_fault (xs 1))]) rfl ?_
  refine lv_icmp_eq (tgt := 2465) hx hb dL_law_449 (by decide) (fun _ => ?_) (fun h => absurd rfl h)
  exact law_end C0 hS (lv_sub hl [0, 1, 2, 3] rfl) (Nat.le_of_ble_eq_true rfl) (Nat.le_of_ble_eq_true rfl)
set_option maxRecDepth 100000 in
set_option maxHeartbeats 4000000 in
/-- grade -/
theorem law_4 {p : Program} {e : Env} {s : State} {m : MethodId} {below : List Frame} {meth : Method} {c : Code} {l : Launch} {g : GG} {b : Nat} {xs : Nat → Int32} (C0 : lw_At p s m meth c b 6 xs) (hKn : Kn g s) {H : Heap} {locs : List Loc} {ls : Array Slot} {qx qm : Nat} {u v : Nat → Nat} (hP : va_P g.1 vwCl (WX g qx u ++ WM g qm v) H) (hD : va_D (lA s) (WX g qx u ++ WM g qm v)) (hS : va_S (lA s) s.heap H locs) (hl : lv_has ls 4 [(3, .int 0), (2, .ref qm), (1, .ref qx), (0, .ref b)]) : W p l e room_1 s m #[Value.ref b] below meth c H locs 122 12079 (lw_Z below #[Value.ref b] s) (F0 m 454 ls []) := by
  obtain ⟨hx, hb, hr, hml, hown, hts, hX, hbl, hlocks, hgv⟩ := id C0
  have hA : ∀ q : Nat, s.heap.size ≤ q → lA s q := fun _ h => h
  have hbA : ¬ lA s b := Nat.not_le.mpr hbl
  have hB : ∀ w ∈ BIG, w.before #[Value.ref b] s = true := fun w h => hts w (big_in w h)
  have FC : CallFix p m c cL_law 4 s #[Value.ref b] BIG RL := ⟨hx, hb, hml, hown, hB⟩
  have hP : va_P g.1 vwCl [(qx, .inr (11, [.ref (u 0), .ref (u 17), .ref (u 31), .ref (u 32), .ref (u 33), .ref (u 34), .ref (u 35), .ref (u 36), .ref (u 37), .ref (u 38), .ref (u 39)])), (u 17, .inr (0, [.int 0, .int 0, .int 0, .int 0, .int 0, .int 0, .int 0, .int 0, .int 0, .int 0, .ref (u 18), .ref (u 19), .ref (u 20), .ref (u 21), .ref (u 22), .ref (u 23), .ref (u 24), .ref (u 25), .ref (u 26), .ref (u 27)])), (qm, .inr (12, [.int 0, .ref (v 0), .ref (v 1), .ref (v 2), .ref (v 3), .int 0, .ref (v 4), .int 0, .int 0, .int 0, .int 0, .int 0, .int 0, .int (-1), .ref (v 5), .ref (v 6), .int 0, .int 0, .int 0, .ref (v 7), .ref (v 8), .int 0, .int 0, .ref (v 9), .ref (v 10), .ref (v 11), .ref (v 12), .ref (v 13), .ref (v 14)])), (v 0, .inl (g.2 0, 225, .inl (fun _ => 0)))] H := hP.sub [0, 18, 85, 86] rfl
  have hD : va_D (lA s) [(qx, .inr (11, [.ref (u 0), .ref (u 17), .ref (u 31), .ref (u 32), .ref (u 33), .ref (u 34), .ref (u 35), .ref (u 36), .ref (u 37), .ref (u 38), .ref (u 39)])), (u 17, .inr (0, [.int 0, .int 0, .int 0, .int 0, .int 0, .int 0, .int 0, .int 0, .int 0, .int 0, .ref (u 18), .ref (u 19), .ref (u 20), .ref (u 21), .ref (u 22), .ref (u 23), .ref (u 24), .ref (u 25), .ref (u 26), .ref (u 27)])), (qm, .inr (12, [.int 0, .ref (v 0), .ref (v 1), .ref (v 2), .ref (v 3), .int 0, .ref (v 4), .int 0, .int 0, .int 0, .int 0, .int 0, .int 0, .int (-1), .ref (v 5), .ref (v 6), .int 0, .int 0, .int 0, .ref (v 7), .ref (v 8), .int 0, .int 0, .ref (v 9), .ref (v 10), .ref (v 11), .ref (v 12), .ref (v 13), .ref (v 14)])), (v 0, .inl (g.2 0, 225, .inl (fun _ => 0)))] := hD.sub [0, 18, 85, 86] (by decide) rfl
  refine lv_aload_n hx hb dL_law_454 rfl (lv_at hl 2 rfl) ?_
  refine lv_aload_n hx hb dL_law_455 rfl (lv_at hl 3 rfl) ?_
  refine lv_iload_n hx hb dL_law_456 rfl (lv_at hl 0 rfl) ?_
  refine lv_iconst (v := 1) hx hb dL_law_457 (by decide) ?_
  refine lv_iadd hx hb dL_law_458 ?_
  refine tp_i (v := 1) (by decide) ?_
  refine va_sld hx hb hX hbl hbA hS (by unfold vp_in; decide) dL_law_459 ?_
  refine tp_i (v := xs 1) rfl ?_
  refine call_V (As := [.int (xs 1)]) (rest := []) (wr := [(qm, .inr (12, [.int 0, .ref (v 0), .ref (v 1), .ref (v 2), .ref (v 3), .int 0, .ref (v 4), .int 0, .int 0, .int 0, .int 0, .int 0, .int 0, .int (-1), .ref (v 5), .ref (v 6), .int 0, .int 0, .int 0, .ref (v 7), .ref (v 8), .int 0, .int 0, .ref (v 9), .ref (v 10), .ref (v 11), .ref (v 12), .ref (v 13), .ref (v 14)])), (v 0, .inl (g.2 0, 225, .inl (fun _ => 0)))]) FC hKn (c_X11_grade l g qx (u 17) (u 0) (u 31) (u 32) (u 33) (u 34) (u 35) (u 36) (u 37) (u 38) (u 39) (u 18) (u 19) (u 20) (u 21) (u 22) (u 23) (u 24) (u 25) (u 26) (u 27) (xs 1)) m_yX11_grade b_492 (ci := 11) rfl rfl rfl hP hD hS hA [0, 1] [2, 3] rfl (by decide) rfl (by decide) (by decide) rfl hl.1 rfl (Nat.le_of_ble_eq_true rfl) dL_law_460 ⟨(Nat.le_of_ble_eq_true rfl), (Nat.le_of_ble_eq_true rfl)⟩ ⟨(Nat.le_of_ble_eq_true rfl), (Nat.le_of_ble_eq_true rfl)⟩ (fun u1 H locs _ hP hD hS => ?_)
  have hP : va_P g.1 vwCl [(qm, .inr (12, [.int 0, .ref (v 0), .ref (v 1), .ref (v 2), .ref (v 3), .int 0, .ref (v 4), .int 0, .int 0, .int 0, .int 0, .int 0, .int 0, .int (-1), .ref (v 5), .ref (v 6), .int 0, .int 0, .int 0, .ref (v 7), .ref (v 8), .int 0, .int 0, .ref (v 9), .ref (v 10), .ref (v 11), .ref (v 12), .ref (v 13), .ref (v 14)])), (v 0, .inl (g.2 0, 225, .inl (fun _ => 0))), (qx, .inr (11, [.ref (u 0), .ref (u 17), .ref (u 31), .ref (u 32), .ref (u 33), .ref (u 34), .ref (u 35), .ref (u 36), .ref (u 37), .ref (u 38), .ref (u 39)])), (u 17, .inr (0, [.int 0, .int 0, .int 0, .int 0, .int 0, .int 0, .int 0, .int 0, .int 0, .int 0, .ref (u 18), .ref (u 19), .ref (u 20), .ref (u 21), .ref (u 22), .ref (u 23), .ref (u 24), .ref (u 25), .ref (u 26), .ref (u 27)]))] H := hP
  have hD : va_D (lA s) [(qm, .inr (12, [.int 0, .ref (v 0), .ref (v 1), .ref (v 2), .ref (v 3), .int 0, .ref (v 4), .int 0, .int 0, .int 0, .int 0, .int 0, .int 0, .int (-1), .ref (v 5), .ref (v 6), .int 0, .int 0, .int 0, .ref (v 7), .ref (v 8), .int 0, .int 0, .ref (v 9), .ref (v 10), .ref (v 11), .ref (v 12), .ref (v 13), .ref (v 14)])), (v 0, .inl (g.2 0, 225, .inl (fun _ => 0))), (qx, .inr (11, [.ref (u 0), .ref (u 17), .ref (u 31), .ref (u 32), .ref (u 33), .ref (u 34), .ref (u 35), .ref (u 36), .ref (u 37), .ref (u 38), .ref (u 39)])), (u 17, .inr (0, [.int 0, .int 0, .int 0, .int 0, .int 0, .int 0, .int 0, .int 0, .int 0, .int 0, .ref (u 18), .ref (u 19), .ref (u 20), .ref (u 21), .ref (u 22), .ref (u 23), .ref (u 24), .ref (u 25), .ref (u 26), .ref (u 27)]))] := hD
  refine W.eq (g2 := F0 m 463 ls [.int (-2)]) rfl ?_
  refine lv_aload_n hx hb dL_law_463 rfl (lv_at hl 1 rfl) ?_
  refine lv_aload_n hx hb dL_law_464 rfl (lv_at hl 3 rfl) ?_
  refine lv_iload_n hx hb dL_law_465 rfl (lv_at hl 0 rfl) ?_
  refine lv_iconst (v := 1) hx hb dL_law_466 (by decide) ?_
  refine lv_iadd hx hb dL_law_467 ?_
  refine tp_i (v := 1) (by decide) ?_
  refine va_sld hx hb hX hbl hbA hS (by unfold vp_in; decide) dL_law_468 ?_
  refine tp_i (v := xs 1) rfl ?_
  refine call_V (As := [.int (xs 1)]) (rest := [.int (-2)]) (wr := [(qx, .inr (11, [.ref (u 0), .ref (u 17), .ref (u 31), .ref (u 32), .ref (u 33), .ref (u 34), .ref (u 35), .ref (u 36), .ref (u 37), .ref (u 38), .ref (u 39)])), (u 17, .inr (0, [.int 0, .int 0, .int 0, .int 0, .int 0, .int 0, .int 0, .int 0, .int 0, .int 0, .ref (u 18), .ref (u 19), .ref (u 20), .ref (u 21), .ref (u 22), .ref (u 23), .ref (u 24), .ref (u 25), .ref (u 26), .ref (u 27)]))]) FC hKn (c_X12_grade l g qm (v 0) (v 1) (v 2) (v 3) (v 4) (v 5) (v 6) (v 7) (v 8) (v 9) (v 10) (v 11) (v 12) (v 13) (v 14) (xs 1)) m_yX12_grade b_493 (ci := 12) rfl rfl rfl hP hD hS hA [0, 1] [2, 3] rfl (by decide) rfl (by decide) (by decide) rfl hl.1 rfl (Nat.le_of_ble_eq_true rfl) dL_law_469 ⟨(Nat.le_of_ble_eq_true rfl), (Nat.le_of_ble_eq_true rfl)⟩ ⟨(Nat.le_of_ble_eq_true rfl), (Nat.le_of_ble_eq_true rfl)⟩ (fun u2 H locs _ hP hD hS => ?_)
  have hP : va_P g.1 vwCl [(qx, .inr (11, [.ref (u 0), .ref (u 17), .ref (u 31), .ref (u 32), .ref (u 33), .ref (u 34), .ref (u 35), .ref (u 36), .ref (u 37), .ref (u 38), .ref (u 39)])), (u 17, .inr (0, [.int 0, .int 0, .int 0, .int 0, .int 0, .int 0, .int 0, .int 0, .int 0, .int 0, .ref (u 18), .ref (u 19), .ref (u 20), .ref (u 21), .ref (u 22), .ref (u 23), .ref (u 24), .ref (u 25), .ref (u 26), .ref (u 27)])), (qm, .inr (12, [.int 0, .ref (v 0), .ref (v 1), .ref (v 2), .ref (v 3), .int 0, .ref (v 4), .int 0, .int 0, .int 0, .int 0, .int 0, .int 0, .int (-1), .ref (v 5), .ref (v 6), .int 0, .int 0, .int 0, .ref (v 7), .ref (v 8), .int 0, .int 0, .ref (v 9), .ref (v 10), .ref (v 11), .ref (v 12), .ref (v 13), .ref (v 14)])), (v 0, .inl (g.2 0, 225, .inl (fun _ => 0)))] H := hP
  have hD : va_D (lA s) [(qx, .inr (11, [.ref (u 0), .ref (u 17), .ref (u 31), .ref (u 32), .ref (u 33), .ref (u 34), .ref (u 35), .ref (u 36), .ref (u 37), .ref (u 38), .ref (u 39)])), (u 17, .inr (0, [.int 0, .int 0, .int 0, .int 0, .int 0, .int 0, .int 0, .int 0, .int 0, .int 0, .ref (u 18), .ref (u 19), .ref (u 20), .ref (u 21), .ref (u 22), .ref (u 23), .ref (u 24), .ref (u 25), .ref (u 26), .ref (u 27)])), (qm, .inr (12, [.int 0, .ref (v 0), .ref (v 1), .ref (v 2), .ref (v 3), .int 0, .ref (v 4), .int 0, .int 0, .int 0, .int 0, .int 0, .int 0, .int (-1), .ref (v 5), .ref (v 6), .int 0, .int 0, .int 0, .ref (v 7), .ref (v 8), .int 0, .int 0, .ref (v 9), .ref (v 10), .ref (v 11), .ref (v 12), .ref (v 13), .ref (v 14)])), (v 0, .inl (g.2 0, 225, .inl (fun _ => 0)))] := hD
  refine W.eq (g2 := F0 m 472 ls [.int (-2), .int (-2)]) rfl ?_
  refine lv_icmp_eq (tgt := 2465) hx hb dL_law_472 (by decide) (fun _ => ?_) (fun h => absurd rfl h)
  exact law_end C0 hS (lv_sub hl [0, 1, 2, 3] rfl) (Nat.le_of_ble_eq_true rfl) (Nat.le_of_ble_eq_true rfl)
set_option maxRecDepth 100000 in
set_option maxHeartbeats 4000000 in
/-- thinks -/
theorem law_5 {p : Program} {e : Env} {s : State} {m : MethodId} {below : List Frame} {meth : Method} {c : Code} {l : Launch} {g : GG} {b : Nat} {xs : Nat → Int32} (C0 : lw_At p s m meth c b 6 xs) (hKn : Kn g s) {H : Heap} {locs : List Loc} {ls : Array Slot} {qx qm : Nat} {u v : Nat → Nat} (hP : va_P g.1 vwCl (WX g qx u ++ WM g qm v) H) (hD : va_D (lA s) (WX g qx u ++ WM g qm v)) (hS : va_S (lA s) s.heap H locs) (hl : lv_has ls 4 [(3, .int 0), (2, .ref qm), (1, .ref qx), (0, .ref b)]) : W p l e room_1 s m #[Value.ref b] below meth c H locs 122 12079 (lw_Z below #[Value.ref b] s) (F0 m 477 ls []) := by
  obtain ⟨hx, hb, hr, hml, hown, hts, hX, hbl, hlocks, hgv⟩ := id C0
  have hA : ∀ q : Nat, s.heap.size ≤ q → lA s q := fun _ h => h
  have hbA : ¬ lA s b := Nat.not_le.mpr hbl
  have hB : ∀ w ∈ BIG, w.before #[Value.ref b] s = true := fun w h => hts w (big_in w h)
  have FC : CallFix p m c cL_law 4 s #[Value.ref b] BIG RL := ⟨hx, hb, hml, hown, hB⟩
  have hP : va_P g.1 vwCl [(qx, .inr (11, [.ref (u 0), .ref (u 17), .ref (u 31), .ref (u 32), .ref (u 33), .ref (u 34), .ref (u 35), .ref (u 36), .ref (u 37), .ref (u 38), .ref (u 39)])), (u 17, .inr (0, [.int 0, .int 0, .int 0, .int 0, .int 0, .int 0, .int 0, .int 0, .int 0, .int 0, .ref (u 18), .ref (u 19), .ref (u 20), .ref (u 21), .ref (u 22), .ref (u 23), .ref (u 24), .ref (u 25), .ref (u 26), .ref (u 27)])), (qm, .inr (12, [.int 0, .ref (v 0), .ref (v 1), .ref (v 2), .ref (v 3), .int 0, .ref (v 4), .int 0, .int 0, .int 0, .int 0, .int 0, .int 0, .int (-1), .ref (v 5), .ref (v 6), .int 0, .int 0, .int 0, .ref (v 7), .ref (v 8), .int 0, .int 0, .ref (v 9), .ref (v 10), .ref (v 11), .ref (v 12), .ref (v 13), .ref (v 14)])), (v 0, .inl (g.2 0, 225, .inl (fun _ => 0)))] H := hP.sub [0, 18, 85, 86] rfl
  have hD : va_D (lA s) [(qx, .inr (11, [.ref (u 0), .ref (u 17), .ref (u 31), .ref (u 32), .ref (u 33), .ref (u 34), .ref (u 35), .ref (u 36), .ref (u 37), .ref (u 38), .ref (u 39)])), (u 17, .inr (0, [.int 0, .int 0, .int 0, .int 0, .int 0, .int 0, .int 0, .int 0, .int 0, .int 0, .ref (u 18), .ref (u 19), .ref (u 20), .ref (u 21), .ref (u 22), .ref (u 23), .ref (u 24), .ref (u 25), .ref (u 26), .ref (u 27)])), (qm, .inr (12, [.int 0, .ref (v 0), .ref (v 1), .ref (v 2), .ref (v 3), .int 0, .ref (v 4), .int 0, .int 0, .int 0, .int 0, .int 0, .int 0, .int (-1), .ref (v 5), .ref (v 6), .int 0, .int 0, .int 0, .ref (v 7), .ref (v 8), .int 0, .int 0, .ref (v 9), .ref (v 10), .ref (v 11), .ref (v 12), .ref (v 13), .ref (v 14)])), (v 0, .inl (g.2 0, 225, .inl (fun _ => 0)))] := hD.sub [0, 18, 85, 86] (by decide) rfl
  refine lv_aload_n hx hb dL_law_477 rfl (lv_at hl 2 rfl) ?_
  refine lv_aload_n hx hb dL_law_478 rfl (lv_at hl 3 rfl) ?_
  refine lv_iload_n hx hb dL_law_479 rfl (lv_at hl 0 rfl) ?_
  refine lv_iconst (v := 1) hx hb dL_law_480 (by decide) ?_
  refine lv_iadd hx hb dL_law_481 ?_
  refine tp_i (v := 1) (by decide) ?_
  refine va_sld hx hb hX hbl hbA hS (by unfold vp_in; decide) dL_law_482 ?_
  refine tp_i (v := xs 1) rfl ?_
  refine lv_aload_n hx hb dL_law_483 rfl (lv_at hl 3 rfl) ?_
  refine lv_iload_n hx hb dL_law_484 rfl (lv_at hl 0 rfl) ?_
  refine lv_iconst (v := 2) hx hb dL_law_485 (by decide) ?_
  refine lv_iadd hx hb dL_law_486 ?_
  refine tp_i (v := 2) (by decide) ?_
  refine va_sld hx hb hX hbl hbA hS (by unfold vp_in; decide) dL_law_487 ?_
  refine tp_i (v := xs 2) rfl ?_
  refine call_V (As := [.int (xs 1), .int (xs 2)]) (rest := []) (wr := [(qm, .inr (12, [.int 0, .ref (v 0), .ref (v 1), .ref (v 2), .ref (v 3), .int 0, .ref (v 4), .int 0, .int 0, .int 0, .int 0, .int 0, .int 0, .int (-1), .ref (v 5), .ref (v 6), .int 0, .int 0, .int 0, .ref (v 7), .ref (v 8), .int 0, .int 0, .ref (v 9), .ref (v 10), .ref (v 11), .ref (v 12), .ref (v 13), .ref (v 14)])), (v 0, .inl (g.2 0, 225, .inl (fun _ => 0)))]) FC hKn (c_X11_thinks l g qx (u 17) (u 0) (u 31) (u 32) (u 33) (u 34) (u 35) (u 36) (u 37) (u 38) (u 39) (u 18) (u 19) (u 20) (u 21) (u 22) (u 23) (u 24) (u 25) (u 26) (u 27) (xs 1) (xs 2)) m_yX11_thinks b_494 (ci := 11) rfl rfl rfl hP hD hS hA [0, 1] [2, 3] rfl (by decide) rfl (by decide) (by decide) rfl hl.1 rfl (Nat.le_of_ble_eq_true rfl) dL_law_488 ⟨(Nat.le_of_ble_eq_true rfl), (Nat.le_of_ble_eq_true rfl)⟩ ⟨(Nat.le_of_ble_eq_true rfl), (Nat.le_of_ble_eq_true rfl)⟩ (fun u1 H locs _ hP hD hS => ?_)
  have hP : va_P g.1 vwCl [(qm, .inr (12, [.int 0, .ref (v 0), .ref (v 1), .ref (v 2), .ref (v 3), .int 0, .ref (v 4), .int 0, .int 0, .int 0, .int 0, .int 0, .int 0, .int (-1), .ref (v 5), .ref (v 6), .int 0, .int 0, .int 0, .ref (v 7), .ref (v 8), .int 0, .int 0, .ref (v 9), .ref (v 10), .ref (v 11), .ref (v 12), .ref (v 13), .ref (v 14)])), (v 0, .inl (g.2 0, 225, .inl (fun _ => 0))), (qx, .inr (11, [.ref (u 0), .ref (u 17), .ref (u 31), .ref (u 32), .ref (u 33), .ref (u 34), .ref (u 35), .ref (u 36), .ref (u 37), .ref (u 38), .ref (u 39)])), (u 17, .inr (0, [.int 0, .int 0, .int 0, .int 0, .int 0, .int 0, .int 0, .int 0, .int 0, .int 0, .ref (u 18), .ref (u 19), .ref (u 20), .ref (u 21), .ref (u 22), .ref (u 23), .ref (u 24), .ref (u 25), .ref (u 26), .ref (u 27)]))] H := hP
  have hD : va_D (lA s) [(qm, .inr (12, [.int 0, .ref (v 0), .ref (v 1), .ref (v 2), .ref (v 3), .int 0, .ref (v 4), .int 0, .int 0, .int 0, .int 0, .int 0, .int 0, .int (-1), .ref (v 5), .ref (v 6), .int 0, .int 0, .int 0, .ref (v 7), .ref (v 8), .int 0, .int 0, .ref (v 9), .ref (v 10), .ref (v 11), .ref (v 12), .ref (v 13), .ref (v 14)])), (v 0, .inl (g.2 0, 225, .inl (fun _ => 0))), (qx, .inr (11, [.ref (u 0), .ref (u 17), .ref (u 31), .ref (u 32), .ref (u 33), .ref (u 34), .ref (u 35), .ref (u 36), .ref (u 37), .ref (u 38), .ref (u 39)])), (u 17, .inr (0, [.int 0, .int 0, .int 0, .int 0, .int 0, .int 0, .int 0, .int 0, .int 0, .int 0, .ref (u 18), .ref (u 19), .ref (u 20), .ref (u 21), .ref (u 22), .ref (u 23), .ref (u 24), .ref (u 25), .ref (u 26), .ref (u 27)]))] := hD
  refine W.eq (g2 := F0 m 491 ls [.int (-2)]) rfl ?_
  refine lv_aload_n hx hb dL_law_491 rfl (lv_at hl 1 rfl) ?_
  refine lv_aload_n hx hb dL_law_492 rfl (lv_at hl 3 rfl) ?_
  refine lv_iload_n hx hb dL_law_493 rfl (lv_at hl 0 rfl) ?_
  refine lv_iconst (v := 1) hx hb dL_law_494 (by decide) ?_
  refine lv_iadd hx hb dL_law_495 ?_
  refine tp_i (v := 1) (by decide) ?_
  refine va_sld hx hb hX hbl hbA hS (by unfold vp_in; decide) dL_law_496 ?_
  refine tp_i (v := xs 1) rfl ?_
  refine lv_aload_n hx hb dL_law_497 rfl (lv_at hl 3 rfl) ?_
  refine lv_iload_n hx hb dL_law_498 rfl (lv_at hl 0 rfl) ?_
  refine lv_iconst (v := 2) hx hb dL_law_499 (by decide) ?_
  refine lv_iadd hx hb dL_law_500 ?_
  refine tp_i (v := 2) (by decide) ?_
  refine va_sld hx hb hX hbl hbA hS (by unfold vp_in; decide) dL_law_501 ?_
  refine tp_i (v := xs 2) rfl ?_
  refine call_V (As := [.int (xs 1), .int (xs 2)]) (rest := [.int (-2)]) (wr := [(qx, .inr (11, [.ref (u 0), .ref (u 17), .ref (u 31), .ref (u 32), .ref (u 33), .ref (u 34), .ref (u 35), .ref (u 36), .ref (u 37), .ref (u 38), .ref (u 39)])), (u 17, .inr (0, [.int 0, .int 0, .int 0, .int 0, .int 0, .int 0, .int 0, .int 0, .int 0, .int 0, .ref (u 18), .ref (u 19), .ref (u 20), .ref (u 21), .ref (u 22), .ref (u 23), .ref (u 24), .ref (u 25), .ref (u 26), .ref (u 27)]))]) FC hKn (c_X12_thinks l g qm (v 0) (v 1) (v 2) (v 3) (v 4) (v 5) (v 6) (v 7) (v 8) (v 9) (v 10) (v 11) (v 12) (v 13) (v 14) (xs 1) (xs 2)) m_yX12_thinks b_495 (ci := 12) rfl rfl rfl hP hD hS hA [0, 1] [2, 3] rfl (by decide) rfl (by decide) (by decide) rfl hl.1 rfl (Nat.le_of_ble_eq_true rfl) dL_law_502 ⟨(Nat.le_of_ble_eq_true rfl), (Nat.le_of_ble_eq_true rfl)⟩ ⟨(Nat.le_of_ble_eq_true rfl), (Nat.le_of_ble_eq_true rfl)⟩ (fun u2 H locs _ hP hD hS => ?_)
  have hP : va_P g.1 vwCl [(qx, .inr (11, [.ref (u 0), .ref (u 17), .ref (u 31), .ref (u 32), .ref (u 33), .ref (u 34), .ref (u 35), .ref (u 36), .ref (u 37), .ref (u 38), .ref (u 39)])), (u 17, .inr (0, [.int 0, .int 0, .int 0, .int 0, .int 0, .int 0, .int 0, .int 0, .int 0, .int 0, .ref (u 18), .ref (u 19), .ref (u 20), .ref (u 21), .ref (u 22), .ref (u 23), .ref (u 24), .ref (u 25), .ref (u 26), .ref (u 27)])), (qm, .inr (12, [.int 0, .ref (v 0), .ref (v 1), .ref (v 2), .ref (v 3), .int 0, .ref (v 4), .int 0, .int 0, .int 0, .int 0, .int 0, .int 0, .int (-1), .ref (v 5), .ref (v 6), .int 0, .int 0, .int 0, .ref (v 7), .ref (v 8), .int 0, .int 0, .ref (v 9), .ref (v 10), .ref (v 11), .ref (v 12), .ref (v 13), .ref (v 14)])), (v 0, .inl (g.2 0, 225, .inl (fun _ => 0)))] H := hP
  have hD : va_D (lA s) [(qx, .inr (11, [.ref (u 0), .ref (u 17), .ref (u 31), .ref (u 32), .ref (u 33), .ref (u 34), .ref (u 35), .ref (u 36), .ref (u 37), .ref (u 38), .ref (u 39)])), (u 17, .inr (0, [.int 0, .int 0, .int 0, .int 0, .int 0, .int 0, .int 0, .int 0, .int 0, .int 0, .ref (u 18), .ref (u 19), .ref (u 20), .ref (u 21), .ref (u 22), .ref (u 23), .ref (u 24), .ref (u 25), .ref (u 26), .ref (u 27)])), (qm, .inr (12, [.int 0, .ref (v 0), .ref (v 1), .ref (v 2), .ref (v 3), .int 0, .ref (v 4), .int 0, .int 0, .int 0, .int 0, .int 0, .int 0, .int (-1), .ref (v 5), .ref (v 6), .int 0, .int 0, .int 0, .ref (v 7), .ref (v 8), .int 0, .int 0, .ref (v 9), .ref (v 10), .ref (v 11), .ref (v 12), .ref (v 13), .ref (v 14)])), (v 0, .inl (g.2 0, 225, .inl (fun _ => 0)))] := hD
  refine W.eq (g2 := F0 m 505 ls [.int (-2), .int (-2)]) rfl ?_
  refine lv_icmp_eq (tgt := 2465) hx hb dL_law_505 (by decide) (fun _ => ?_) (fun h => absurd rfl h)
  exact law_end C0 hS (lv_sub hl [0, 1, 2, 3] rfl) (Nat.le_of_ble_eq_true rfl) (Nat.le_of_ble_eq_true rfl)
set_option maxRecDepth 100000 in
set_option maxHeartbeats 4000000 in
/-- word -/
theorem law_6 {p : Program} {e : Env} {s : State} {m : MethodId} {below : List Frame} {meth : Method} {c : Code} {l : Launch} {g : GG} {b : Nat} {xs : Nat → Int32} (C0 : lw_At p s m meth c b 6 xs) (hKn : Kn g s) {H : Heap} {locs : List Loc} {ls : Array Slot} {qx qm : Nat} {u v : Nat → Nat} (hP : va_P g.1 vwCl (WX g qx u ++ WM g qm v) H) (hD : va_D (lA s) (WX g qx u ++ WM g qm v)) (hS : va_S (lA s) s.heap H locs) (hl : lv_has ls 4 [(3, .int 0), (2, .ref qm), (1, .ref qx), (0, .ref b)]) : W p l e room_1 s m #[Value.ref b] below meth c H locs 122 12079 (lw_Z below #[Value.ref b] s) (F0 m 510 ls []) := by
  obtain ⟨hx, hb, hr, hml, hown, hts, hX, hbl, hlocks, hgv⟩ := id C0
  have hA : ∀ q : Nat, s.heap.size ≤ q → lA s q := fun _ h => h
  have hbA : ¬ lA s b := Nat.not_le.mpr hbl
  have hB : ∀ w ∈ BIG, w.before #[Value.ref b] s = true := fun w h => hts w (big_in w h)
  have FC : CallFix p m c cL_law 4 s #[Value.ref b] BIG RL := ⟨hx, hb, hml, hown, hB⟩
  have hP : va_P g.1 vwCl [(qx, .inr (11, [.ref (u 0), .ref (u 17), .ref (u 31), .ref (u 32), .ref (u 33), .ref (u 34), .ref (u 35), .ref (u 36), .ref (u 37), .ref (u 38), .ref (u 39)])), (u 17, .inr (0, [.int 0, .int 0, .int 0, .int 0, .int 0, .int 0, .int 0, .int 0, .int 0, .int 0, .ref (u 18), .ref (u 19), .ref (u 20), .ref (u 21), .ref (u 22), .ref (u 23), .ref (u 24), .ref (u 25), .ref (u 26), .ref (u 27)])), (qm, .inr (12, [.int 0, .ref (v 0), .ref (v 1), .ref (v 2), .ref (v 3), .int 0, .ref (v 4), .int 0, .int 0, .int 0, .int 0, .int 0, .int 0, .int (-1), .ref (v 5), .ref (v 6), .int 0, .int 0, .int 0, .ref (v 7), .ref (v 8), .int 0, .int 0, .ref (v 9), .ref (v 10), .ref (v 11), .ref (v 12), .ref (v 13), .ref (v 14)])), (v 0, .inl (g.2 0, 225, .inl (fun _ => 0)))] H := hP.sub [0, 18, 85, 86] rfl
  have hD : va_D (lA s) [(qx, .inr (11, [.ref (u 0), .ref (u 17), .ref (u 31), .ref (u 32), .ref (u 33), .ref (u 34), .ref (u 35), .ref (u 36), .ref (u 37), .ref (u 38), .ref (u 39)])), (u 17, .inr (0, [.int 0, .int 0, .int 0, .int 0, .int 0, .int 0, .int 0, .int 0, .int 0, .int 0, .ref (u 18), .ref (u 19), .ref (u 20), .ref (u 21), .ref (u 22), .ref (u 23), .ref (u 24), .ref (u 25), .ref (u 26), .ref (u 27)])), (qm, .inr (12, [.int 0, .ref (v 0), .ref (v 1), .ref (v 2), .ref (v 3), .int 0, .ref (v 4), .int 0, .int 0, .int 0, .int 0, .int 0, .int 0, .int (-1), .ref (v 5), .ref (v 6), .int 0, .int 0, .int 0, .ref (v 7), .ref (v 8), .int 0, .int 0, .ref (v 9), .ref (v 10), .ref (v 11), .ref (v 12), .ref (v 13), .ref (v 14)])), (v 0, .inl (g.2 0, 225, .inl (fun _ => 0)))] := hD.sub [0, 18, 85, 86] (by decide) rfl
  refine lv_aload_n hx hb dL_law_510 rfl (lv_at hl 2 rfl) ?_
  refine lv_aload_n hx hb dL_law_511 rfl (lv_at hl 3 rfl) ?_
  refine lv_iload_n hx hb dL_law_512 rfl (lv_at hl 0 rfl) ?_
  refine lv_iconst (v := 1) hx hb dL_law_513 (by decide) ?_
  refine lv_iadd hx hb dL_law_514 ?_
  refine tp_i (v := 1) (by decide) ?_
  refine va_sld hx hb hX hbl hbA hS (by unfold vp_in; decide) dL_law_515 ?_
  refine tp_i (v := xs 1) rfl ?_
  refine lv_aload_n hx hb dL_law_516 rfl (lv_at hl 3 rfl) ?_
  refine lv_iload_n hx hb dL_law_517 rfl (lv_at hl 0 rfl) ?_
  refine lv_iconst (v := 2) hx hb dL_law_518 (by decide) ?_
  refine lv_iadd hx hb dL_law_519 ?_
  refine tp_i (v := 2) (by decide) ?_
  refine va_sld hx hb hX hbl hbA hS (by unfold vp_in; decide) dL_law_520 ?_
  refine tp_i (v := xs 2) rfl ?_
  refine call_V (As := [.int (xs 1), .int (xs 2)]) (rest := []) (wr := [(qm, .inr (12, [.int 0, .ref (v 0), .ref (v 1), .ref (v 2), .ref (v 3), .int 0, .ref (v 4), .int 0, .int 0, .int 0, .int 0, .int 0, .int 0, .int (-1), .ref (v 5), .ref (v 6), .int 0, .int 0, .int 0, .ref (v 7), .ref (v 8), .int 0, .int 0, .ref (v 9), .ref (v 10), .ref (v 11), .ref (v 12), .ref (v 13), .ref (v 14)])), (v 0, .inl (g.2 0, 225, .inl (fun _ => 0)))]) FC hKn (c_X11_word l g qx (u 17) (u 0) (u 31) (u 32) (u 33) (u 34) (u 35) (u 36) (u 37) (u 38) (u 39) (u 18) (u 19) (u 20) (u 21) (u 22) (u 23) (u 24) (u 25) (u 26) (u 27) (xs 1) (xs 2)) m_yX11_word b_496 (ci := 11) rfl rfl rfl hP hD hS hA [0, 1] [2, 3] rfl (by decide) rfl (by decide) (by decide) rfl hl.1 rfl (Nat.le_of_ble_eq_true rfl) dL_law_521 ⟨(Nat.le_of_ble_eq_true rfl), (Nat.le_of_ble_eq_true rfl)⟩ ⟨(Nat.le_of_ble_eq_true rfl), (Nat.le_of_ble_eq_true rfl)⟩ (fun u1 H locs _ hP hD hS => ?_)
  have hP : va_P g.1 vwCl [(qm, .inr (12, [.int 0, .ref (v 0), .ref (v 1), .ref (v 2), .ref (v 3), .int 0, .ref (v 4), .int 0, .int 0, .int 0, .int 0, .int 0, .int 0, .int (-1), .ref (v 5), .ref (v 6), .int 0, .int 0, .int 0, .ref (v 7), .ref (v 8), .int 0, .int 0, .ref (v 9), .ref (v 10), .ref (v 11), .ref (v 12), .ref (v 13), .ref (v 14)])), (v 0, .inl (g.2 0, 225, .inl (fun _ => 0))), (qx, .inr (11, [.ref (u 0), .ref (u 17), .ref (u 31), .ref (u 32), .ref (u 33), .ref (u 34), .ref (u 35), .ref (u 36), .ref (u 37), .ref (u 38), .ref (u 39)])), (u 17, .inr (0, [.int 0, .int 0, .int 0, .int 0, .int 0, .int 0, .int 0, .int 0, .int 0, .int 0, .ref (u 18), .ref (u 19), .ref (u 20), .ref (u 21), .ref (u 22), .ref (u 23), .ref (u 24), .ref (u 25), .ref (u 26), .ref (u 27)]))] H := hP
  have hD : va_D (lA s) [(qm, .inr (12, [.int 0, .ref (v 0), .ref (v 1), .ref (v 2), .ref (v 3), .int 0, .ref (v 4), .int 0, .int 0, .int 0, .int 0, .int 0, .int 0, .int (-1), .ref (v 5), .ref (v 6), .int 0, .int 0, .int 0, .ref (v 7), .ref (v 8), .int 0, .int 0, .ref (v 9), .ref (v 10), .ref (v 11), .ref (v 12), .ref (v 13), .ref (v 14)])), (v 0, .inl (g.2 0, 225, .inl (fun _ => 0))), (qx, .inr (11, [.ref (u 0), .ref (u 17), .ref (u 31), .ref (u 32), .ref (u 33), .ref (u 34), .ref (u 35), .ref (u 36), .ref (u 37), .ref (u 38), .ref (u 39)])), (u 17, .inr (0, [.int 0, .int 0, .int 0, .int 0, .int 0, .int 0, .int 0, .int 0, .int 0, .int 0, .ref (u 18), .ref (u 19), .ref (u 20), .ref (u 21), .ref (u 22), .ref (u 23), .ref (u 24), .ref (u 25), .ref (u 26), .ref (u 27)]))] := hD
  refine W.eq (g2 := F0 m 524 ls [.int (-2)]) rfl ?_
  refine lv_aload_n hx hb dL_law_524 rfl (lv_at hl 1 rfl) ?_
  refine lv_aload_n hx hb dL_law_525 rfl (lv_at hl 3 rfl) ?_
  refine lv_iload_n hx hb dL_law_526 rfl (lv_at hl 0 rfl) ?_
  refine lv_iconst (v := 1) hx hb dL_law_527 (by decide) ?_
  refine lv_iadd hx hb dL_law_528 ?_
  refine tp_i (v := 1) (by decide) ?_
  refine va_sld hx hb hX hbl hbA hS (by unfold vp_in; decide) dL_law_529 ?_
  refine tp_i (v := xs 1) rfl ?_
  refine lv_aload_n hx hb dL_law_530 rfl (lv_at hl 3 rfl) ?_
  refine lv_iload_n hx hb dL_law_531 rfl (lv_at hl 0 rfl) ?_
  refine lv_iconst (v := 2) hx hb dL_law_532 (by decide) ?_
  refine lv_iadd hx hb dL_law_533 ?_
  refine tp_i (v := 2) (by decide) ?_
  refine va_sld hx hb hX hbl hbA hS (by unfold vp_in; decide) dL_law_534 ?_
  refine tp_i (v := xs 2) rfl ?_
  refine call_V (As := [.int (xs 1), .int (xs 2)]) (rest := [.int (-2)]) (wr := [(qx, .inr (11, [.ref (u 0), .ref (u 17), .ref (u 31), .ref (u 32), .ref (u 33), .ref (u 34), .ref (u 35), .ref (u 36), .ref (u 37), .ref (u 38), .ref (u 39)])), (u 17, .inr (0, [.int 0, .int 0, .int 0, .int 0, .int 0, .int 0, .int 0, .int 0, .int 0, .int 0, .ref (u 18), .ref (u 19), .ref (u 20), .ref (u 21), .ref (u 22), .ref (u 23), .ref (u 24), .ref (u 25), .ref (u 26), .ref (u 27)]))]) FC hKn (c_X12_word l g qm (v 0) (v 1) (v 2) (v 3) (v 4) (v 5) (v 6) (v 7) (v 8) (v 9) (v 10) (v 11) (v 12) (v 13) (v 14) (xs 1) (xs 2)) m_yX12_word b_497 (ci := 12) rfl rfl rfl hP hD hS hA [0, 1] [2, 3] rfl (by decide) rfl (by decide) (by decide) rfl hl.1 rfl (Nat.le_of_ble_eq_true rfl) dL_law_535 ⟨(Nat.le_of_ble_eq_true rfl), (Nat.le_of_ble_eq_true rfl)⟩ ⟨(Nat.le_of_ble_eq_true rfl), (Nat.le_of_ble_eq_true rfl)⟩ (fun u2 H locs _ hP hD hS => ?_)
  have hP : va_P g.1 vwCl [(qx, .inr (11, [.ref (u 0), .ref (u 17), .ref (u 31), .ref (u 32), .ref (u 33), .ref (u 34), .ref (u 35), .ref (u 36), .ref (u 37), .ref (u 38), .ref (u 39)])), (u 17, .inr (0, [.int 0, .int 0, .int 0, .int 0, .int 0, .int 0, .int 0, .int 0, .int 0, .int 0, .ref (u 18), .ref (u 19), .ref (u 20), .ref (u 21), .ref (u 22), .ref (u 23), .ref (u 24), .ref (u 25), .ref (u 26), .ref (u 27)])), (qm, .inr (12, [.int 0, .ref (v 0), .ref (v 1), .ref (v 2), .ref (v 3), .int 0, .ref (v 4), .int 0, .int 0, .int 0, .int 0, .int 0, .int 0, .int (-1), .ref (v 5), .ref (v 6), .int 0, .int 0, .int 0, .ref (v 7), .ref (v 8), .int 0, .int 0, .ref (v 9), .ref (v 10), .ref (v 11), .ref (v 12), .ref (v 13), .ref (v 14)])), (v 0, .inl (g.2 0, 225, .inl (fun _ => 0)))] H := hP
  have hD : va_D (lA s) [(qx, .inr (11, [.ref (u 0), .ref (u 17), .ref (u 31), .ref (u 32), .ref (u 33), .ref (u 34), .ref (u 35), .ref (u 36), .ref (u 37), .ref (u 38), .ref (u 39)])), (u 17, .inr (0, [.int 0, .int 0, .int 0, .int 0, .int 0, .int 0, .int 0, .int 0, .int 0, .int 0, .ref (u 18), .ref (u 19), .ref (u 20), .ref (u 21), .ref (u 22), .ref (u 23), .ref (u 24), .ref (u 25), .ref (u 26), .ref (u 27)])), (qm, .inr (12, [.int 0, .ref (v 0), .ref (v 1), .ref (v 2), .ref (v 3), .int 0, .ref (v 4), .int 0, .int 0, .int 0, .int 0, .int 0, .int 0, .int (-1), .ref (v 5), .ref (v 6), .int 0, .int 0, .int 0, .ref (v 7), .ref (v 8), .int 0, .int 0, .ref (v 9), .ref (v 10), .ref (v 11), .ref (v 12), .ref (v 13), .ref (v 14)])), (v 0, .inl (g.2 0, 225, .inl (fun _ => 0)))] := hD
  refine W.eq (g2 := F0 m 538 ls [.int (-2), .int (-2)]) rfl ?_
  refine lv_icmp_eq (tgt := 2465) hx hb dL_law_538 (by decide) (fun _ => ?_) (fun h => absurd rfl h)
  exact law_end C0 hS (lv_sub hl [0, 1, 2, 3] rfl) (Nat.le_of_ble_eq_true rfl) (Nat.le_of_ble_eq_true rfl)
set_option maxRecDepth 100000 in
set_option maxHeartbeats 4000000 in
/-- plan -/
theorem law_7 {p : Program} {e : Env} {s : State} {m : MethodId} {below : List Frame} {meth : Method} {c : Code} {l : Launch} {g : GG} {b : Nat} {xs : Nat → Int32} (C0 : lw_At p s m meth c b 6 xs) (hKn : Kn g s) {H : Heap} {locs : List Loc} {ls : Array Slot} {qx qm : Nat} {u v : Nat → Nat} (hP : va_P g.1 vwCl (WX g qx u ++ WM g qm v) H) (hD : va_D (lA s) (WX g qx u ++ WM g qm v)) (hS : va_S (lA s) s.heap H locs) (hl : lv_has ls 4 [(3, .int 0), (2, .ref qm), (1, .ref qx), (0, .ref b)]) : W p l e room_1 s m #[Value.ref b] below meth c H locs 122 12079 (lw_Z below #[Value.ref b] s) (F0 m 543 ls []) := by
  obtain ⟨hx, hb, hr, hml, hown, hts, hX, hbl, hlocks, hgv⟩ := id C0
  have hA : ∀ q : Nat, s.heap.size ≤ q → lA s q := fun _ h => h
  have hbA : ¬ lA s b := Nat.not_le.mpr hbl
  have hB : ∀ w ∈ BIG, w.before #[Value.ref b] s = true := fun w h => hts w (big_in w h)
  have FC : CallFix p m c cL_law 4 s #[Value.ref b] BIG RL := ⟨hx, hb, hml, hown, hB⟩
  have hP : va_P g.1 vwCl [(qx, .inr (11, [.ref (u 0), .ref (u 17), .ref (u 31), .ref (u 32), .ref (u 33), .ref (u 34), .ref (u 35), .ref (u 36), .ref (u 37), .ref (u 38), .ref (u 39)])), (u 17, .inr (0, [.int 0, .int 0, .int 0, .int 0, .int 0, .int 0, .int 0, .int 0, .int 0, .int 0, .ref (u 18), .ref (u 19), .ref (u 20), .ref (u 21), .ref (u 22), .ref (u 23), .ref (u 24), .ref (u 25), .ref (u 26), .ref (u 27)])), (qm, .inr (12, [.int 0, .ref (v 0), .ref (v 1), .ref (v 2), .ref (v 3), .int 0, .ref (v 4), .int 0, .int 0, .int 0, .int 0, .int 0, .int 0, .int (-1), .ref (v 5), .ref (v 6), .int 0, .int 0, .int 0, .ref (v 7), .ref (v 8), .int 0, .int 0, .ref (v 9), .ref (v 10), .ref (v 11), .ref (v 12), .ref (v 13), .ref (v 14)])), (v 0, .inl (g.2 0, 225, .inl (fun _ => 0)))] H := hP.sub [0, 18, 85, 86] rfl
  have hD : va_D (lA s) [(qx, .inr (11, [.ref (u 0), .ref (u 17), .ref (u 31), .ref (u 32), .ref (u 33), .ref (u 34), .ref (u 35), .ref (u 36), .ref (u 37), .ref (u 38), .ref (u 39)])), (u 17, .inr (0, [.int 0, .int 0, .int 0, .int 0, .int 0, .int 0, .int 0, .int 0, .int 0, .int 0, .ref (u 18), .ref (u 19), .ref (u 20), .ref (u 21), .ref (u 22), .ref (u 23), .ref (u 24), .ref (u 25), .ref (u 26), .ref (u 27)])), (qm, .inr (12, [.int 0, .ref (v 0), .ref (v 1), .ref (v 2), .ref (v 3), .int 0, .ref (v 4), .int 0, .int 0, .int 0, .int 0, .int 0, .int 0, .int (-1), .ref (v 5), .ref (v 6), .int 0, .int 0, .int 0, .ref (v 7), .ref (v 8), .int 0, .int 0, .ref (v 9), .ref (v 10), .ref (v 11), .ref (v 12), .ref (v 13), .ref (v 14)])), (v 0, .inl (g.2 0, 225, .inl (fun _ => 0)))] := hD.sub [0, 18, 85, 86] (by decide) rfl
  refine lv_aload_n hx hb dL_law_543 rfl (lv_at hl 2 rfl) ?_
  refine lv_aload_n hx hb dL_law_544 rfl (lv_at hl 3 rfl) ?_
  refine lv_iload_n hx hb dL_law_545 rfl (lv_at hl 0 rfl) ?_
  refine lv_iconst (v := 1) hx hb dL_law_546 (by decide) ?_
  refine lv_iadd hx hb dL_law_547 ?_
  refine tp_i (v := 1) (by decide) ?_
  refine va_sld hx hb hX hbl hbA hS (by unfold vp_in; decide) dL_law_548 ?_
  refine tp_i (v := xs 1) rfl ?_
  refine lv_aload_n hx hb dL_law_549 rfl (lv_at hl 3 rfl) ?_
  refine lv_iload_n hx hb dL_law_550 rfl (lv_at hl 0 rfl) ?_
  refine lv_iconst (v := 2) hx hb dL_law_551 (by decide) ?_
  refine lv_iadd hx hb dL_law_552 ?_
  refine tp_i (v := 2) (by decide) ?_
  refine va_sld hx hb hX hbl hbA hS (by unfold vp_in; decide) dL_law_553 ?_
  refine tp_i (v := xs 2) rfl ?_
  refine call_V (As := [.int (xs 1), .int (xs 2)]) (rest := []) (wr := [(qm, .inr (12, [.int 0, .ref (v 0), .ref (v 1), .ref (v 2), .ref (v 3), .int 0, .ref (v 4), .int 0, .int 0, .int 0, .int 0, .int 0, .int 0, .int (-1), .ref (v 5), .ref (v 6), .int 0, .int 0, .int 0, .ref (v 7), .ref (v 8), .int 0, .int 0, .ref (v 9), .ref (v 10), .ref (v 11), .ref (v 12), .ref (v 13), .ref (v 14)])), (v 0, .inl (g.2 0, 225, .inl (fun _ => 0)))]) FC hKn (c_X11_plan l g qx (u 17) (u 0) (u 31) (u 32) (u 33) (u 34) (u 35) (u 36) (u 37) (u 38) (u 39) (u 18) (u 19) (u 20) (u 21) (u 22) (u 23) (u 24) (u 25) (u 26) (u 27) (xs 1) (xs 2)) m_yX11_plan b_498 (ci := 11) rfl rfl rfl hP hD hS hA [0, 1] [2, 3] rfl (by decide) rfl (by decide) (by decide) rfl hl.1 rfl (Nat.le_of_ble_eq_true rfl) dL_law_554 ⟨(Nat.le_of_ble_eq_true rfl), (Nat.le_of_ble_eq_true rfl)⟩ ⟨(Nat.le_of_ble_eq_true rfl), (Nat.le_of_ble_eq_true rfl)⟩ (fun u1 H locs _ hP hD hS => ?_)
  have hP : va_P g.1 vwCl [(qm, .inr (12, [.int 0, .ref (v 0), .ref (v 1), .ref (v 2), .ref (v 3), .int 0, .ref (v 4), .int 0, .int 0, .int 0, .int 0, .int 0, .int 0, .int (-1), .ref (v 5), .ref (v 6), .int 0, .int 0, .int 0, .ref (v 7), .ref (v 8), .int 0, .int 0, .ref (v 9), .ref (v 10), .ref (v 11), .ref (v 12), .ref (v 13), .ref (v 14)])), (v 0, .inl (g.2 0, 225, .inl (fun _ => 0))), (qx, .inr (11, [.ref (u 0), .ref (u 17), .ref (u 31), .ref (u 32), .ref (u 33), .ref (u 34), .ref (u 35), .ref (u 36), .ref (u 37), .ref (u 38), .ref (u 39)])), (u 17, .inr (0, [.int 0, .int 0, .int 0, .int 0, .int 0, .int 0, .int 0, .int 0, .int 0, .int 0, .ref (u 18), .ref (u 19), .ref (u 20), .ref (u 21), .ref (u 22), .ref (u 23), .ref (u 24), .ref (u 25), .ref (u 26), .ref (u 27)]))] H := hP
  have hD : va_D (lA s) [(qm, .inr (12, [.int 0, .ref (v 0), .ref (v 1), .ref (v 2), .ref (v 3), .int 0, .ref (v 4), .int 0, .int 0, .int 0, .int 0, .int 0, .int 0, .int (-1), .ref (v 5), .ref (v 6), .int 0, .int 0, .int 0, .ref (v 7), .ref (v 8), .int 0, .int 0, .ref (v 9), .ref (v 10), .ref (v 11), .ref (v 12), .ref (v 13), .ref (v 14)])), (v 0, .inl (g.2 0, 225, .inl (fun _ => 0))), (qx, .inr (11, [.ref (u 0), .ref (u 17), .ref (u 31), .ref (u 32), .ref (u 33), .ref (u 34), .ref (u 35), .ref (u 36), .ref (u 37), .ref (u 38), .ref (u 39)])), (u 17, .inr (0, [.int 0, .int 0, .int 0, .int 0, .int 0, .int 0, .int 0, .int 0, .int 0, .int 0, .ref (u 18), .ref (u 19), .ref (u 20), .ref (u 21), .ref (u 22), .ref (u 23), .ref (u 24), .ref (u 25), .ref (u 26), .ref (u 27)]))] := hD
  refine W.eq (g2 := F0 m 557 ls [.int (-2)]) rfl ?_
  refine lv_aload_n hx hb dL_law_557 rfl (lv_at hl 1 rfl) ?_
  refine lv_aload_n hx hb dL_law_558 rfl (lv_at hl 3 rfl) ?_
  refine lv_iload_n hx hb dL_law_559 rfl (lv_at hl 0 rfl) ?_
  refine lv_iconst (v := 1) hx hb dL_law_560 (by decide) ?_
  refine lv_iadd hx hb dL_law_561 ?_
  refine tp_i (v := 1) (by decide) ?_
  refine va_sld hx hb hX hbl hbA hS (by unfold vp_in; decide) dL_law_562 ?_
  refine tp_i (v := xs 1) rfl ?_
  refine lv_aload_n hx hb dL_law_563 rfl (lv_at hl 3 rfl) ?_
  refine lv_iload_n hx hb dL_law_564 rfl (lv_at hl 0 rfl) ?_
  refine lv_iconst (v := 2) hx hb dL_law_565 (by decide) ?_
  refine lv_iadd hx hb dL_law_566 ?_
  refine tp_i (v := 2) (by decide) ?_
  refine va_sld hx hb hX hbl hbA hS (by unfold vp_in; decide) dL_law_567 ?_
  refine tp_i (v := xs 2) rfl ?_
  refine call_V (As := [.int (xs 1), .int (xs 2)]) (rest := [.int (-2)]) (wr := [(qx, .inr (11, [.ref (u 0), .ref (u 17), .ref (u 31), .ref (u 32), .ref (u 33), .ref (u 34), .ref (u 35), .ref (u 36), .ref (u 37), .ref (u 38), .ref (u 39)])), (u 17, .inr (0, [.int 0, .int 0, .int 0, .int 0, .int 0, .int 0, .int 0, .int 0, .int 0, .int 0, .ref (u 18), .ref (u 19), .ref (u 20), .ref (u 21), .ref (u 22), .ref (u 23), .ref (u 24), .ref (u 25), .ref (u 26), .ref (u 27)]))]) FC hKn (c_X12_plan l g qm (v 0) (v 1) (v 2) (v 3) (v 4) (v 5) (v 6) (v 7) (v 8) (v 9) (v 10) (v 11) (v 12) (v 13) (v 14) (xs 1) (xs 2)) m_yX12_plan b_499 (ci := 12) rfl rfl rfl hP hD hS hA [0, 1] [2, 3] rfl (by decide) rfl (by decide) (by decide) rfl hl.1 rfl (Nat.le_of_ble_eq_true rfl) dL_law_568 ⟨(Nat.le_of_ble_eq_true rfl), (Nat.le_of_ble_eq_true rfl)⟩ ⟨(Nat.le_of_ble_eq_true rfl), (Nat.le_of_ble_eq_true rfl)⟩ (fun u2 H locs _ hP hD hS => ?_)
  have hP : va_P g.1 vwCl [(qx, .inr (11, [.ref (u 0), .ref (u 17), .ref (u 31), .ref (u 32), .ref (u 33), .ref (u 34), .ref (u 35), .ref (u 36), .ref (u 37), .ref (u 38), .ref (u 39)])), (u 17, .inr (0, [.int 0, .int 0, .int 0, .int 0, .int 0, .int 0, .int 0, .int 0, .int 0, .int 0, .ref (u 18), .ref (u 19), .ref (u 20), .ref (u 21), .ref (u 22), .ref (u 23), .ref (u 24), .ref (u 25), .ref (u 26), .ref (u 27)])), (qm, .inr (12, [.int 0, .ref (v 0), .ref (v 1), .ref (v 2), .ref (v 3), .int 0, .ref (v 4), .int 0, .int 0, .int 0, .int 0, .int 0, .int 0, .int (-1), .ref (v 5), .ref (v 6), .int 0, .int 0, .int 0, .ref (v 7), .ref (v 8), .int 0, .int 0, .ref (v 9), .ref (v 10), .ref (v 11), .ref (v 12), .ref (v 13), .ref (v 14)])), (v 0, .inl (g.2 0, 225, .inl (fun _ => 0)))] H := hP
  have hD : va_D (lA s) [(qx, .inr (11, [.ref (u 0), .ref (u 17), .ref (u 31), .ref (u 32), .ref (u 33), .ref (u 34), .ref (u 35), .ref (u 36), .ref (u 37), .ref (u 38), .ref (u 39)])), (u 17, .inr (0, [.int 0, .int 0, .int 0, .int 0, .int 0, .int 0, .int 0, .int 0, .int 0, .int 0, .ref (u 18), .ref (u 19), .ref (u 20), .ref (u 21), .ref (u 22), .ref (u 23), .ref (u 24), .ref (u 25), .ref (u 26), .ref (u 27)])), (qm, .inr (12, [.int 0, .ref (v 0), .ref (v 1), .ref (v 2), .ref (v 3), .int 0, .ref (v 4), .int 0, .int 0, .int 0, .int 0, .int 0, .int 0, .int (-1), .ref (v 5), .ref (v 6), .int 0, .int 0, .int 0, .ref (v 7), .ref (v 8), .int 0, .int 0, .ref (v 9), .ref (v 10), .ref (v 11), .ref (v 12), .ref (v 13), .ref (v 14)])), (v 0, .inl (g.2 0, 225, .inl (fun _ => 0)))] := hD
  refine W.eq (g2 := F0 m 571 ls [.int (-2), .int (-2)]) rfl ?_
  refine lv_icmp_eq (tgt := 2465) hx hb dL_law_571 (by decide) (fun _ => ?_) (fun h => absurd rfl h)
  exact law_end C0 hS (lv_sub hl [0, 1, 2, 3] rfl) (Nat.le_of_ble_eq_true rfl) (Nat.le_of_ble_eq_true rfl)
set_option maxRecDepth 100000 in
set_option maxHeartbeats 4000000 in
/-- news -/
theorem law_8 {p : Program} {e : Env} {s : State} {m : MethodId} {below : List Frame} {meth : Method} {c : Code} {l : Launch} {g : GG} {b : Nat} {xs : Nat → Int32} (C0 : lw_At p s m meth c b 6 xs) (hKn : Kn g s) {H : Heap} {locs : List Loc} {ls : Array Slot} {qx qm : Nat} {u v : Nat → Nat} (hP : va_P g.1 vwCl (WX g qx u ++ WM g qm v) H) (hD : va_D (lA s) (WX g qx u ++ WM g qm v)) (hS : va_S (lA s) s.heap H locs) (hl : lv_has ls 4 [(3, .int 0), (2, .ref qm), (1, .ref qx), (0, .ref b)]) : W p l e room_1 s m #[Value.ref b] below meth c H locs 122 12079 (lw_Z below #[Value.ref b] s) (F0 m 576 ls []) := by
  obtain ⟨hx, hb, hr, hml, hown, hts, hX, hbl, hlocks, hgv⟩ := id C0
  have hA : ∀ q : Nat, s.heap.size ≤ q → lA s q := fun _ h => h
  have hbA : ¬ lA s b := Nat.not_le.mpr hbl
  have hB : ∀ w ∈ BIG, w.before #[Value.ref b] s = true := fun w h => hts w (big_in w h)
  have FC : CallFix p m c cL_law 4 s #[Value.ref b] BIG RL := ⟨hx, hb, hml, hown, hB⟩
  have hP : va_P g.1 vwCl [(qx, .inr (11, [.ref (u 0), .ref (u 17), .ref (u 31), .ref (u 32), .ref (u 33), .ref (u 34), .ref (u 35), .ref (u 36), .ref (u 37), .ref (u 38), .ref (u 39)])), (u 17, .inr (0, [.int 0, .int 0, .int 0, .int 0, .int 0, .int 0, .int 0, .int 0, .int 0, .int 0, .ref (u 18), .ref (u 19), .ref (u 20), .ref (u 21), .ref (u 22), .ref (u 23), .ref (u 24), .ref (u 25), .ref (u 26), .ref (u 27)])), (qm, .inr (12, [.int 0, .ref (v 0), .ref (v 1), .ref (v 2), .ref (v 3), .int 0, .ref (v 4), .int 0, .int 0, .int 0, .int 0, .int 0, .int 0, .int (-1), .ref (v 5), .ref (v 6), .int 0, .int 0, .int 0, .ref (v 7), .ref (v 8), .int 0, .int 0, .ref (v 9), .ref (v 10), .ref (v 11), .ref (v 12), .ref (v 13), .ref (v 14)])), (v 0, .inl (g.2 0, 225, .inl (fun _ => 0)))] H := hP.sub [0, 18, 85, 86] rfl
  have hD : va_D (lA s) [(qx, .inr (11, [.ref (u 0), .ref (u 17), .ref (u 31), .ref (u 32), .ref (u 33), .ref (u 34), .ref (u 35), .ref (u 36), .ref (u 37), .ref (u 38), .ref (u 39)])), (u 17, .inr (0, [.int 0, .int 0, .int 0, .int 0, .int 0, .int 0, .int 0, .int 0, .int 0, .int 0, .ref (u 18), .ref (u 19), .ref (u 20), .ref (u 21), .ref (u 22), .ref (u 23), .ref (u 24), .ref (u 25), .ref (u 26), .ref (u 27)])), (qm, .inr (12, [.int 0, .ref (v 0), .ref (v 1), .ref (v 2), .ref (v 3), .int 0, .ref (v 4), .int 0, .int 0, .int 0, .int 0, .int 0, .int 0, .int (-1), .ref (v 5), .ref (v 6), .int 0, .int 0, .int 0, .ref (v 7), .ref (v 8), .int 0, .int 0, .ref (v 9), .ref (v 10), .ref (v 11), .ref (v 12), .ref (v 13), .ref (v 14)])), (v 0, .inl (g.2 0, 225, .inl (fun _ => 0)))] := hD.sub [0, 18, 85, 86] (by decide) rfl
  refine lv_aload_n hx hb dL_law_576 rfl (lv_at hl 2 rfl) ?_
  refine lv_aload_n hx hb dL_law_577 rfl (lv_at hl 3 rfl) ?_
  refine lv_iload_n hx hb dL_law_578 rfl (lv_at hl 0 rfl) ?_
  refine lv_iconst (v := 1) hx hb dL_law_579 (by decide) ?_
  refine lv_iadd hx hb dL_law_580 ?_
  refine tp_i (v := 1) (by decide) ?_
  refine va_sld hx hb hX hbl hbA hS (by unfold vp_in; decide) dL_law_581 ?_
  refine tp_i (v := xs 1) rfl ?_
  refine call_V (As := [.int (xs 1)]) (rest := []) (wr := [(qm, .inr (12, [.int 0, .ref (v 0), .ref (v 1), .ref (v 2), .ref (v 3), .int 0, .ref (v 4), .int 0, .int 0, .int 0, .int 0, .int 0, .int 0, .int (-1), .ref (v 5), .ref (v 6), .int 0, .int 0, .int 0, .ref (v 7), .ref (v 8), .int 0, .int 0, .ref (v 9), .ref (v 10), .ref (v 11), .ref (v 12), .ref (v 13), .ref (v 14)])), (v 0, .inl (g.2 0, 225, .inl (fun _ => 0)))]) FC hKn (c_X11_news l g qx (u 17) (u 0) (u 31) (u 32) (u 33) (u 34) (u 35) (u 36) (u 37) (u 38) (u 39) (u 18) (u 19) (u 20) (u 21) (u 22) (u 23) (u 24) (u 25) (u 26) (u 27) (xs 1)) m_yX11_news b_500 (ci := 11) rfl rfl rfl hP hD hS hA [0, 1] [2, 3] rfl (by decide) rfl (by decide) (by decide) rfl hl.1 rfl (Nat.le_of_ble_eq_true rfl) dL_law_582 ⟨(Nat.le_of_ble_eq_true rfl), (Nat.le_of_ble_eq_true rfl)⟩ ⟨(Nat.le_of_ble_eq_true rfl), (Nat.le_of_ble_eq_true rfl)⟩ (fun u1 H locs _ hP hD hS => ?_)
  have hP : va_P g.1 vwCl [(qm, .inr (12, [.int 0, .ref (v 0), .ref (v 1), .ref (v 2), .ref (v 3), .int 0, .ref (v 4), .int 0, .int 0, .int 0, .int 0, .int 0, .int 0, .int (-1), .ref (v 5), .ref (v 6), .int 0, .int 0, .int 0, .ref (v 7), .ref (v 8), .int 0, .int 0, .ref (v 9), .ref (v 10), .ref (v 11), .ref (v 12), .ref (v 13), .ref (v 14)])), (v 0, .inl (g.2 0, 225, .inl (fun _ => 0))), (qx, .inr (11, [.ref (u 0), .ref (u 17), .ref (u 31), .ref (u 32), .ref (u 33), .ref (u 34), .ref (u 35), .ref (u 36), .ref (u 37), .ref (u 38), .ref (u 39)])), (u 17, .inr (0, [.int 0, .int 0, .int 0, .int 0, .int 0, .int 0, .int 0, .int 0, .int 0, .int 0, .ref (u 18), .ref (u 19), .ref (u 20), .ref (u 21), .ref (u 22), .ref (u 23), .ref (u 24), .ref (u 25), .ref (u 26), .ref (u 27)]))] H := hP
  have hD : va_D (lA s) [(qm, .inr (12, [.int 0, .ref (v 0), .ref (v 1), .ref (v 2), .ref (v 3), .int 0, .ref (v 4), .int 0, .int 0, .int 0, .int 0, .int 0, .int 0, .int (-1), .ref (v 5), .ref (v 6), .int 0, .int 0, .int 0, .ref (v 7), .ref (v 8), .int 0, .int 0, .ref (v 9), .ref (v 10), .ref (v 11), .ref (v 12), .ref (v 13), .ref (v 14)])), (v 0, .inl (g.2 0, 225, .inl (fun _ => 0))), (qx, .inr (11, [.ref (u 0), .ref (u 17), .ref (u 31), .ref (u 32), .ref (u 33), .ref (u 34), .ref (u 35), .ref (u 36), .ref (u 37), .ref (u 38), .ref (u 39)])), (u 17, .inr (0, [.int 0, .int 0, .int 0, .int 0, .int 0, .int 0, .int 0, .int 0, .int 0, .int 0, .ref (u 18), .ref (u 19), .ref (u 20), .ref (u 21), .ref (u 22), .ref (u 23), .ref (u 24), .ref (u 25), .ref (u 26), .ref (u 27)]))] := hD
  refine W.eq (g2 := F0 m 585 ls [.int (-1000)]) rfl ?_
  refine lv_aload_n hx hb dL_law_585 rfl (lv_at hl 1 rfl) ?_
  refine lv_aload_n hx hb dL_law_586 rfl (lv_at hl 3 rfl) ?_
  refine lv_iload_n hx hb dL_law_587 rfl (lv_at hl 0 rfl) ?_
  refine lv_iconst (v := 1) hx hb dL_law_588 (by decide) ?_
  refine lv_iadd hx hb dL_law_589 ?_
  refine tp_i (v := 1) (by decide) ?_
  refine va_sld hx hb hX hbl hbA hS (by unfold vp_in; decide) dL_law_590 ?_
  refine tp_i (v := xs 1) rfl ?_
  refine call_V (As := [.int (xs 1)]) (rest := [.int (-1000)]) (wr := [(qx, .inr (11, [.ref (u 0), .ref (u 17), .ref (u 31), .ref (u 32), .ref (u 33), .ref (u 34), .ref (u 35), .ref (u 36), .ref (u 37), .ref (u 38), .ref (u 39)])), (u 17, .inr (0, [.int 0, .int 0, .int 0, .int 0, .int 0, .int 0, .int 0, .int 0, .int 0, .int 0, .ref (u 18), .ref (u 19), .ref (u 20), .ref (u 21), .ref (u 22), .ref (u 23), .ref (u 24), .ref (u 25), .ref (u 26), .ref (u 27)]))]) FC hKn (c_X12_news l g qm (v 0) (v 1) (v 2) (v 3) (v 4) (v 5) (v 6) (v 7) (v 8) (v 9) (v 10) (v 11) (v 12) (v 13) (v 14) (xs 1)) m_yX12_news b_501 (ci := 12) rfl rfl rfl hP hD hS hA [0, 1] [2, 3] rfl (by decide) rfl (by decide) (by decide) rfl hl.1 rfl (Nat.le_of_ble_eq_true rfl) dL_law_591 ⟨(Nat.le_of_ble_eq_true rfl), (Nat.le_of_ble_eq_true rfl)⟩ ⟨(Nat.le_of_ble_eq_true rfl), (Nat.le_of_ble_eq_true rfl)⟩ (fun u2 H locs _ hP hD hS => ?_)
  have hP : va_P g.1 vwCl [(qx, .inr (11, [.ref (u 0), .ref (u 17), .ref (u 31), .ref (u 32), .ref (u 33), .ref (u 34), .ref (u 35), .ref (u 36), .ref (u 37), .ref (u 38), .ref (u 39)])), (u 17, .inr (0, [.int 0, .int 0, .int 0, .int 0, .int 0, .int 0, .int 0, .int 0, .int 0, .int 0, .ref (u 18), .ref (u 19), .ref (u 20), .ref (u 21), .ref (u 22), .ref (u 23), .ref (u 24), .ref (u 25), .ref (u 26), .ref (u 27)])), (qm, .inr (12, [.int 0, .ref (v 0), .ref (v 1), .ref (v 2), .ref (v 3), .int 0, .ref (v 4), .int 0, .int 0, .int 0, .int 0, .int 0, .int 0, .int (-1), .ref (v 5), .ref (v 6), .int 0, .int 0, .int 0, .ref (v 7), .ref (v 8), .int 0, .int 0, .ref (v 9), .ref (v 10), .ref (v 11), .ref (v 12), .ref (v 13), .ref (v 14)])), (v 0, .inl (g.2 0, 225, .inl (fun _ => 0)))] H := hP
  have hD : va_D (lA s) [(qx, .inr (11, [.ref (u 0), .ref (u 17), .ref (u 31), .ref (u 32), .ref (u 33), .ref (u 34), .ref (u 35), .ref (u 36), .ref (u 37), .ref (u 38), .ref (u 39)])), (u 17, .inr (0, [.int 0, .int 0, .int 0, .int 0, .int 0, .int 0, .int 0, .int 0, .int 0, .int 0, .ref (u 18), .ref (u 19), .ref (u 20), .ref (u 21), .ref (u 22), .ref (u 23), .ref (u 24), .ref (u 25), .ref (u 26), .ref (u 27)])), (qm, .inr (12, [.int 0, .ref (v 0), .ref (v 1), .ref (v 2), .ref (v 3), .int 0, .ref (v 4), .int 0, .int 0, .int 0, .int 0, .int 0, .int 0, .int (-1), .ref (v 5), .ref (v 6), .int 0, .int 0, .int 0, .ref (v 7), .ref (v 8), .int 0, .int 0, .ref (v 9), .ref (v 10), .ref (v 11), .ref (v 12), .ref (v 13), .ref (v 14)])), (v 0, .inl (g.2 0, 225, .inl (fun _ => 0)))] := hD
  refine W.eq (g2 := F0 m 594 ls [.int (-1000), .int (-1000)]) rfl ?_
  refine lv_icmp_eq (tgt := 2465) hx hb dL_law_594 (by decide) (fun _ => ?_) (fun h => absurd rfl h)
  exact law_end C0 hS (lv_sub hl [0, 1, 2, 3] rfl) (Nat.le_of_ble_eq_true rfl) (Nat.le_of_ble_eq_true rfl)
set_option maxRecDepth 100000 in
set_option maxHeartbeats 4000000 in
/-- tells -/
theorem law_9 {p : Program} {e : Env} {s : State} {m : MethodId} {below : List Frame} {meth : Method} {c : Code} {l : Launch} {g : GG} {b : Nat} {xs : Nat → Int32} (C0 : lw_At p s m meth c b 6 xs) (hKn : Kn g s) {H : Heap} {locs : List Loc} {ls : Array Slot} {qx qm : Nat} {u v : Nat → Nat} (hP : va_P g.1 vwCl (WX g qx u ++ WM g qm v) H) (hD : va_D (lA s) (WX g qx u ++ WM g qm v)) (hS : va_S (lA s) s.heap H locs) (hl : lv_has ls 4 [(3, .int 0), (2, .ref qm), (1, .ref qx), (0, .ref b)]) : W p l e room_1 s m #[Value.ref b] below meth c H locs 122 12079 (lw_Z below #[Value.ref b] s) (F0 m 599 ls []) := by
  obtain ⟨hx, hb, hr, hml, hown, hts, hX, hbl, hlocks, hgv⟩ := id C0
  have hA : ∀ q : Nat, s.heap.size ≤ q → lA s q := fun _ h => h
  have hbA : ¬ lA s b := Nat.not_le.mpr hbl
  have hB : ∀ w ∈ BIG, w.before #[Value.ref b] s = true := fun w h => hts w (big_in w h)
  have FC : CallFix p m c cL_law 4 s #[Value.ref b] BIG RL := ⟨hx, hb, hml, hown, hB⟩
  have hP : va_P g.1 vwCl [(qx, .inr (11, [.ref (u 0), .ref (u 17), .ref (u 31), .ref (u 32), .ref (u 33), .ref (u 34), .ref (u 35), .ref (u 36), .ref (u 37), .ref (u 38), .ref (u 39)])), (u 17, .inr (0, [.int 0, .int 0, .int 0, .int 0, .int 0, .int 0, .int 0, .int 0, .int 0, .int 0, .ref (u 18), .ref (u 19), .ref (u 20), .ref (u 21), .ref (u 22), .ref (u 23), .ref (u 24), .ref (u 25), .ref (u 26), .ref (u 27)])), (qm, .inr (12, [.int 0, .ref (v 0), .ref (v 1), .ref (v 2), .ref (v 3), .int 0, .ref (v 4), .int 0, .int 0, .int 0, .int 0, .int 0, .int 0, .int (-1), .ref (v 5), .ref (v 6), .int 0, .int 0, .int 0, .ref (v 7), .ref (v 8), .int 0, .int 0, .ref (v 9), .ref (v 10), .ref (v 11), .ref (v 12), .ref (v 13), .ref (v 14)])), (v 0, .inl (g.2 0, 225, .inl (fun _ => 0)))] H := hP.sub [0, 18, 85, 86] rfl
  have hD : va_D (lA s) [(qx, .inr (11, [.ref (u 0), .ref (u 17), .ref (u 31), .ref (u 32), .ref (u 33), .ref (u 34), .ref (u 35), .ref (u 36), .ref (u 37), .ref (u 38), .ref (u 39)])), (u 17, .inr (0, [.int 0, .int 0, .int 0, .int 0, .int 0, .int 0, .int 0, .int 0, .int 0, .int 0, .ref (u 18), .ref (u 19), .ref (u 20), .ref (u 21), .ref (u 22), .ref (u 23), .ref (u 24), .ref (u 25), .ref (u 26), .ref (u 27)])), (qm, .inr (12, [.int 0, .ref (v 0), .ref (v 1), .ref (v 2), .ref (v 3), .int 0, .ref (v 4), .int 0, .int 0, .int 0, .int 0, .int 0, .int 0, .int (-1), .ref (v 5), .ref (v 6), .int 0, .int 0, .int 0, .ref (v 7), .ref (v 8), .int 0, .int 0, .ref (v 9), .ref (v 10), .ref (v 11), .ref (v 12), .ref (v 13), .ref (v 14)])), (v 0, .inl (g.2 0, 225, .inl (fun _ => 0)))] := hD.sub [0, 18, 85, 86] (by decide) rfl
  refine lv_aload_n hx hb dL_law_599 rfl (lv_at hl 2 rfl) ?_
  refine lv_aload_n hx hb dL_law_600 rfl (lv_at hl 3 rfl) ?_
  refine lv_iload_n hx hb dL_law_601 rfl (lv_at hl 0 rfl) ?_
  refine lv_iconst (v := 1) hx hb dL_law_602 (by decide) ?_
  refine lv_iadd hx hb dL_law_603 ?_
  refine tp_i (v := 1) (by decide) ?_
  refine va_sld hx hb hX hbl hbA hS (by unfold vp_in; decide) dL_law_604 ?_
  refine tp_i (v := xs 1) rfl ?_
  refine call_V (As := [.int (xs 1)]) (rest := []) (wr := [(qm, .inr (12, [.int 0, .ref (v 0), .ref (v 1), .ref (v 2), .ref (v 3), .int 0, .ref (v 4), .int 0, .int 0, .int 0, .int 0, .int 0, .int 0, .int (-1), .ref (v 5), .ref (v 6), .int 0, .int 0, .int 0, .ref (v 7), .ref (v 8), .int 0, .int 0, .ref (v 9), .ref (v 10), .ref (v 11), .ref (v 12), .ref (v 13), .ref (v 14)])), (v 0, .inl (g.2 0, 225, .inl (fun _ => 0)))]) FC hKn (c_X11_tells l g qx (u 17) (u 0) (u 31) (u 32) (u 33) (u 34) (u 35) (u 36) (u 37) (u 38) (u 39) (u 18) (u 19) (u 20) (u 21) (u 22) (u 23) (u 24) (u 25) (u 26) (u 27) (xs 1)) m_yX11_tells b_502 (ci := 11) rfl rfl rfl hP hD hS hA [0, 1] [2, 3] rfl (by decide) rfl (by decide) (by decide) rfl hl.1 rfl (Nat.le_of_ble_eq_true rfl) dL_law_605 ⟨(Nat.le_of_ble_eq_true rfl), (Nat.le_of_ble_eq_true rfl)⟩ ⟨(Nat.le_of_ble_eq_true rfl), (Nat.le_of_ble_eq_true rfl)⟩ (fun u1 H locs _ hP hD hS => ?_)
  have hP : va_P g.1 vwCl [(qm, .inr (12, [.int 0, .ref (v 0), .ref (v 1), .ref (v 2), .ref (v 3), .int 0, .ref (v 4), .int 0, .int 0, .int 0, .int 0, .int 0, .int 0, .int (-1), .ref (v 5), .ref (v 6), .int 0, .int 0, .int 0, .ref (v 7), .ref (v 8), .int 0, .int 0, .ref (v 9), .ref (v 10), .ref (v 11), .ref (v 12), .ref (v 13), .ref (v 14)])), (v 0, .inl (g.2 0, 225, .inl (fun _ => 0))), (qx, .inr (11, [.ref (u 0), .ref (u 17), .ref (u 31), .ref (u 32), .ref (u 33), .ref (u 34), .ref (u 35), .ref (u 36), .ref (u 37), .ref (u 38), .ref (u 39)])), (u 17, .inr (0, [.int 0, .int 0, .int 0, .int 0, .int 0, .int 0, .int 0, .int 0, .int 0, .int 0, .ref (u 18), .ref (u 19), .ref (u 20), .ref (u 21), .ref (u 22), .ref (u 23), .ref (u 24), .ref (u 25), .ref (u 26), .ref (u 27)]))] H := hP
  have hD : va_D (lA s) [(qm, .inr (12, [.int 0, .ref (v 0), .ref (v 1), .ref (v 2), .ref (v 3), .int 0, .ref (v 4), .int 0, .int 0, .int 0, .int 0, .int 0, .int 0, .int (-1), .ref (v 5), .ref (v 6), .int 0, .int 0, .int 0, .ref (v 7), .ref (v 8), .int 0, .int 0, .ref (v 9), .ref (v 10), .ref (v 11), .ref (v 12), .ref (v 13), .ref (v 14)])), (v 0, .inl (g.2 0, 225, .inl (fun _ => 0))), (qx, .inr (11, [.ref (u 0), .ref (u 17), .ref (u 31), .ref (u 32), .ref (u 33), .ref (u 34), .ref (u 35), .ref (u 36), .ref (u 37), .ref (u 38), .ref (u 39)])), (u 17, .inr (0, [.int 0, .int 0, .int 0, .int 0, .int 0, .int 0, .int 0, .int 0, .int 0, .int 0, .ref (u 18), .ref (u 19), .ref (u 20), .ref (u 21), .ref (u 22), .ref (u 23), .ref (u 24), .ref (u 25), .ref (u 26), .ref (u 27)]))] := hD
  refine W.eq (g2 := F0 m 608 ls [.int (-2)]) rfl ?_
  refine lv_aload_n hx hb dL_law_608 rfl (lv_at hl 1 rfl) ?_
  refine lv_aload_n hx hb dL_law_609 rfl (lv_at hl 3 rfl) ?_
  refine lv_iload_n hx hb dL_law_610 rfl (lv_at hl 0 rfl) ?_
  refine lv_iconst (v := 1) hx hb dL_law_611 (by decide) ?_
  refine lv_iadd hx hb dL_law_612 ?_
  refine tp_i (v := 1) (by decide) ?_
  refine va_sld hx hb hX hbl hbA hS (by unfold vp_in; decide) dL_law_613 ?_
  refine tp_i (v := xs 1) rfl ?_
  refine call_V (As := [.int (xs 1)]) (rest := [.int (-2)]) (wr := [(qx, .inr (11, [.ref (u 0), .ref (u 17), .ref (u 31), .ref (u 32), .ref (u 33), .ref (u 34), .ref (u 35), .ref (u 36), .ref (u 37), .ref (u 38), .ref (u 39)])), (u 17, .inr (0, [.int 0, .int 0, .int 0, .int 0, .int 0, .int 0, .int 0, .int 0, .int 0, .int 0, .ref (u 18), .ref (u 19), .ref (u 20), .ref (u 21), .ref (u 22), .ref (u 23), .ref (u 24), .ref (u 25), .ref (u 26), .ref (u 27)]))]) FC hKn (c_X12_tells l g qm (v 0) (v 1) (v 2) (v 3) (v 4) (v 5) (v 6) (v 7) (v 8) (v 9) (v 10) (v 11) (v 12) (v 13) (v 14) (xs 1)) m_yX12_tells b_503 (ci := 12) rfl rfl rfl hP hD hS hA [0, 1] [2, 3] rfl (by decide) rfl (by decide) (by decide) rfl hl.1 rfl (Nat.le_of_ble_eq_true rfl) dL_law_614 ⟨(Nat.le_of_ble_eq_true rfl), (Nat.le_of_ble_eq_true rfl)⟩ ⟨(Nat.le_of_ble_eq_true rfl), (Nat.le_of_ble_eq_true rfl)⟩ (fun u2 H locs _ hP hD hS => ?_)
  have hP : va_P g.1 vwCl [(qx, .inr (11, [.ref (u 0), .ref (u 17), .ref (u 31), .ref (u 32), .ref (u 33), .ref (u 34), .ref (u 35), .ref (u 36), .ref (u 37), .ref (u 38), .ref (u 39)])), (u 17, .inr (0, [.int 0, .int 0, .int 0, .int 0, .int 0, .int 0, .int 0, .int 0, .int 0, .int 0, .ref (u 18), .ref (u 19), .ref (u 20), .ref (u 21), .ref (u 22), .ref (u 23), .ref (u 24), .ref (u 25), .ref (u 26), .ref (u 27)])), (qm, .inr (12, [.int 0, .ref (v 0), .ref (v 1), .ref (v 2), .ref (v 3), .int 0, .ref (v 4), .int 0, .int 0, .int 0, .int 0, .int 0, .int 0, .int (-1), .ref (v 5), .ref (v 6), .int 0, .int 0, .int 0, .ref (v 7), .ref (v 8), .int 0, .int 0, .ref (v 9), .ref (v 10), .ref (v 11), .ref (v 12), .ref (v 13), .ref (v 14)])), (v 0, .inl (g.2 0, 225, .inl (fun _ => 0)))] H := hP
  have hD : va_D (lA s) [(qx, .inr (11, [.ref (u 0), .ref (u 17), .ref (u 31), .ref (u 32), .ref (u 33), .ref (u 34), .ref (u 35), .ref (u 36), .ref (u 37), .ref (u 38), .ref (u 39)])), (u 17, .inr (0, [.int 0, .int 0, .int 0, .int 0, .int 0, .int 0, .int 0, .int 0, .int 0, .int 0, .ref (u 18), .ref (u 19), .ref (u 20), .ref (u 21), .ref (u 22), .ref (u 23), .ref (u 24), .ref (u 25), .ref (u 26), .ref (u 27)])), (qm, .inr (12, [.int 0, .ref (v 0), .ref (v 1), .ref (v 2), .ref (v 3), .int 0, .ref (v 4), .int 0, .int 0, .int 0, .int 0, .int 0, .int 0, .int (-1), .ref (v 5), .ref (v 6), .int 0, .int 0, .int 0, .ref (v 7), .ref (v 8), .int 0, .int 0, .ref (v 9), .ref (v 10), .ref (v 11), .ref (v 12), .ref (v 13), .ref (v 14)])), (v 0, .inl (g.2 0, 225, .inl (fun _ => 0)))] := hD
  refine W.eq (g2 := F0 m 617 ls [.int (-2), .int (-2)]) rfl ?_
  refine lv_icmp_eq (tgt := 2465) hx hb dL_law_617 (by decide) (fun _ => ?_) (fun h => absurd rfl h)
  exact law_end C0 hS (lv_sub hl [0, 1, 2, 3] rfl) (Nat.le_of_ble_eq_true rfl) (Nat.le_of_ble_eq_true rfl)
set_option maxRecDepth 100000 in
set_option maxHeartbeats 4000000 in
/-- mean -/
theorem law_10 {p : Program} {e : Env} {s : State} {m : MethodId} {below : List Frame} {meth : Method} {c : Code} {l : Launch} {g : GG} {b : Nat} {xs : Nat → Int32} (C0 : lw_At p s m meth c b 6 xs) (hKn : Kn g s) {H : Heap} {locs : List Loc} {ls : Array Slot} {qx qm : Nat} {u v : Nat → Nat} (hP : va_P g.1 vwCl (WX g qx u ++ WM g qm v) H) (hD : va_D (lA s) (WX g qx u ++ WM g qm v)) (hS : va_S (lA s) s.heap H locs) (hl : lv_has ls 4 [(3, .int 0), (2, .ref qm), (1, .ref qx), (0, .ref b)]) : W p l e room_1 s m #[Value.ref b] below meth c H locs 122 12079 (lw_Z below #[Value.ref b] s) (F0 m 622 ls []) := by
  obtain ⟨hx, hb, hr, hml, hown, hts, hX, hbl, hlocks, hgv⟩ := id C0
  have hA : ∀ q : Nat, s.heap.size ≤ q → lA s q := fun _ h => h
  have hbA : ¬ lA s b := Nat.not_le.mpr hbl
  have hB : ∀ w ∈ BIG, w.before #[Value.ref b] s = true := fun w h => hts w (big_in w h)
  have FC : CallFix p m c cL_law 4 s #[Value.ref b] BIG RL := ⟨hx, hb, hml, hown, hB⟩
  have hP : va_P g.1 vwCl [(qx, .inr (11, [.ref (u 0), .ref (u 17), .ref (u 31), .ref (u 32), .ref (u 33), .ref (u 34), .ref (u 35), .ref (u 36), .ref (u 37), .ref (u 38), .ref (u 39)])), (u 17, .inr (0, [.int 0, .int 0, .int 0, .int 0, .int 0, .int 0, .int 0, .int 0, .int 0, .int 0, .ref (u 18), .ref (u 19), .ref (u 20), .ref (u 21), .ref (u 22), .ref (u 23), .ref (u 24), .ref (u 25), .ref (u 26), .ref (u 27)])), (qm, .inr (12, [.int 0, .ref (v 0), .ref (v 1), .ref (v 2), .ref (v 3), .int 0, .ref (v 4), .int 0, .int 0, .int 0, .int 0, .int 0, .int 0, .int (-1), .ref (v 5), .ref (v 6), .int 0, .int 0, .int 0, .ref (v 7), .ref (v 8), .int 0, .int 0, .ref (v 9), .ref (v 10), .ref (v 11), .ref (v 12), .ref (v 13), .ref (v 14)])), (v 0, .inl (g.2 0, 225, .inl (fun _ => 0)))] H := hP.sub [0, 18, 85, 86] rfl
  have hD : va_D (lA s) [(qx, .inr (11, [.ref (u 0), .ref (u 17), .ref (u 31), .ref (u 32), .ref (u 33), .ref (u 34), .ref (u 35), .ref (u 36), .ref (u 37), .ref (u 38), .ref (u 39)])), (u 17, .inr (0, [.int 0, .int 0, .int 0, .int 0, .int 0, .int 0, .int 0, .int 0, .int 0, .int 0, .ref (u 18), .ref (u 19), .ref (u 20), .ref (u 21), .ref (u 22), .ref (u 23), .ref (u 24), .ref (u 25), .ref (u 26), .ref (u 27)])), (qm, .inr (12, [.int 0, .ref (v 0), .ref (v 1), .ref (v 2), .ref (v 3), .int 0, .ref (v 4), .int 0, .int 0, .int 0, .int 0, .int 0, .int 0, .int (-1), .ref (v 5), .ref (v 6), .int 0, .int 0, .int 0, .ref (v 7), .ref (v 8), .int 0, .int 0, .ref (v 9), .ref (v 10), .ref (v 11), .ref (v 12), .ref (v 13), .ref (v 14)])), (v 0, .inl (g.2 0, 225, .inl (fun _ => 0)))] := hD.sub [0, 18, 85, 86] (by decide) rfl
  refine lv_aload_n hx hb dL_law_622 rfl (lv_at hl 2 rfl) ?_
  refine lv_aload_n hx hb dL_law_623 rfl (lv_at hl 3 rfl) ?_
  refine lv_iload_n hx hb dL_law_624 rfl (lv_at hl 0 rfl) ?_
  refine lv_iconst (v := 1) hx hb dL_law_625 (by decide) ?_
  refine lv_iadd hx hb dL_law_626 ?_
  refine tp_i (v := 1) (by decide) ?_
  refine va_sld hx hb hX hbl hbA hS (by unfold vp_in; decide) dL_law_627 ?_
  refine tp_i (v := xs 1) rfl ?_
  refine lv_aload_n hx hb dL_law_628 rfl (lv_at hl 3 rfl) ?_
  refine lv_iload_n hx hb dL_law_629 rfl (lv_at hl 0 rfl) ?_
  refine lv_iconst (v := 2) hx hb dL_law_630 (by decide) ?_
  refine lv_iadd hx hb dL_law_631 ?_
  refine tp_i (v := 2) (by decide) ?_
  refine va_sld hx hb hX hbl hbA hS (by unfold vp_in; decide) dL_law_632 ?_
  refine tp_i (v := xs 2) rfl ?_
  refine call_V (As := [.int (xs 1), .int (xs 2)]) (rest := []) (wr := [(qm, .inr (12, [.int 0, .ref (v 0), .ref (v 1), .ref (v 2), .ref (v 3), .int 0, .ref (v 4), .int 0, .int 0, .int 0, .int 0, .int 0, .int 0, .int (-1), .ref (v 5), .ref (v 6), .int 0, .int 0, .int 0, .ref (v 7), .ref (v 8), .int 0, .int 0, .ref (v 9), .ref (v 10), .ref (v 11), .ref (v 12), .ref (v 13), .ref (v 14)])), (v 0, .inl (g.2 0, 225, .inl (fun _ => 0)))]) FC hKn (c_X11_mean l g qx (u 17) (u 0) (u 31) (u 32) (u 33) (u 34) (u 35) (u 36) (u 37) (u 38) (u 39) (u 18) (u 19) (u 20) (u 21) (u 22) (u 23) (u 24) (u 25) (u 26) (u 27) (xs 1) (xs 2)) m_yX11_mean b_504 (ci := 11) rfl rfl rfl hP hD hS hA [0, 1] [2, 3] rfl (by decide) rfl (by decide) (by decide) rfl hl.1 rfl (Nat.le_of_ble_eq_true rfl) dL_law_633 ⟨(Nat.le_of_ble_eq_true rfl), (Nat.le_of_ble_eq_true rfl)⟩ ⟨(Nat.le_of_ble_eq_true rfl), (Nat.le_of_ble_eq_true rfl)⟩ (fun u1 H locs _ hP hD hS => ?_)
  have hP : va_P g.1 vwCl [(qm, .inr (12, [.int 0, .ref (v 0), .ref (v 1), .ref (v 2), .ref (v 3), .int 0, .ref (v 4), .int 0, .int 0, .int 0, .int 0, .int 0, .int 0, .int (-1), .ref (v 5), .ref (v 6), .int 0, .int 0, .int 0, .ref (v 7), .ref (v 8), .int 0, .int 0, .ref (v 9), .ref (v 10), .ref (v 11), .ref (v 12), .ref (v 13), .ref (v 14)])), (v 0, .inl (g.2 0, 225, .inl (fun _ => 0))), (qx, .inr (11, [.ref (u 0), .ref (u 17), .ref (u 31), .ref (u 32), .ref (u 33), .ref (u 34), .ref (u 35), .ref (u 36), .ref (u 37), .ref (u 38), .ref (u 39)])), (u 17, .inr (0, [.int 0, .int 0, .int 0, .int 0, .int 0, .int 0, .int 0, .int 0, .int 0, .int 0, .ref (u 18), .ref (u 19), .ref (u 20), .ref (u 21), .ref (u 22), .ref (u 23), .ref (u 24), .ref (u 25), .ref (u 26), .ref (u 27)]))] H := hP
  have hD : va_D (lA s) [(qm, .inr (12, [.int 0, .ref (v 0), .ref (v 1), .ref (v 2), .ref (v 3), .int 0, .ref (v 4), .int 0, .int 0, .int 0, .int 0, .int 0, .int 0, .int (-1), .ref (v 5), .ref (v 6), .int 0, .int 0, .int 0, .ref (v 7), .ref (v 8), .int 0, .int 0, .ref (v 9), .ref (v 10), .ref (v 11), .ref (v 12), .ref (v 13), .ref (v 14)])), (v 0, .inl (g.2 0, 225, .inl (fun _ => 0))), (qx, .inr (11, [.ref (u 0), .ref (u 17), .ref (u 31), .ref (u 32), .ref (u 33), .ref (u 34), .ref (u 35), .ref (u 36), .ref (u 37), .ref (u 38), .ref (u 39)])), (u 17, .inr (0, [.int 0, .int 0, .int 0, .int 0, .int 0, .int 0, .int 0, .int 0, .int 0, .int 0, .ref (u 18), .ref (u 19), .ref (u 20), .ref (u 21), .ref (u 22), .ref (u 23), .ref (u 24), .ref (u 25), .ref (u 26), .ref (u 27)]))] := hD
  refine W.eq (g2 := F0 m 636 ls [.int (-2)]) rfl ?_
  refine lv_aload_n hx hb dL_law_636 rfl (lv_at hl 1 rfl) ?_
  refine lv_aload_n hx hb dL_law_637 rfl (lv_at hl 3 rfl) ?_
  refine lv_iload_n hx hb dL_law_638 rfl (lv_at hl 0 rfl) ?_
  refine lv_iconst (v := 1) hx hb dL_law_639 (by decide) ?_
  refine lv_iadd hx hb dL_law_640 ?_
  refine tp_i (v := 1) (by decide) ?_
  refine va_sld hx hb hX hbl hbA hS (by unfold vp_in; decide) dL_law_641 ?_
  refine tp_i (v := xs 1) rfl ?_
  refine lv_aload_n hx hb dL_law_642 rfl (lv_at hl 3 rfl) ?_
  refine lv_iload_n hx hb dL_law_643 rfl (lv_at hl 0 rfl) ?_
  refine lv_iconst (v := 2) hx hb dL_law_644 (by decide) ?_
  refine lv_iadd hx hb dL_law_645 ?_
  refine tp_i (v := 2) (by decide) ?_
  refine va_sld hx hb hX hbl hbA hS (by unfold vp_in; decide) dL_law_646 ?_
  refine tp_i (v := xs 2) rfl ?_
  refine call_V (As := [.int (xs 1), .int (xs 2)]) (rest := [.int (-2)]) (wr := [(qx, .inr (11, [.ref (u 0), .ref (u 17), .ref (u 31), .ref (u 32), .ref (u 33), .ref (u 34), .ref (u 35), .ref (u 36), .ref (u 37), .ref (u 38), .ref (u 39)])), (u 17, .inr (0, [.int 0, .int 0, .int 0, .int 0, .int 0, .int 0, .int 0, .int 0, .int 0, .int 0, .ref (u 18), .ref (u 19), .ref (u 20), .ref (u 21), .ref (u 22), .ref (u 23), .ref (u 24), .ref (u 25), .ref (u 26), .ref (u 27)]))]) FC hKn (c_X12_mean l g qm (v 0) (v 1) (v 2) (v 3) (v 4) (v 5) (v 6) (v 7) (v 8) (v 9) (v 10) (v 11) (v 12) (v 13) (v 14) (xs 1) (xs 2)) m_yX12_mean b_505 (ci := 12) rfl rfl rfl hP hD hS hA [0, 1] [2, 3] rfl (by decide) rfl (by decide) (by decide) rfl hl.1 rfl (Nat.le_of_ble_eq_true rfl) dL_law_647 ⟨(Nat.le_of_ble_eq_true rfl), (Nat.le_of_ble_eq_true rfl)⟩ ⟨(Nat.le_of_ble_eq_true rfl), (Nat.le_of_ble_eq_true rfl)⟩ (fun u2 H locs _ hP hD hS => ?_)
  have hP : va_P g.1 vwCl [(qx, .inr (11, [.ref (u 0), .ref (u 17), .ref (u 31), .ref (u 32), .ref (u 33), .ref (u 34), .ref (u 35), .ref (u 36), .ref (u 37), .ref (u 38), .ref (u 39)])), (u 17, .inr (0, [.int 0, .int 0, .int 0, .int 0, .int 0, .int 0, .int 0, .int 0, .int 0, .int 0, .ref (u 18), .ref (u 19), .ref (u 20), .ref (u 21), .ref (u 22), .ref (u 23), .ref (u 24), .ref (u 25), .ref (u 26), .ref (u 27)])), (qm, .inr (12, [.int 0, .ref (v 0), .ref (v 1), .ref (v 2), .ref (v 3), .int 0, .ref (v 4), .int 0, .int 0, .int 0, .int 0, .int 0, .int 0, .int (-1), .ref (v 5), .ref (v 6), .int 0, .int 0, .int 0, .ref (v 7), .ref (v 8), .int 0, .int 0, .ref (v 9), .ref (v 10), .ref (v 11), .ref (v 12), .ref (v 13), .ref (v 14)])), (v 0, .inl (g.2 0, 225, .inl (fun _ => 0)))] H := hP
  have hD : va_D (lA s) [(qx, .inr (11, [.ref (u 0), .ref (u 17), .ref (u 31), .ref (u 32), .ref (u 33), .ref (u 34), .ref (u 35), .ref (u 36), .ref (u 37), .ref (u 38), .ref (u 39)])), (u 17, .inr (0, [.int 0, .int 0, .int 0, .int 0, .int 0, .int 0, .int 0, .int 0, .int 0, .int 0, .ref (u 18), .ref (u 19), .ref (u 20), .ref (u 21), .ref (u 22), .ref (u 23), .ref (u 24), .ref (u 25), .ref (u 26), .ref (u 27)])), (qm, .inr (12, [.int 0, .ref (v 0), .ref (v 1), .ref (v 2), .ref (v 3), .int 0, .ref (v 4), .int 0, .int 0, .int 0, .int 0, .int 0, .int 0, .int (-1), .ref (v 5), .ref (v 6), .int 0, .int 0, .int 0, .ref (v 7), .ref (v 8), .int 0, .int 0, .ref (v 9), .ref (v 10), .ref (v 11), .ref (v 12), .ref (v 13), .ref (v 14)])), (v 0, .inl (g.2 0, 225, .inl (fun _ => 0)))] := hD
  refine W.eq (g2 := F0 m 650 ls [.int (-2), .int (-2)]) rfl ?_
  refine lv_icmp_eq (tgt := 2465) hx hb dL_law_650 (by decide) (fun _ => ?_) (fun h => absurd rfl h)
  exact law_end C0 hS (lv_sub hl [0, 1, 2, 3] rfl) (Nat.le_of_ble_eq_true rfl) (Nat.le_of_ble_eq_true rfl)
set_option maxRecDepth 100000 in
set_option maxHeartbeats 4000000 in
/-- chance -/
theorem law_11 {p : Program} {e : Env} {s : State} {m : MethodId} {below : List Frame} {meth : Method} {c : Code} {l : Launch} {g : GG} {b : Nat} {xs : Nat → Int32} (C0 : lw_At p s m meth c b 6 xs) (hKn : Kn g s) {H : Heap} {locs : List Loc} {ls : Array Slot} {qx qm : Nat} {u v : Nat → Nat} (hP : va_P g.1 vwCl (WX g qx u ++ WM g qm v) H) (hD : va_D (lA s) (WX g qx u ++ WM g qm v)) (hS : va_S (lA s) s.heap H locs) (hl : lv_has ls 4 [(3, .int 0), (2, .ref qm), (1, .ref qx), (0, .ref b)]) : W p l e room_1 s m #[Value.ref b] below meth c H locs 122 12079 (lw_Z below #[Value.ref b] s) (F0 m 655 ls []) := by
  obtain ⟨hx, hb, hr, hml, hown, hts, hX, hbl, hlocks, hgv⟩ := id C0
  have hA : ∀ q : Nat, s.heap.size ≤ q → lA s q := fun _ h => h
  have hbA : ¬ lA s b := Nat.not_le.mpr hbl
  have hB : ∀ w ∈ BIG, w.before #[Value.ref b] s = true := fun w h => hts w (big_in w h)
  have FC : CallFix p m c cL_law 4 s #[Value.ref b] BIG RL := ⟨hx, hb, hml, hown, hB⟩
  have hP : va_P g.1 vwCl [(qx, .inr (11, [.ref (u 0), .ref (u 17), .ref (u 31), .ref (u 32), .ref (u 33), .ref (u 34), .ref (u 35), .ref (u 36), .ref (u 37), .ref (u 38), .ref (u 39)])), (u 17, .inr (0, [.int 0, .int 0, .int 0, .int 0, .int 0, .int 0, .int 0, .int 0, .int 0, .int 0, .ref (u 18), .ref (u 19), .ref (u 20), .ref (u 21), .ref (u 22), .ref (u 23), .ref (u 24), .ref (u 25), .ref (u 26), .ref (u 27)])), (qm, .inr (12, [.int 0, .ref (v 0), .ref (v 1), .ref (v 2), .ref (v 3), .int 0, .ref (v 4), .int 0, .int 0, .int 0, .int 0, .int 0, .int 0, .int (-1), .ref (v 5), .ref (v 6), .int 0, .int 0, .int 0, .ref (v 7), .ref (v 8), .int 0, .int 0, .ref (v 9), .ref (v 10), .ref (v 11), .ref (v 12), .ref (v 13), .ref (v 14)])), (v 0, .inl (g.2 0, 225, .inl (fun _ => 0)))] H := hP.sub [0, 18, 85, 86] rfl
  have hD : va_D (lA s) [(qx, .inr (11, [.ref (u 0), .ref (u 17), .ref (u 31), .ref (u 32), .ref (u 33), .ref (u 34), .ref (u 35), .ref (u 36), .ref (u 37), .ref (u 38), .ref (u 39)])), (u 17, .inr (0, [.int 0, .int 0, .int 0, .int 0, .int 0, .int 0, .int 0, .int 0, .int 0, .int 0, .ref (u 18), .ref (u 19), .ref (u 20), .ref (u 21), .ref (u 22), .ref (u 23), .ref (u 24), .ref (u 25), .ref (u 26), .ref (u 27)])), (qm, .inr (12, [.int 0, .ref (v 0), .ref (v 1), .ref (v 2), .ref (v 3), .int 0, .ref (v 4), .int 0, .int 0, .int 0, .int 0, .int 0, .int 0, .int (-1), .ref (v 5), .ref (v 6), .int 0, .int 0, .int 0, .ref (v 7), .ref (v 8), .int 0, .int 0, .ref (v 9), .ref (v 10), .ref (v 11), .ref (v 12), .ref (v 13), .ref (v 14)])), (v 0, .inl (g.2 0, 225, .inl (fun _ => 0)))] := hD.sub [0, 18, 85, 86] (by decide) rfl
  refine lv_aload_n hx hb dL_law_655 rfl (lv_at hl 2 rfl) ?_
  refine lv_aload_n hx hb dL_law_656 rfl (lv_at hl 3 rfl) ?_
  refine lv_iload_n hx hb dL_law_657 rfl (lv_at hl 0 rfl) ?_
  refine lv_iconst (v := 1) hx hb dL_law_658 (by decide) ?_
  refine lv_iadd hx hb dL_law_659 ?_
  refine tp_i (v := 1) (by decide) ?_
  refine va_sld hx hb hX hbl hbA hS (by unfold vp_in; decide) dL_law_660 ?_
  refine tp_i (v := xs 1) rfl ?_
  refine lv_aload_n hx hb dL_law_661 rfl (lv_at hl 3 rfl) ?_
  refine lv_iload_n hx hb dL_law_662 rfl (lv_at hl 0 rfl) ?_
  refine lv_iconst (v := 2) hx hb dL_law_663 (by decide) ?_
  refine lv_iadd hx hb dL_law_664 ?_
  refine tp_i (v := 2) (by decide) ?_
  refine va_sld hx hb hX hbl hbA hS (by unfold vp_in; decide) dL_law_665 ?_
  refine tp_i (v := xs 2) rfl ?_
  refine lv_aload_n hx hb dL_law_666 rfl (lv_at hl 3 rfl) ?_
  refine lv_iload_n hx hb dL_law_667 rfl (lv_at hl 0 rfl) ?_
  refine lv_iconst (v := 3) hx hb dL_law_668 (by decide) ?_
  refine lv_iadd hx hb dL_law_669 ?_
  refine tp_i (v := 3) (by decide) ?_
  refine va_sld hx hb hX hbl hbA hS (by unfold vp_in; decide) dL_law_670 ?_
  refine tp_i (v := xs 3) rfl ?_
  refine lv_aload_n hx hb dL_law_671 rfl (lv_at hl 3 rfl) ?_
  refine lv_iload_n hx hb dL_law_672 rfl (lv_at hl 0 rfl) ?_
  refine lv_iconst (v := 4) hx hb dL_law_673 (by decide) ?_
  refine lv_iadd hx hb dL_law_674 ?_
  refine tp_i (v := 4) (by decide) ?_
  refine va_sld hx hb hX hbl hbA hS (by unfold vp_in; decide) dL_law_675 ?_
  refine tp_i (v := xs 4) rfl ?_
  refine call_V (As := [.int (xs 1), .int (xs 2), .int (xs 3), .int (xs 4)]) (rest := []) (wr := [(qm, .inr (12, [.int 0, .ref (v 0), .ref (v 1), .ref (v 2), .ref (v 3), .int 0, .ref (v 4), .int 0, .int 0, .int 0, .int 0, .int 0, .int 0, .int (-1), .ref (v 5), .ref (v 6), .int 0, .int 0, .int 0, .ref (v 7), .ref (v 8), .int 0, .int 0, .ref (v 9), .ref (v 10), .ref (v 11), .ref (v 12), .ref (v 13), .ref (v 14)])), (v 0, .inl (g.2 0, 225, .inl (fun _ => 0)))]) FC hKn (c_X11_chance l g qx (u 17) (u 0) (u 31) (u 32) (u 33) (u 34) (u 35) (u 36) (u 37) (u 38) (u 39) (u 18) (u 19) (u 20) (u 21) (u 22) (u 23) (u 24) (u 25) (u 26) (u 27) (xs 1) (xs 2) (xs 3) (xs 4)) m_yX11_chance b_506 (ci := 11) rfl rfl rfl hP hD hS hA [0, 1] [2, 3] rfl (by decide) rfl (by decide) (by decide) rfl hl.1 rfl (Nat.le_of_ble_eq_true rfl) dL_law_676 ⟨(Nat.le_of_ble_eq_true rfl), (Nat.le_of_ble_eq_true rfl)⟩ ⟨(Nat.le_of_ble_eq_true rfl), (Nat.le_of_ble_eq_true rfl)⟩ (fun u1 H locs _ hP hD hS => ?_)
  have hP : va_P g.1 vwCl [(qm, .inr (12, [.int 0, .ref (v 0), .ref (v 1), .ref (v 2), .ref (v 3), .int 0, .ref (v 4), .int 0, .int 0, .int 0, .int 0, .int 0, .int 0, .int (-1), .ref (v 5), .ref (v 6), .int 0, .int 0, .int 0, .ref (v 7), .ref (v 8), .int 0, .int 0, .ref (v 9), .ref (v 10), .ref (v 11), .ref (v 12), .ref (v 13), .ref (v 14)])), (v 0, .inl (g.2 0, 225, .inl (fun _ => 0))), (qx, .inr (11, [.ref (u 0), .ref (u 17), .ref (u 31), .ref (u 32), .ref (u 33), .ref (u 34), .ref (u 35), .ref (u 36), .ref (u 37), .ref (u 38), .ref (u 39)])), (u 17, .inr (0, [.int 0, .int 0, .int 0, .int 0, .int 0, .int 0, .int 0, .int 0, .int 0, .int 0, .ref (u 18), .ref (u 19), .ref (u 20), .ref (u 21), .ref (u 22), .ref (u 23), .ref (u 24), .ref (u 25), .ref (u 26), .ref (u 27)]))] H := hP
  have hD : va_D (lA s) [(qm, .inr (12, [.int 0, .ref (v 0), .ref (v 1), .ref (v 2), .ref (v 3), .int 0, .ref (v 4), .int 0, .int 0, .int 0, .int 0, .int 0, .int 0, .int (-1), .ref (v 5), .ref (v 6), .int 0, .int 0, .int 0, .ref (v 7), .ref (v 8), .int 0, .int 0, .ref (v 9), .ref (v 10), .ref (v 11), .ref (v 12), .ref (v 13), .ref (v 14)])), (v 0, .inl (g.2 0, 225, .inl (fun _ => 0))), (qx, .inr (11, [.ref (u 0), .ref (u 17), .ref (u 31), .ref (u 32), .ref (u 33), .ref (u 34), .ref (u 35), .ref (u 36), .ref (u 37), .ref (u 38), .ref (u 39)])), (u 17, .inr (0, [.int 0, .int 0, .int 0, .int 0, .int 0, .int 0, .int 0, .int 0, .int 0, .int 0, .ref (u 18), .ref (u 19), .ref (u 20), .ref (u 21), .ref (u 22), .ref (u 23), .ref (u 24), .ref (u 25), .ref (u 26), .ref (u 27)]))] := hD
  refine W.eq (g2 := F0 m 679 ls [.int (-2)]) rfl ?_
  refine lv_aload_n hx hb dL_law_679 rfl (lv_at hl 1 rfl) ?_
  refine lv_aload_n hx hb dL_law_680 rfl (lv_at hl 3 rfl) ?_
  refine lv_iload_n hx hb dL_law_681 rfl (lv_at hl 0 rfl) ?_
  refine lv_iconst (v := 1) hx hb dL_law_682 (by decide) ?_
  refine lv_iadd hx hb dL_law_683 ?_
  refine tp_i (v := 1) (by decide) ?_
  refine va_sld hx hb hX hbl hbA hS (by unfold vp_in; decide) dL_law_684 ?_
  refine tp_i (v := xs 1) rfl ?_
  refine lv_aload_n hx hb dL_law_685 rfl (lv_at hl 3 rfl) ?_
  refine lv_iload_n hx hb dL_law_686 rfl (lv_at hl 0 rfl) ?_
  refine lv_iconst (v := 2) hx hb dL_law_687 (by decide) ?_
  refine lv_iadd hx hb dL_law_688 ?_
  refine tp_i (v := 2) (by decide) ?_
  refine va_sld hx hb hX hbl hbA hS (by unfold vp_in; decide) dL_law_689 ?_
  refine tp_i (v := xs 2) rfl ?_
  refine lv_aload_n hx hb dL_law_690 rfl (lv_at hl 3 rfl) ?_
  refine lv_iload_n hx hb dL_law_691 rfl (lv_at hl 0 rfl) ?_
  refine lv_iconst (v := 3) hx hb dL_law_692 (by decide) ?_
  refine lv_iadd hx hb dL_law_693 ?_
  refine tp_i (v := 3) (by decide) ?_
  refine va_sld hx hb hX hbl hbA hS (by unfold vp_in; decide) dL_law_694 ?_
  refine tp_i (v := xs 3) rfl ?_
  refine lv_aload_n hx hb dL_law_695 rfl (lv_at hl 3 rfl) ?_
  refine lv_iload_n hx hb dL_law_696 rfl (lv_at hl 0 rfl) ?_
  refine lv_iconst (v := 4) hx hb dL_law_697 (by decide) ?_
  refine lv_iadd hx hb dL_law_698 ?_
  refine tp_i (v := 4) (by decide) ?_
  refine va_sld hx hb hX hbl hbA hS (by unfold vp_in; decide) dL_law_699 ?_
  refine tp_i (v := xs 4) rfl ?_
  refine call_V (As := [.int (xs 1), .int (xs 2), .int (xs 3), .int (xs 4)]) (rest := [.int (-2)]) (wr := [(qx, .inr (11, [.ref (u 0), .ref (u 17), .ref (u 31), .ref (u 32), .ref (u 33), .ref (u 34), .ref (u 35), .ref (u 36), .ref (u 37), .ref (u 38), .ref (u 39)])), (u 17, .inr (0, [.int 0, .int 0, .int 0, .int 0, .int 0, .int 0, .int 0, .int 0, .int 0, .int 0, .ref (u 18), .ref (u 19), .ref (u 20), .ref (u 21), .ref (u 22), .ref (u 23), .ref (u 24), .ref (u 25), .ref (u 26), .ref (u 27)]))]) FC hKn (c_X12_chance l g qm (v 0) (v 1) (v 2) (v 3) (v 4) (v 5) (v 6) (v 7) (v 8) (v 9) (v 10) (v 11) (v 12) (v 13) (v 14) (xs 1) (xs 2) (xs 3) (xs 4)) m_yX12_chance b_507 (ci := 12) rfl rfl rfl hP hD hS hA [0, 1] [2, 3] rfl (by decide) rfl (by decide) (by decide) rfl hl.1 rfl (Nat.le_of_ble_eq_true rfl) dL_law_700 ⟨(Nat.le_of_ble_eq_true rfl), (Nat.le_of_ble_eq_true rfl)⟩ ⟨(Nat.le_of_ble_eq_true rfl), (Nat.le_of_ble_eq_true rfl)⟩ (fun u2 H locs _ hP hD hS => ?_)
  have hP : va_P g.1 vwCl [(qx, .inr (11, [.ref (u 0), .ref (u 17), .ref (u 31), .ref (u 32), .ref (u 33), .ref (u 34), .ref (u 35), .ref (u 36), .ref (u 37), .ref (u 38), .ref (u 39)])), (u 17, .inr (0, [.int 0, .int 0, .int 0, .int 0, .int 0, .int 0, .int 0, .int 0, .int 0, .int 0, .ref (u 18), .ref (u 19), .ref (u 20), .ref (u 21), .ref (u 22), .ref (u 23), .ref (u 24), .ref (u 25), .ref (u 26), .ref (u 27)])), (qm, .inr (12, [.int 0, .ref (v 0), .ref (v 1), .ref (v 2), .ref (v 3), .int 0, .ref (v 4), .int 0, .int 0, .int 0, .int 0, .int 0, .int 0, .int (-1), .ref (v 5), .ref (v 6), .int 0, .int 0, .int 0, .ref (v 7), .ref (v 8), .int 0, .int 0, .ref (v 9), .ref (v 10), .ref (v 11), .ref (v 12), .ref (v 13), .ref (v 14)])), (v 0, .inl (g.2 0, 225, .inl (fun _ => 0)))] H := hP
  have hD : va_D (lA s) [(qx, .inr (11, [.ref (u 0), .ref (u 17), .ref (u 31), .ref (u 32), .ref (u 33), .ref (u 34), .ref (u 35), .ref (u 36), .ref (u 37), .ref (u 38), .ref (u 39)])), (u 17, .inr (0, [.int 0, .int 0, .int 0, .int 0, .int 0, .int 0, .int 0, .int 0, .int 0, .int 0, .ref (u 18), .ref (u 19), .ref (u 20), .ref (u 21), .ref (u 22), .ref (u 23), .ref (u 24), .ref (u 25), .ref (u 26), .ref (u 27)])), (qm, .inr (12, [.int 0, .ref (v 0), .ref (v 1), .ref (v 2), .ref (v 3), .int 0, .ref (v 4), .int 0, .int 0, .int 0, .int 0, .int 0, .int 0, .int (-1), .ref (v 5), .ref (v 6), .int 0, .int 0, .int 0, .ref (v 7), .ref (v 8), .int 0, .int 0, .ref (v 9), .ref (v 10), .ref (v 11), .ref (v 12), .ref (v 13), .ref (v 14)])), (v 0, .inl (g.2 0, 225, .inl (fun _ => 0)))] := hD
  refine W.eq (g2 := F0 m 703 ls [.int (-2), .int (-2)]) rfl ?_
  refine lv_icmp_eq (tgt := 2465) hx hb dL_law_703 (by decide) (fun _ => ?_) (fun h => absurd rfl h)
  exact law_end C0 hS (lv_sub hl [0, 1, 2, 3] rfl) (Nat.le_of_ble_eq_true rfl) (Nat.le_of_ble_eq_true rfl)
set_option maxRecDepth 100000 in
set_option maxHeartbeats 4000000 in
/-- behind -/
theorem law_12 {p : Program} {e : Env} {s : State} {m : MethodId} {below : List Frame} {meth : Method} {c : Code} {l : Launch} {g : GG} {b : Nat} {xs : Nat → Int32} (C0 : lw_At p s m meth c b 6 xs) (hKn : Kn g s) {H : Heap} {locs : List Loc} {ls : Array Slot} {qx qm : Nat} {u v : Nat → Nat} (hP : va_P g.1 vwCl (WX g qx u ++ WM g qm v) H) (hD : va_D (lA s) (WX g qx u ++ WM g qm v)) (hS : va_S (lA s) s.heap H locs) (hl : lv_has ls 4 [(3, .int 0), (2, .ref qm), (1, .ref qx), (0, .ref b)]) : W p l e room_1 s m #[Value.ref b] below meth c H locs 122 12079 (lw_Z below #[Value.ref b] s) (F0 m 708 ls []) := by
  obtain ⟨hx, hb, hr, hml, hown, hts, hX, hbl, hlocks, hgv⟩ := id C0
  have hA : ∀ q : Nat, s.heap.size ≤ q → lA s q := fun _ h => h
  have hbA : ¬ lA s b := Nat.not_le.mpr hbl
  have hB : ∀ w ∈ BIG, w.before #[Value.ref b] s = true := fun w h => hts w (big_in w h)
  have FC : CallFix p m c cL_law 4 s #[Value.ref b] BIG RL := ⟨hx, hb, hml, hown, hB⟩
  have hP : va_P g.1 vwCl [(qx, .inr (11, [.ref (u 0), .ref (u 17), .ref (u 31), .ref (u 32), .ref (u 33), .ref (u 34), .ref (u 35), .ref (u 36), .ref (u 37), .ref (u 38), .ref (u 39)])), (u 17, .inr (0, [.int 0, .int 0, .int 0, .int 0, .int 0, .int 0, .int 0, .int 0, .int 0, .int 0, .ref (u 18), .ref (u 19), .ref (u 20), .ref (u 21), .ref (u 22), .ref (u 23), .ref (u 24), .ref (u 25), .ref (u 26), .ref (u 27)])), (qm, .inr (12, [.int 0, .ref (v 0), .ref (v 1), .ref (v 2), .ref (v 3), .int 0, .ref (v 4), .int 0, .int 0, .int 0, .int 0, .int 0, .int 0, .int (-1), .ref (v 5), .ref (v 6), .int 0, .int 0, .int 0, .ref (v 7), .ref (v 8), .int 0, .int 0, .ref (v 9), .ref (v 10), .ref (v 11), .ref (v 12), .ref (v 13), .ref (v 14)])), (v 0, .inl (g.2 0, 225, .inl (fun _ => 0)))] H := hP.sub [0, 18, 85, 86] rfl
  have hD : va_D (lA s) [(qx, .inr (11, [.ref (u 0), .ref (u 17), .ref (u 31), .ref (u 32), .ref (u 33), .ref (u 34), .ref (u 35), .ref (u 36), .ref (u 37), .ref (u 38), .ref (u 39)])), (u 17, .inr (0, [.int 0, .int 0, .int 0, .int 0, .int 0, .int 0, .int 0, .int 0, .int 0, .int 0, .ref (u 18), .ref (u 19), .ref (u 20), .ref (u 21), .ref (u 22), .ref (u 23), .ref (u 24), .ref (u 25), .ref (u 26), .ref (u 27)])), (qm, .inr (12, [.int 0, .ref (v 0), .ref (v 1), .ref (v 2), .ref (v 3), .int 0, .ref (v 4), .int 0, .int 0, .int 0, .int 0, .int 0, .int 0, .int (-1), .ref (v 5), .ref (v 6), .int 0, .int 0, .int 0, .ref (v 7), .ref (v 8), .int 0, .int 0, .ref (v 9), .ref (v 10), .ref (v 11), .ref (v 12), .ref (v 13), .ref (v 14)])), (v 0, .inl (g.2 0, 225, .inl (fun _ => 0)))] := hD.sub [0, 18, 85, 86] (by decide) rfl
  refine lv_aload_n hx hb dL_law_708 rfl (lv_at hl 2 rfl) ?_
  refine lv_aload_n hx hb dL_law_709 rfl (lv_at hl 3 rfl) ?_
  refine lv_iload_n hx hb dL_law_710 rfl (lv_at hl 0 rfl) ?_
  refine lv_iconst (v := 1) hx hb dL_law_711 (by decide) ?_
  refine lv_iadd hx hb dL_law_712 ?_
  refine tp_i (v := 1) (by decide) ?_
  refine va_sld hx hb hX hbl hbA hS (by unfold vp_in; decide) dL_law_713 ?_
  refine tp_i (v := xs 1) rfl ?_
  refine lv_aload_n hx hb dL_law_714 rfl (lv_at hl 3 rfl) ?_
  refine lv_iload_n hx hb dL_law_715 rfl (lv_at hl 0 rfl) ?_
  refine lv_iconst (v := 2) hx hb dL_law_716 (by decide) ?_
  refine lv_iadd hx hb dL_law_717 ?_
  refine tp_i (v := 2) (by decide) ?_
  refine va_sld hx hb hX hbl hbA hS (by unfold vp_in; decide) dL_law_718 ?_
  refine tp_i (v := xs 2) rfl ?_
  refine call_V (As := [.int (xs 1), .int (xs 2)]) (rest := []) (wr := [(qm, .inr (12, [.int 0, .ref (v 0), .ref (v 1), .ref (v 2), .ref (v 3), .int 0, .ref (v 4), .int 0, .int 0, .int 0, .int 0, .int 0, .int 0, .int (-1), .ref (v 5), .ref (v 6), .int 0, .int 0, .int 0, .ref (v 7), .ref (v 8), .int 0, .int 0, .ref (v 9), .ref (v 10), .ref (v 11), .ref (v 12), .ref (v 13), .ref (v 14)])), (v 0, .inl (g.2 0, 225, .inl (fun _ => 0)))]) FC hKn (c_X11_behind l g qx (u 17) (u 0) (u 31) (u 32) (u 33) (u 34) (u 35) (u 36) (u 37) (u 38) (u 39) (u 18) (u 19) (u 20) (u 21) (u 22) (u 23) (u 24) (u 25) (u 26) (u 27) (xs 1) (xs 2)) m_yX11_behind b_508 (ci := 11) rfl rfl rfl hP hD hS hA [0, 1] [2, 3] rfl (by decide) rfl (by decide) (by decide) rfl hl.1 rfl (Nat.le_of_ble_eq_true rfl) dL_law_719 ⟨(Nat.le_of_ble_eq_true rfl), (Nat.le_of_ble_eq_true rfl)⟩ ⟨(Nat.le_of_ble_eq_true rfl), (Nat.le_of_ble_eq_true rfl)⟩ (fun u1 H locs _ hP hD hS => ?_)
  have hP : va_P g.1 vwCl [(qm, .inr (12, [.int 0, .ref (v 0), .ref (v 1), .ref (v 2), .ref (v 3), .int 0, .ref (v 4), .int 0, .int 0, .int 0, .int 0, .int 0, .int 0, .int (-1), .ref (v 5), .ref (v 6), .int 0, .int 0, .int 0, .ref (v 7), .ref (v 8), .int 0, .int 0, .ref (v 9), .ref (v 10), .ref (v 11), .ref (v 12), .ref (v 13), .ref (v 14)])), (v 0, .inl (g.2 0, 225, .inl (fun _ => 0))), (qx, .inr (11, [.ref (u 0), .ref (u 17), .ref (u 31), .ref (u 32), .ref (u 33), .ref (u 34), .ref (u 35), .ref (u 36), .ref (u 37), .ref (u 38), .ref (u 39)])), (u 17, .inr (0, [.int 0, .int 0, .int 0, .int 0, .int 0, .int 0, .int 0, .int 0, .int 0, .int 0, .ref (u 18), .ref (u 19), .ref (u 20), .ref (u 21), .ref (u 22), .ref (u 23), .ref (u 24), .ref (u 25), .ref (u 26), .ref (u 27)]))] H := hP
  have hD : va_D (lA s) [(qm, .inr (12, [.int 0, .ref (v 0), .ref (v 1), .ref (v 2), .ref (v 3), .int 0, .ref (v 4), .int 0, .int 0, .int 0, .int 0, .int 0, .int 0, .int (-1), .ref (v 5), .ref (v 6), .int 0, .int 0, .int 0, .ref (v 7), .ref (v 8), .int 0, .int 0, .ref (v 9), .ref (v 10), .ref (v 11), .ref (v 12), .ref (v 13), .ref (v 14)])), (v 0, .inl (g.2 0, 225, .inl (fun _ => 0))), (qx, .inr (11, [.ref (u 0), .ref (u 17), .ref (u 31), .ref (u 32), .ref (u 33), .ref (u 34), .ref (u 35), .ref (u 36), .ref (u 37), .ref (u 38), .ref (u 39)])), (u 17, .inr (0, [.int 0, .int 0, .int 0, .int 0, .int 0, .int 0, .int 0, .int 0, .int 0, .int 0, .ref (u 18), .ref (u 19), .ref (u 20), .ref (u 21), .ref (u 22), .ref (u 23), .ref (u 24), .ref (u 25), .ref (u 26), .ref (u 27)]))] := hD
  refine W.eq (g2 := F0 m 722 ls [.int (-2)]) rfl ?_
  refine lv_aload_n hx hb dL_law_722 rfl (lv_at hl 1 rfl) ?_
  refine lv_aload_n hx hb dL_law_723 rfl (lv_at hl 3 rfl) ?_
  refine lv_iload_n hx hb dL_law_724 rfl (lv_at hl 0 rfl) ?_
  refine lv_iconst (v := 1) hx hb dL_law_725 (by decide) ?_
  refine lv_iadd hx hb dL_law_726 ?_
  refine tp_i (v := 1) (by decide) ?_
  refine va_sld hx hb hX hbl hbA hS (by unfold vp_in; decide) dL_law_727 ?_
  refine tp_i (v := xs 1) rfl ?_
  refine lv_aload_n hx hb dL_law_728 rfl (lv_at hl 3 rfl) ?_
  refine lv_iload_n hx hb dL_law_729 rfl (lv_at hl 0 rfl) ?_
  refine lv_iconst (v := 2) hx hb dL_law_730 (by decide) ?_
  refine lv_iadd hx hb dL_law_731 ?_
  refine tp_i (v := 2) (by decide) ?_
  refine va_sld hx hb hX hbl hbA hS (by unfold vp_in; decide) dL_law_732 ?_
  refine tp_i (v := xs 2) rfl ?_
  refine call_V (As := [.int (xs 1), .int (xs 2)]) (rest := [.int (-2)]) (wr := [(qx, .inr (11, [.ref (u 0), .ref (u 17), .ref (u 31), .ref (u 32), .ref (u 33), .ref (u 34), .ref (u 35), .ref (u 36), .ref (u 37), .ref (u 38), .ref (u 39)])), (u 17, .inr (0, [.int 0, .int 0, .int 0, .int 0, .int 0, .int 0, .int 0, .int 0, .int 0, .int 0, .ref (u 18), .ref (u 19), .ref (u 20), .ref (u 21), .ref (u 22), .ref (u 23), .ref (u 24), .ref (u 25), .ref (u 26), .ref (u 27)]))]) FC hKn (c_X12_behind l g qm (v 0) (v 1) (v 2) (v 3) (v 4) (v 5) (v 6) (v 7) (v 8) (v 9) (v 10) (v 11) (v 12) (v 13) (v 14) (xs 1) (xs 2)) m_yX12_behind b_509 (ci := 12) rfl rfl rfl hP hD hS hA [0, 1] [2, 3] rfl (by decide) rfl (by decide) (by decide) rfl hl.1 rfl (Nat.le_of_ble_eq_true rfl) dL_law_733 ⟨(Nat.le_of_ble_eq_true rfl), (Nat.le_of_ble_eq_true rfl)⟩ ⟨(Nat.le_of_ble_eq_true rfl), (Nat.le_of_ble_eq_true rfl)⟩ (fun u2 H locs _ hP hD hS => ?_)
  have hP : va_P g.1 vwCl [(qx, .inr (11, [.ref (u 0), .ref (u 17), .ref (u 31), .ref (u 32), .ref (u 33), .ref (u 34), .ref (u 35), .ref (u 36), .ref (u 37), .ref (u 38), .ref (u 39)])), (u 17, .inr (0, [.int 0, .int 0, .int 0, .int 0, .int 0, .int 0, .int 0, .int 0, .int 0, .int 0, .ref (u 18), .ref (u 19), .ref (u 20), .ref (u 21), .ref (u 22), .ref (u 23), .ref (u 24), .ref (u 25), .ref (u 26), .ref (u 27)])), (qm, .inr (12, [.int 0, .ref (v 0), .ref (v 1), .ref (v 2), .ref (v 3), .int 0, .ref (v 4), .int 0, .int 0, .int 0, .int 0, .int 0, .int 0, .int (-1), .ref (v 5), .ref (v 6), .int 0, .int 0, .int 0, .ref (v 7), .ref (v 8), .int 0, .int 0, .ref (v 9), .ref (v 10), .ref (v 11), .ref (v 12), .ref (v 13), .ref (v 14)])), (v 0, .inl (g.2 0, 225, .inl (fun _ => 0)))] H := hP
  have hD : va_D (lA s) [(qx, .inr (11, [.ref (u 0), .ref (u 17), .ref (u 31), .ref (u 32), .ref (u 33), .ref (u 34), .ref (u 35), .ref (u 36), .ref (u 37), .ref (u 38), .ref (u 39)])), (u 17, .inr (0, [.int 0, .int 0, .int 0, .int 0, .int 0, .int 0, .int 0, .int 0, .int 0, .int 0, .ref (u 18), .ref (u 19), .ref (u 20), .ref (u 21), .ref (u 22), .ref (u 23), .ref (u 24), .ref (u 25), .ref (u 26), .ref (u 27)])), (qm, .inr (12, [.int 0, .ref (v 0), .ref (v 1), .ref (v 2), .ref (v 3), .int 0, .ref (v 4), .int 0, .int 0, .int 0, .int 0, .int 0, .int 0, .int (-1), .ref (v 5), .ref (v 6), .int 0, .int 0, .int 0, .ref (v 7), .ref (v 8), .int 0, .int 0, .ref (v 9), .ref (v 10), .ref (v 11), .ref (v 12), .ref (v 13), .ref (v 14)])), (v 0, .inl (g.2 0, 225, .inl (fun _ => 0)))] := hD
  refine W.eq (g2 := F0 m 736 ls [.int (-2), .int (-2)]) rfl ?_
  refine lv_icmp_eq (tgt := 2465) hx hb dL_law_736 (by decide) (fun _ => ?_) (fun h => absurd rfl h)
  exact law_end C0 hS (lv_sub hl [0, 1, 2, 3] rfl) (Nat.le_of_ble_eq_true rfl) (Nat.le_of_ble_eq_true rfl)
set_option maxRecDepth 100000 in
set_option maxHeartbeats 4000000 in
/-- hurt -/
theorem law_13 {p : Program} {e : Env} {s : State} {m : MethodId} {below : List Frame} {meth : Method} {c : Code} {l : Launch} {g : GG} {b : Nat} {xs : Nat → Int32} (C0 : lw_At p s m meth c b 6 xs) (hKn : Kn g s) {H : Heap} {locs : List Loc} {ls : Array Slot} {qx qm : Nat} {u v : Nat → Nat} (hP : va_P g.1 vwCl (WX g qx u ++ WM g qm v) H) (hD : va_D (lA s) (WX g qx u ++ WM g qm v)) (hS : va_S (lA s) s.heap H locs) (hl : lv_has ls 4 [(3, .int 0), (2, .ref qm), (1, .ref qx), (0, .ref b)]) : W p l e room_1 s m #[Value.ref b] below meth c H locs 122 12079 (lw_Z below #[Value.ref b] s) (F0 m 741 ls []) := by
  obtain ⟨hx, hb, hr, hml, hown, hts, hX, hbl, hlocks, hgv⟩ := id C0
  have hA : ∀ q : Nat, s.heap.size ≤ q → lA s q := fun _ h => h
  have hbA : ¬ lA s b := Nat.not_le.mpr hbl
  have hB : ∀ w ∈ BIG, w.before #[Value.ref b] s = true := fun w h => hts w (big_in w h)
  have FC : CallFix p m c cL_law 4 s #[Value.ref b] BIG RL := ⟨hx, hb, hml, hown, hB⟩
  have hP : va_P g.1 vwCl [(qx, .inr (11, [.ref (u 0), .ref (u 17), .ref (u 31), .ref (u 32), .ref (u 33), .ref (u 34), .ref (u 35), .ref (u 36), .ref (u 37), .ref (u 38), .ref (u 39)])), (u 17, .inr (0, [.int 0, .int 0, .int 0, .int 0, .int 0, .int 0, .int 0, .int 0, .int 0, .int 0, .ref (u 18), .ref (u 19), .ref (u 20), .ref (u 21), .ref (u 22), .ref (u 23), .ref (u 24), .ref (u 25), .ref (u 26), .ref (u 27)])), (qm, .inr (12, [.int 0, .ref (v 0), .ref (v 1), .ref (v 2), .ref (v 3), .int 0, .ref (v 4), .int 0, .int 0, .int 0, .int 0, .int 0, .int 0, .int (-1), .ref (v 5), .ref (v 6), .int 0, .int 0, .int 0, .ref (v 7), .ref (v 8), .int 0, .int 0, .ref (v 9), .ref (v 10), .ref (v 11), .ref (v 12), .ref (v 13), .ref (v 14)])), (v 0, .inl (g.2 0, 225, .inl (fun _ => 0)))] H := hP.sub [0, 18, 85, 86] rfl
  have hD : va_D (lA s) [(qx, .inr (11, [.ref (u 0), .ref (u 17), .ref (u 31), .ref (u 32), .ref (u 33), .ref (u 34), .ref (u 35), .ref (u 36), .ref (u 37), .ref (u 38), .ref (u 39)])), (u 17, .inr (0, [.int 0, .int 0, .int 0, .int 0, .int 0, .int 0, .int 0, .int 0, .int 0, .int 0, .ref (u 18), .ref (u 19), .ref (u 20), .ref (u 21), .ref (u 22), .ref (u 23), .ref (u 24), .ref (u 25), .ref (u 26), .ref (u 27)])), (qm, .inr (12, [.int 0, .ref (v 0), .ref (v 1), .ref (v 2), .ref (v 3), .int 0, .ref (v 4), .int 0, .int 0, .int 0, .int 0, .int 0, .int 0, .int (-1), .ref (v 5), .ref (v 6), .int 0, .int 0, .int 0, .ref (v 7), .ref (v 8), .int 0, .int 0, .ref (v 9), .ref (v 10), .ref (v 11), .ref (v 12), .ref (v 13), .ref (v 14)])), (v 0, .inl (g.2 0, 225, .inl (fun _ => 0)))] := hD.sub [0, 18, 85, 86] (by decide) rfl
  refine lv_aload_n hx hb dL_law_741 rfl (lv_at hl 2 rfl) ?_
  refine lv_aload_n hx hb dL_law_742 rfl (lv_at hl 3 rfl) ?_
  refine lv_iload_n hx hb dL_law_743 rfl (lv_at hl 0 rfl) ?_
  refine lv_iconst (v := 1) hx hb dL_law_744 (by decide) ?_
  refine lv_iadd hx hb dL_law_745 ?_
  refine tp_i (v := 1) (by decide) ?_
  refine va_sld hx hb hX hbl hbA hS (by unfold vp_in; decide) dL_law_746 ?_
  refine tp_i (v := xs 1) rfl ?_
  refine lv_aload_n hx hb dL_law_747 rfl (lv_at hl 3 rfl) ?_
  refine lv_iload_n hx hb dL_law_748 rfl (lv_at hl 0 rfl) ?_
  refine lv_iconst (v := 2) hx hb dL_law_749 (by decide) ?_
  refine lv_iadd hx hb dL_law_750 ?_
  refine tp_i (v := 2) (by decide) ?_
  refine va_sld hx hb hX hbl hbA hS (by unfold vp_in; decide) dL_law_751 ?_
  refine tp_i (v := xs 2) rfl ?_
  refine lv_aload_n hx hb dL_law_752 rfl (lv_at hl 3 rfl) ?_
  refine lv_iload_n hx hb dL_law_753 rfl (lv_at hl 0 rfl) ?_
  refine lv_iconst (v := 3) hx hb dL_law_754 (by decide) ?_
  refine lv_iadd hx hb dL_law_755 ?_
  refine tp_i (v := 3) (by decide) ?_
  refine va_sld hx hb hX hbl hbA hS (by unfold vp_in; decide) dL_law_756 ?_
  refine tp_i (v := xs 3) rfl ?_
  refine call_V (As := [.int (xs 1), .int (xs 2), .int (xs 3)]) (rest := []) (wr := [(qm, .inr (12, [.int 0, .ref (v 0), .ref (v 1), .ref (v 2), .ref (v 3), .int 0, .ref (v 4), .int 0, .int 0, .int 0, .int 0, .int 0, .int 0, .int (-1), .ref (v 5), .ref (v 6), .int 0, .int 0, .int 0, .ref (v 7), .ref (v 8), .int 0, .int 0, .ref (v 9), .ref (v 10), .ref (v 11), .ref (v 12), .ref (v 13), .ref (v 14)])), (v 0, .inl (g.2 0, 225, .inl (fun _ => 0)))]) FC hKn (c_X11_hurt l g qx (u 17) (u 0) (u 31) (u 32) (u 33) (u 34) (u 35) (u 36) (u 37) (u 38) (u 39) (u 18) (u 19) (u 20) (u 21) (u 22) (u 23) (u 24) (u 25) (u 26) (u 27) (xs 1) (xs 2) (xs 3)) m_yX11_hurt b_510 (ci := 11) rfl rfl rfl hP hD hS hA [0, 1] [2, 3] rfl (by decide) rfl (by decide) (by decide) rfl hl.1 rfl (Nat.le_of_ble_eq_true rfl) dL_law_757 ⟨(Nat.le_of_ble_eq_true rfl), (Nat.le_of_ble_eq_true rfl)⟩ ⟨(Nat.le_of_ble_eq_true rfl), (Nat.le_of_ble_eq_true rfl)⟩ (fun u1 H locs _ hP hD hS => ?_)
  have hP : va_P g.1 vwCl [(qm, .inr (12, [.int 0, .ref (v 0), .ref (v 1), .ref (v 2), .ref (v 3), .int 0, .ref (v 4), .int 0, .int 0, .int 0, .int 0, .int 0, .int 0, .int (-1), .ref (v 5), .ref (v 6), .int 0, .int 0, .int 0, .ref (v 7), .ref (v 8), .int 0, .int 0, .ref (v 9), .ref (v 10), .ref (v 11), .ref (v 12), .ref (v 13), .ref (v 14)])), (v 0, .inl (g.2 0, 225, .inl (fun _ => 0))), (qx, .inr (11, [.ref (u 0), .ref (u 17), .ref (u 31), .ref (u 32), .ref (u 33), .ref (u 34), .ref (u 35), .ref (u 36), .ref (u 37), .ref (u 38), .ref (u 39)])), (u 17, .inr (0, [.int 0, .int 0, .int 0, .int 0, .int 0, .int 0, .int 0, .int 0, .int 0, .int 0, .ref (u 18), .ref (u 19), .ref (u 20), .ref (u 21), .ref (u 22), .ref (u 23), .ref (u 24), .ref (u 25), .ref (u 26), .ref (u 27)]))] H := hP
  have hD : va_D (lA s) [(qm, .inr (12, [.int 0, .ref (v 0), .ref (v 1), .ref (v 2), .ref (v 3), .int 0, .ref (v 4), .int 0, .int 0, .int 0, .int 0, .int 0, .int 0, .int (-1), .ref (v 5), .ref (v 6), .int 0, .int 0, .int 0, .ref (v 7), .ref (v 8), .int 0, .int 0, .ref (v 9), .ref (v 10), .ref (v 11), .ref (v 12), .ref (v 13), .ref (v 14)])), (v 0, .inl (g.2 0, 225, .inl (fun _ => 0))), (qx, .inr (11, [.ref (u 0), .ref (u 17), .ref (u 31), .ref (u 32), .ref (u 33), .ref (u 34), .ref (u 35), .ref (u 36), .ref (u 37), .ref (u 38), .ref (u 39)])), (u 17, .inr (0, [.int 0, .int 0, .int 0, .int 0, .int 0, .int 0, .int 0, .int 0, .int 0, .int 0, .ref (u 18), .ref (u 19), .ref (u 20), .ref (u 21), .ref (u 22), .ref (u 23), .ref (u 24), .ref (u 25), .ref (u 26), .ref (u 27)]))] := hD
  refine W.eq (g2 := F0 m 760 ls [.int (-2)]) rfl ?_
  refine lv_aload_n hx hb dL_law_760 rfl (lv_at hl 1 rfl) ?_
  refine lv_aload_n hx hb dL_law_761 rfl (lv_at hl 3 rfl) ?_
  refine lv_iload_n hx hb dL_law_762 rfl (lv_at hl 0 rfl) ?_
  refine lv_iconst (v := 1) hx hb dL_law_763 (by decide) ?_
  refine lv_iadd hx hb dL_law_764 ?_
  refine tp_i (v := 1) (by decide) ?_
  refine va_sld hx hb hX hbl hbA hS (by unfold vp_in; decide) dL_law_765 ?_
  refine tp_i (v := xs 1) rfl ?_
  refine lv_aload_n hx hb dL_law_766 rfl (lv_at hl 3 rfl) ?_
  refine lv_iload_n hx hb dL_law_767 rfl (lv_at hl 0 rfl) ?_
  refine lv_iconst (v := 2) hx hb dL_law_768 (by decide) ?_
  refine lv_iadd hx hb dL_law_769 ?_
  refine tp_i (v := 2) (by decide) ?_
  refine va_sld hx hb hX hbl hbA hS (by unfold vp_in; decide) dL_law_770 ?_
  refine tp_i (v := xs 2) rfl ?_
  refine lv_aload_n hx hb dL_law_771 rfl (lv_at hl 3 rfl) ?_
  refine lv_iload_n hx hb dL_law_772 rfl (lv_at hl 0 rfl) ?_
  refine lv_iconst (v := 3) hx hb dL_law_773 (by decide) ?_
  refine lv_iadd hx hb dL_law_774 ?_
  refine tp_i (v := 3) (by decide) ?_
  refine va_sld hx hb hX hbl hbA hS (by unfold vp_in; decide) dL_law_775 ?_
  refine tp_i (v := xs 3) rfl ?_
  refine call_V (As := [.int (xs 1), .int (xs 2), .int (xs 3)]) (rest := [.int (-2)]) (wr := [(qx, .inr (11, [.ref (u 0), .ref (u 17), .ref (u 31), .ref (u 32), .ref (u 33), .ref (u 34), .ref (u 35), .ref (u 36), .ref (u 37), .ref (u 38), .ref (u 39)])), (u 17, .inr (0, [.int 0, .int 0, .int 0, .int 0, .int 0, .int 0, .int 0, .int 0, .int 0, .int 0, .ref (u 18), .ref (u 19), .ref (u 20), .ref (u 21), .ref (u 22), .ref (u 23), .ref (u 24), .ref (u 25), .ref (u 26), .ref (u 27)]))]) FC hKn (c_X12_hurt l g qm (v 0) (v 1) (v 2) (v 3) (v 4) (v 5) (v 6) (v 7) (v 8) (v 9) (v 10) (v 11) (v 12) (v 13) (v 14) (xs 1) (xs 2) (xs 3)) m_yX12_hurt b_511 (ci := 12) rfl rfl rfl hP hD hS hA [0, 1] [2, 3] rfl (by decide) rfl (by decide) (by decide) rfl hl.1 rfl (Nat.le_of_ble_eq_true rfl) dL_law_776 ⟨(Nat.le_of_ble_eq_true rfl), (Nat.le_of_ble_eq_true rfl)⟩ ⟨(Nat.le_of_ble_eq_true rfl), (Nat.le_of_ble_eq_true rfl)⟩ (fun u2 H locs _ hP hD hS => ?_)
  have hP : va_P g.1 vwCl [(qx, .inr (11, [.ref (u 0), .ref (u 17), .ref (u 31), .ref (u 32), .ref (u 33), .ref (u 34), .ref (u 35), .ref (u 36), .ref (u 37), .ref (u 38), .ref (u 39)])), (u 17, .inr (0, [.int 0, .int 0, .int 0, .int 0, .int 0, .int 0, .int 0, .int 0, .int 0, .int 0, .ref (u 18), .ref (u 19), .ref (u 20), .ref (u 21), .ref (u 22), .ref (u 23), .ref (u 24), .ref (u 25), .ref (u 26), .ref (u 27)])), (qm, .inr (12, [.int 0, .ref (v 0), .ref (v 1), .ref (v 2), .ref (v 3), .int 0, .ref (v 4), .int 0, .int 0, .int 0, .int 0, .int 0, .int 0, .int (-1), .ref (v 5), .ref (v 6), .int 0, .int 0, .int 0, .ref (v 7), .ref (v 8), .int 0, .int 0, .ref (v 9), .ref (v 10), .ref (v 11), .ref (v 12), .ref (v 13), .ref (v 14)])), (v 0, .inl (g.2 0, 225, .inl (fun _ => 0)))] H := hP
  have hD : va_D (lA s) [(qx, .inr (11, [.ref (u 0), .ref (u 17), .ref (u 31), .ref (u 32), .ref (u 33), .ref (u 34), .ref (u 35), .ref (u 36), .ref (u 37), .ref (u 38), .ref (u 39)])), (u 17, .inr (0, [.int 0, .int 0, .int 0, .int 0, .int 0, .int 0, .int 0, .int 0, .int 0, .int 0, .ref (u 18), .ref (u 19), .ref (u 20), .ref (u 21), .ref (u 22), .ref (u 23), .ref (u 24), .ref (u 25), .ref (u 26), .ref (u 27)])), (qm, .inr (12, [.int 0, .ref (v 0), .ref (v 1), .ref (v 2), .ref (v 3), .int 0, .ref (v 4), .int 0, .int 0, .int 0, .int 0, .int 0, .int 0, .int (-1), .ref (v 5), .ref (v 6), .int 0, .int 0, .int 0, .ref (v 7), .ref (v 8), .int 0, .int 0, .ref (v 9), .ref (v 10), .ref (v 11), .ref (v 12), .ref (v 13), .ref (v 14)])), (v 0, .inl (g.2 0, 225, .inl (fun _ => 0)))] := hD
  refine W.eq (g2 := F0 m 779 ls [.int (-2), .int (-2)]) rfl ?_
  refine lv_icmp_eq (tgt := 2465) hx hb dL_law_779 (by decide) (fun _ => ?_) (fun h => absurd rfl h)
  exact law_end C0 hS (lv_sub hl [0, 1, 2, 3] rfl) (Nat.le_of_ble_eq_true rfl) (Nat.le_of_ble_eq_true rfl)
set_option maxRecDepth 100000 in
set_option maxHeartbeats 4000000 in
/-- softest -/
theorem law_14 {p : Program} {e : Env} {s : State} {m : MethodId} {below : List Frame} {meth : Method} {c : Code} {l : Launch} {g : GG} {b : Nat} {xs : Nat → Int32} (C0 : lw_At p s m meth c b 6 xs) (hKn : Kn g s) {H : Heap} {locs : List Loc} {ls : Array Slot} {qx qm : Nat} {u v : Nat → Nat} (hP : va_P g.1 vwCl (WX g qx u ++ WM g qm v) H) (hD : va_D (lA s) (WX g qx u ++ WM g qm v)) (hS : va_S (lA s) s.heap H locs) (hl : lv_has ls 4 [(3, .int 0), (2, .ref qm), (1, .ref qx), (0, .ref b)]) : W p l e room_1 s m #[Value.ref b] below meth c H locs 122 12079 (lw_Z below #[Value.ref b] s) (F0 m 784 ls []) := by
  obtain ⟨hx, hb, hr, hml, hown, hts, hX, hbl, hlocks, hgv⟩ := id C0
  have hA : ∀ q : Nat, s.heap.size ≤ q → lA s q := fun _ h => h
  have hbA : ¬ lA s b := Nat.not_le.mpr hbl
  have hB : ∀ w ∈ BIG, w.before #[Value.ref b] s = true := fun w h => hts w (big_in w h)
  have FC : CallFix p m c cL_law 4 s #[Value.ref b] BIG RL := ⟨hx, hb, hml, hown, hB⟩
  have hP : va_P g.1 vwCl [(qx, .inr (11, [.ref (u 0), .ref (u 17), .ref (u 31), .ref (u 32), .ref (u 33), .ref (u 34), .ref (u 35), .ref (u 36), .ref (u 37), .ref (u 38), .ref (u 39)])), (u 17, .inr (0, [.int 0, .int 0, .int 0, .int 0, .int 0, .int 0, .int 0, .int 0, .int 0, .int 0, .ref (u 18), .ref (u 19), .ref (u 20), .ref (u 21), .ref (u 22), .ref (u 23), .ref (u 24), .ref (u 25), .ref (u 26), .ref (u 27)])), (qm, .inr (12, [.int 0, .ref (v 0), .ref (v 1), .ref (v 2), .ref (v 3), .int 0, .ref (v 4), .int 0, .int 0, .int 0, .int 0, .int 0, .int 0, .int (-1), .ref (v 5), .ref (v 6), .int 0, .int 0, .int 0, .ref (v 7), .ref (v 8), .int 0, .int 0, .ref (v 9), .ref (v 10), .ref (v 11), .ref (v 12), .ref (v 13), .ref (v 14)])), (v 0, .inl (g.2 0, 225, .inl (fun _ => 0)))] H := hP.sub [0, 18, 85, 86] rfl
  have hD : va_D (lA s) [(qx, .inr (11, [.ref (u 0), .ref (u 17), .ref (u 31), .ref (u 32), .ref (u 33), .ref (u 34), .ref (u 35), .ref (u 36), .ref (u 37), .ref (u 38), .ref (u 39)])), (u 17, .inr (0, [.int 0, .int 0, .int 0, .int 0, .int 0, .int 0, .int 0, .int 0, .int 0, .int 0, .ref (u 18), .ref (u 19), .ref (u 20), .ref (u 21), .ref (u 22), .ref (u 23), .ref (u 24), .ref (u 25), .ref (u 26), .ref (u 27)])), (qm, .inr (12, [.int 0, .ref (v 0), .ref (v 1), .ref (v 2), .ref (v 3), .int 0, .ref (v 4), .int 0, .int 0, .int 0, .int 0, .int 0, .int 0, .int (-1), .ref (v 5), .ref (v 6), .int 0, .int 0, .int 0, .ref (v 7), .ref (v 8), .int 0, .int 0, .ref (v 9), .ref (v 10), .ref (v 11), .ref (v 12), .ref (v 13), .ref (v 14)])), (v 0, .inl (g.2 0, 225, .inl (fun _ => 0)))] := hD.sub [0, 18, 85, 86] (by decide) rfl
  refine lv_aload_n hx hb dL_law_784 rfl (lv_at hl 2 rfl) ?_
  refine lv_aload_n hx hb dL_law_785 rfl (lv_at hl 3 rfl) ?_
  refine lv_iload_n hx hb dL_law_786 rfl (lv_at hl 0 rfl) ?_
  refine lv_iconst (v := 1) hx hb dL_law_787 (by decide) ?_
  refine lv_iadd hx hb dL_law_788 ?_
  refine tp_i (v := 1) (by decide) ?_
  refine va_sld hx hb hX hbl hbA hS (by unfold vp_in; decide) dL_law_789 ?_
  refine tp_i (v := xs 1) rfl ?_
  refine lv_aload_n hx hb dL_law_790 rfl (lv_at hl 3 rfl) ?_
  refine lv_iload_n hx hb dL_law_791 rfl (lv_at hl 0 rfl) ?_
  refine lv_iconst (v := 2) hx hb dL_law_792 (by decide) ?_
  refine lv_iadd hx hb dL_law_793 ?_
  refine tp_i (v := 2) (by decide) ?_
  refine va_sld hx hb hX hbl hbA hS (by unfold vp_in; decide) dL_law_794 ?_
  refine tp_i (v := xs 2) rfl ?_
  refine call_V (As := [.int (xs 1), .int (xs 2)]) (rest := []) (wr := [(qm, .inr (12, [.int 0, .ref (v 0), .ref (v 1), .ref (v 2), .ref (v 3), .int 0, .ref (v 4), .int 0, .int 0, .int 0, .int 0, .int 0, .int 0, .int (-1), .ref (v 5), .ref (v 6), .int 0, .int 0, .int 0, .ref (v 7), .ref (v 8), .int 0, .int 0, .ref (v 9), .ref (v 10), .ref (v 11), .ref (v 12), .ref (v 13), .ref (v 14)])), (v 0, .inl (g.2 0, 225, .inl (fun _ => 0)))]) FC hKn (c_X11_softest l g qx (u 17) (u 0) (u 31) (u 32) (u 33) (u 34) (u 35) (u 36) (u 37) (u 38) (u 39) (u 18) (u 19) (u 20) (u 21) (u 22) (u 23) (u 24) (u 25) (u 26) (u 27) (xs 1) (xs 2)) m_yX11_softest b_512 (ci := 11) rfl rfl rfl hP hD hS hA [0, 1] [2, 3] rfl (by decide) rfl (by decide) (by decide) rfl hl.1 rfl (Nat.le_of_ble_eq_true rfl) dL_law_795 ⟨(Nat.le_of_ble_eq_true rfl), (Nat.le_of_ble_eq_true rfl)⟩ ⟨(Nat.le_of_ble_eq_true rfl), (Nat.le_of_ble_eq_true rfl)⟩ (fun u1 H locs _ hP hD hS => ?_)
  have hP : va_P g.1 vwCl [(qm, .inr (12, [.int 0, .ref (v 0), .ref (v 1), .ref (v 2), .ref (v 3), .int 0, .ref (v 4), .int 0, .int 0, .int 0, .int 0, .int 0, .int 0, .int (-1), .ref (v 5), .ref (v 6), .int 0, .int 0, .int 0, .ref (v 7), .ref (v 8), .int 0, .int 0, .ref (v 9), .ref (v 10), .ref (v 11), .ref (v 12), .ref (v 13), .ref (v 14)])), (v 0, .inl (g.2 0, 225, .inl (fun _ => 0))), (qx, .inr (11, [.ref (u 0), .ref (u 17), .ref (u 31), .ref (u 32), .ref (u 33), .ref (u 34), .ref (u 35), .ref (u 36), .ref (u 37), .ref (u 38), .ref (u 39)])), (u 17, .inr (0, [.int 0, .int 0, .int 0, .int 0, .int 0, .int 0, .int 0, .int 0, .int 0, .int 0, .ref (u 18), .ref (u 19), .ref (u 20), .ref (u 21), .ref (u 22), .ref (u 23), .ref (u 24), .ref (u 25), .ref (u 26), .ref (u 27)]))] H := hP
  have hD : va_D (lA s) [(qm, .inr (12, [.int 0, .ref (v 0), .ref (v 1), .ref (v 2), .ref (v 3), .int 0, .ref (v 4), .int 0, .int 0, .int 0, .int 0, .int 0, .int 0, .int (-1), .ref (v 5), .ref (v 6), .int 0, .int 0, .int 0, .ref (v 7), .ref (v 8), .int 0, .int 0, .ref (v 9), .ref (v 10), .ref (v 11), .ref (v 12), .ref (v 13), .ref (v 14)])), (v 0, .inl (g.2 0, 225, .inl (fun _ => 0))), (qx, .inr (11, [.ref (u 0), .ref (u 17), .ref (u 31), .ref (u 32), .ref (u 33), .ref (u 34), .ref (u 35), .ref (u 36), .ref (u 37), .ref (u 38), .ref (u 39)])), (u 17, .inr (0, [.int 0, .int 0, .int 0, .int 0, .int 0, .int 0, .int 0, .int 0, .int 0, .int 0, .ref (u 18), .ref (u 19), .ref (u 20), .ref (u 21), .ref (u 22), .ref (u 23), .ref (u 24), .ref (u 25), .ref (u 26), .ref (u 27)]))] := hD
  refine W.eq (g2 := F0 m 798 ls [.int (-2)]) rfl ?_
  refine lv_aload_n hx hb dL_law_798 rfl (lv_at hl 1 rfl) ?_
  refine lv_aload_n hx hb dL_law_799 rfl (lv_at hl 3 rfl) ?_
  refine lv_iload_n hx hb dL_law_800 rfl (lv_at hl 0 rfl) ?_
  refine lv_iconst (v := 1) hx hb dL_law_801 (by decide) ?_
  refine lv_iadd hx hb dL_law_802 ?_
  refine tp_i (v := 1) (by decide) ?_
  refine va_sld hx hb hX hbl hbA hS (by unfold vp_in; decide) dL_law_803 ?_
  refine tp_i (v := xs 1) rfl ?_
  refine lv_aload_n hx hb dL_law_804 rfl (lv_at hl 3 rfl) ?_
  refine lv_iload_n hx hb dL_law_805 rfl (lv_at hl 0 rfl) ?_
  refine lv_iconst (v := 2) hx hb dL_law_806 (by decide) ?_
  refine lv_iadd hx hb dL_law_807 ?_
  refine tp_i (v := 2) (by decide) ?_
  refine va_sld hx hb hX hbl hbA hS (by unfold vp_in; decide) dL_law_808 ?_
  refine tp_i (v := xs 2) rfl ?_
  refine call_V (As := [.int (xs 1), .int (xs 2)]) (rest := [.int (-2)]) (wr := [(qx, .inr (11, [.ref (u 0), .ref (u 17), .ref (u 31), .ref (u 32), .ref (u 33), .ref (u 34), .ref (u 35), .ref (u 36), .ref (u 37), .ref (u 38), .ref (u 39)])), (u 17, .inr (0, [.int 0, .int 0, .int 0, .int 0, .int 0, .int 0, .int 0, .int 0, .int 0, .int 0, .ref (u 18), .ref (u 19), .ref (u 20), .ref (u 21), .ref (u 22), .ref (u 23), .ref (u 24), .ref (u 25), .ref (u 26), .ref (u 27)]))]) FC hKn (c_X12_softest l g qm (v 0) (v 1) (v 2) (v 3) (v 4) (v 5) (v 6) (v 7) (v 8) (v 9) (v 10) (v 11) (v 12) (v 13) (v 14) (xs 1) (xs 2)) m_yX12_softest b_513 (ci := 12) rfl rfl rfl hP hD hS hA [0, 1] [2, 3] rfl (by decide) rfl (by decide) (by decide) rfl hl.1 rfl (Nat.le_of_ble_eq_true rfl) dL_law_809 ⟨(Nat.le_of_ble_eq_true rfl), (Nat.le_of_ble_eq_true rfl)⟩ ⟨(Nat.le_of_ble_eq_true rfl), (Nat.le_of_ble_eq_true rfl)⟩ (fun u2 H locs _ hP hD hS => ?_)
  have hP : va_P g.1 vwCl [(qx, .inr (11, [.ref (u 0), .ref (u 17), .ref (u 31), .ref (u 32), .ref (u 33), .ref (u 34), .ref (u 35), .ref (u 36), .ref (u 37), .ref (u 38), .ref (u 39)])), (u 17, .inr (0, [.int 0, .int 0, .int 0, .int 0, .int 0, .int 0, .int 0, .int 0, .int 0, .int 0, .ref (u 18), .ref (u 19), .ref (u 20), .ref (u 21), .ref (u 22), .ref (u 23), .ref (u 24), .ref (u 25), .ref (u 26), .ref (u 27)])), (qm, .inr (12, [.int 0, .ref (v 0), .ref (v 1), .ref (v 2), .ref (v 3), .int 0, .ref (v 4), .int 0, .int 0, .int 0, .int 0, .int 0, .int 0, .int (-1), .ref (v 5), .ref (v 6), .int 0, .int 0, .int 0, .ref (v 7), .ref (v 8), .int 0, .int 0, .ref (v 9), .ref (v 10), .ref (v 11), .ref (v 12), .ref (v 13), .ref (v 14)])), (v 0, .inl (g.2 0, 225, .inl (fun _ => 0)))] H := hP
  have hD : va_D (lA s) [(qx, .inr (11, [.ref (u 0), .ref (u 17), .ref (u 31), .ref (u 32), .ref (u 33), .ref (u 34), .ref (u 35), .ref (u 36), .ref (u 37), .ref (u 38), .ref (u 39)])), (u 17, .inr (0, [.int 0, .int 0, .int 0, .int 0, .int 0, .int 0, .int 0, .int 0, .int 0, .int 0, .ref (u 18), .ref (u 19), .ref (u 20), .ref (u 21), .ref (u 22), .ref (u 23), .ref (u 24), .ref (u 25), .ref (u 26), .ref (u 27)])), (qm, .inr (12, [.int 0, .ref (v 0), .ref (v 1), .ref (v 2), .ref (v 3), .int 0, .ref (v 4), .int 0, .int 0, .int 0, .int 0, .int 0, .int 0, .int (-1), .ref (v 5), .ref (v 6), .int 0, .int 0, .int 0, .ref (v 7), .ref (v 8), .int 0, .int 0, .ref (v 9), .ref (v 10), .ref (v 11), .ref (v 12), .ref (v 13), .ref (v 14)])), (v 0, .inl (g.2 0, 225, .inl (fun _ => 0)))] := hD
  refine W.eq (g2 := F0 m 812 ls [.int (-2), .int (-2)]) rfl ?_
  refine lv_icmp_eq (tgt := 2465) hx hb dL_law_812 (by decide) (fun _ => ?_) (fun h => absurd rfl h)
  exact law_end C0 hS (lv_sub hl [0, 1, 2, 3] rfl) (Nat.le_of_ble_eq_true rfl) (Nat.le_of_ble_eq_true rfl)
set_option maxRecDepth 100000 in
set_option maxHeartbeats 4000000 in
/-- believes -/
theorem law_15 {p : Program} {e : Env} {s : State} {m : MethodId} {below : List Frame} {meth : Method} {c : Code} {l : Launch} {g : GG} {b : Nat} {xs : Nat → Int32} (C0 : lw_At p s m meth c b 6 xs) (hKn : Kn g s) {H : Heap} {locs : List Loc} {ls : Array Slot} {qx qm : Nat} {u v : Nat → Nat} (hP : va_P g.1 vwCl (WX g qx u ++ WM g qm v) H) (hD : va_D (lA s) (WX g qx u ++ WM g qm v)) (hS : va_S (lA s) s.heap H locs) (hl : lv_has ls 4 [(3, .int 0), (2, .ref qm), (1, .ref qx), (0, .ref b)]) : W p l e room_1 s m #[Value.ref b] below meth c H locs 122 12079 (lw_Z below #[Value.ref b] s) (F0 m 817 ls []) := by
  obtain ⟨hx, hb, hr, hml, hown, hts, hX, hbl, hlocks, hgv⟩ := id C0
  have hA : ∀ q : Nat, s.heap.size ≤ q → lA s q := fun _ h => h
  have hbA : ¬ lA s b := Nat.not_le.mpr hbl
  have hB : ∀ w ∈ BIG, w.before #[Value.ref b] s = true := fun w h => hts w (big_in w h)
  have FC : CallFix p m c cL_law 4 s #[Value.ref b] BIG RL := ⟨hx, hb, hml, hown, hB⟩
  have hP : va_P g.1 vwCl [(qx, .inr (11, [.ref (u 0), .ref (u 17), .ref (u 31), .ref (u 32), .ref (u 33), .ref (u 34), .ref (u 35), .ref (u 36), .ref (u 37), .ref (u 38), .ref (u 39)])), (u 17, .inr (0, [.int 0, .int 0, .int 0, .int 0, .int 0, .int 0, .int 0, .int 0, .int 0, .int 0, .ref (u 18), .ref (u 19), .ref (u 20), .ref (u 21), .ref (u 22), .ref (u 23), .ref (u 24), .ref (u 25), .ref (u 26), .ref (u 27)])), (qm, .inr (12, [.int 0, .ref (v 0), .ref (v 1), .ref (v 2), .ref (v 3), .int 0, .ref (v 4), .int 0, .int 0, .int 0, .int 0, .int 0, .int 0, .int (-1), .ref (v 5), .ref (v 6), .int 0, .int 0, .int 0, .ref (v 7), .ref (v 8), .int 0, .int 0, .ref (v 9), .ref (v 10), .ref (v 11), .ref (v 12), .ref (v 13), .ref (v 14)])), (v 0, .inl (g.2 0, 225, .inl (fun _ => 0)))] H := hP.sub [0, 18, 85, 86] rfl
  have hD : va_D (lA s) [(qx, .inr (11, [.ref (u 0), .ref (u 17), .ref (u 31), .ref (u 32), .ref (u 33), .ref (u 34), .ref (u 35), .ref (u 36), .ref (u 37), .ref (u 38), .ref (u 39)])), (u 17, .inr (0, [.int 0, .int 0, .int 0, .int 0, .int 0, .int 0, .int 0, .int 0, .int 0, .int 0, .ref (u 18), .ref (u 19), .ref (u 20), .ref (u 21), .ref (u 22), .ref (u 23), .ref (u 24), .ref (u 25), .ref (u 26), .ref (u 27)])), (qm, .inr (12, [.int 0, .ref (v 0), .ref (v 1), .ref (v 2), .ref (v 3), .int 0, .ref (v 4), .int 0, .int 0, .int 0, .int 0, .int 0, .int 0, .int (-1), .ref (v 5), .ref (v 6), .int 0, .int 0, .int 0, .ref (v 7), .ref (v 8), .int 0, .int 0, .ref (v 9), .ref (v 10), .ref (v 11), .ref (v 12), .ref (v 13), .ref (v 14)])), (v 0, .inl (g.2 0, 225, .inl (fun _ => 0)))] := hD.sub [0, 18, 85, 86] (by decide) rfl
  refine lv_aload_n hx hb dL_law_817 rfl (lv_at hl 2 rfl) ?_
  refine lv_aload_n hx hb dL_law_818 rfl (lv_at hl 3 rfl) ?_
  refine lv_iload_n hx hb dL_law_819 rfl (lv_at hl 0 rfl) ?_
  refine lv_iconst (v := 1) hx hb dL_law_820 (by decide) ?_
  refine lv_iadd hx hb dL_law_821 ?_
  refine tp_i (v := 1) (by decide) ?_
  refine va_sld hx hb hX hbl hbA hS (by unfold vp_in; decide) dL_law_822 ?_
  refine tp_i (v := xs 1) rfl ?_
  refine call_V (As := [.int (xs 1)]) (rest := []) (wr := [(qm, .inr (12, [.int 0, .ref (v 0), .ref (v 1), .ref (v 2), .ref (v 3), .int 0, .ref (v 4), .int 0, .int 0, .int 0, .int 0, .int 0, .int 0, .int (-1), .ref (v 5), .ref (v 6), .int 0, .int 0, .int 0, .ref (v 7), .ref (v 8), .int 0, .int 0, .ref (v 9), .ref (v 10), .ref (v 11), .ref (v 12), .ref (v 13), .ref (v 14)])), (v 0, .inl (g.2 0, 225, .inl (fun _ => 0)))]) FC hKn (c_X11_believes l g qx (u 17) (u 0) (u 31) (u 32) (u 33) (u 34) (u 35) (u 36) (u 37) (u 38) (u 39) (u 18) (u 19) (u 20) (u 21) (u 22) (u 23) (u 24) (u 25) (u 26) (u 27) (xs 1)) m_yX11_believes b_514 (ci := 11) rfl rfl rfl hP hD hS hA [0, 1] [2, 3] rfl (by decide) rfl (by decide) (by decide) rfl hl.1 rfl (Nat.le_of_ble_eq_true rfl) dL_law_823 ⟨(Nat.le_of_ble_eq_true rfl), (Nat.le_of_ble_eq_true rfl)⟩ ⟨(Nat.le_of_ble_eq_true rfl), (Nat.le_of_ble_eq_true rfl)⟩ (fun u1 H locs _ hP hD hS => ?_)
  have hP : va_P g.1 vwCl [(qm, .inr (12, [.int 0, .ref (v 0), .ref (v 1), .ref (v 2), .ref (v 3), .int 0, .ref (v 4), .int 0, .int 0, .int 0, .int 0, .int 0, .int 0, .int (-1), .ref (v 5), .ref (v 6), .int 0, .int 0, .int 0, .ref (v 7), .ref (v 8), .int 0, .int 0, .ref (v 9), .ref (v 10), .ref (v 11), .ref (v 12), .ref (v 13), .ref (v 14)])), (v 0, .inl (g.2 0, 225, .inl (fun _ => 0))), (qx, .inr (11, [.ref (u 0), .ref (u 17), .ref (u 31), .ref (u 32), .ref (u 33), .ref (u 34), .ref (u 35), .ref (u 36), .ref (u 37), .ref (u 38), .ref (u 39)])), (u 17, .inr (0, [.int 0, .int 0, .int 0, .int 0, .int 0, .int 0, .int 0, .int 0, .int 0, .int 0, .ref (u 18), .ref (u 19), .ref (u 20), .ref (u 21), .ref (u 22), .ref (u 23), .ref (u 24), .ref (u 25), .ref (u 26), .ref (u 27)]))] H := hP
  have hD : va_D (lA s) [(qm, .inr (12, [.int 0, .ref (v 0), .ref (v 1), .ref (v 2), .ref (v 3), .int 0, .ref (v 4), .int 0, .int 0, .int 0, .int 0, .int 0, .int 0, .int (-1), .ref (v 5), .ref (v 6), .int 0, .int 0, .int 0, .ref (v 7), .ref (v 8), .int 0, .int 0, .ref (v 9), .ref (v 10), .ref (v 11), .ref (v 12), .ref (v 13), .ref (v 14)])), (v 0, .inl (g.2 0, 225, .inl (fun _ => 0))), (qx, .inr (11, [.ref (u 0), .ref (u 17), .ref (u 31), .ref (u 32), .ref (u 33), .ref (u 34), .ref (u 35), .ref (u 36), .ref (u 37), .ref (u 38), .ref (u 39)])), (u 17, .inr (0, [.int 0, .int 0, .int 0, .int 0, .int 0, .int 0, .int 0, .int 0, .int 0, .int 0, .ref (u 18), .ref (u 19), .ref (u 20), .ref (u 21), .ref (u 22), .ref (u 23), .ref (u 24), .ref (u 25), .ref (u 26), .ref (u 27)]))] := hD
  refine W.eq (g2 := F0 m 826 ls [.int (-2)]) rfl ?_
  refine lv_aload_n hx hb dL_law_826 rfl (lv_at hl 1 rfl) ?_
  refine lv_aload_n hx hb dL_law_827 rfl (lv_at hl 3 rfl) ?_
  refine lv_iload_n hx hb dL_law_828 rfl (lv_at hl 0 rfl) ?_
  refine lv_iconst (v := 1) hx hb dL_law_829 (by decide) ?_
  refine lv_iadd hx hb dL_law_830 ?_
  refine tp_i (v := 1) (by decide) ?_
  refine va_sld hx hb hX hbl hbA hS (by unfold vp_in; decide) dL_law_831 ?_
  refine tp_i (v := xs 1) rfl ?_
  refine call_V (As := [.int (xs 1)]) (rest := [.int (-2)]) (wr := [(qx, .inr (11, [.ref (u 0), .ref (u 17), .ref (u 31), .ref (u 32), .ref (u 33), .ref (u 34), .ref (u 35), .ref (u 36), .ref (u 37), .ref (u 38), .ref (u 39)])), (u 17, .inr (0, [.int 0, .int 0, .int 0, .int 0, .int 0, .int 0, .int 0, .int 0, .int 0, .int 0, .ref (u 18), .ref (u 19), .ref (u 20), .ref (u 21), .ref (u 22), .ref (u 23), .ref (u 24), .ref (u 25), .ref (u 26), .ref (u 27)]))]) FC hKn (c_X12_believes l g qm (v 0) (v 1) (v 2) (v 3) (v 4) (v 5) (v 6) (v 7) (v 8) (v 9) (v 10) (v 11) (v 12) (v 13) (v 14) (xs 1)) m_yX12_believes b_515 (ci := 12) rfl rfl rfl hP hD hS hA [0, 1] [2, 3] rfl (by decide) rfl (by decide) (by decide) rfl hl.1 rfl (Nat.le_of_ble_eq_true rfl) dL_law_832 ⟨(Nat.le_of_ble_eq_true rfl), (Nat.le_of_ble_eq_true rfl)⟩ ⟨(Nat.le_of_ble_eq_true rfl), (Nat.le_of_ble_eq_true rfl)⟩ (fun u2 H locs _ hP hD hS => ?_)
  have hP : va_P g.1 vwCl [(qx, .inr (11, [.ref (u 0), .ref (u 17), .ref (u 31), .ref (u 32), .ref (u 33), .ref (u 34), .ref (u 35), .ref (u 36), .ref (u 37), .ref (u 38), .ref (u 39)])), (u 17, .inr (0, [.int 0, .int 0, .int 0, .int 0, .int 0, .int 0, .int 0, .int 0, .int 0, .int 0, .ref (u 18), .ref (u 19), .ref (u 20), .ref (u 21), .ref (u 22), .ref (u 23), .ref (u 24), .ref (u 25), .ref (u 26), .ref (u 27)])), (qm, .inr (12, [.int 0, .ref (v 0), .ref (v 1), .ref (v 2), .ref (v 3), .int 0, .ref (v 4), .int 0, .int 0, .int 0, .int 0, .int 0, .int 0, .int (-1), .ref (v 5), .ref (v 6), .int 0, .int 0, .int 0, .ref (v 7), .ref (v 8), .int 0, .int 0, .ref (v 9), .ref (v 10), .ref (v 11), .ref (v 12), .ref (v 13), .ref (v 14)])), (v 0, .inl (g.2 0, 225, .inl (fun _ => 0)))] H := hP
  have hD : va_D (lA s) [(qx, .inr (11, [.ref (u 0), .ref (u 17), .ref (u 31), .ref (u 32), .ref (u 33), .ref (u 34), .ref (u 35), .ref (u 36), .ref (u 37), .ref (u 38), .ref (u 39)])), (u 17, .inr (0, [.int 0, .int 0, .int 0, .int 0, .int 0, .int 0, .int 0, .int 0, .int 0, .int 0, .ref (u 18), .ref (u 19), .ref (u 20), .ref (u 21), .ref (u 22), .ref (u 23), .ref (u 24), .ref (u 25), .ref (u 26), .ref (u 27)])), (qm, .inr (12, [.int 0, .ref (v 0), .ref (v 1), .ref (v 2), .ref (v 3), .int 0, .ref (v 4), .int 0, .int 0, .int 0, .int 0, .int 0, .int 0, .int (-1), .ref (v 5), .ref (v 6), .int 0, .int 0, .int 0, .ref (v 7), .ref (v 8), .int 0, .int 0, .ref (v 9), .ref (v 10), .ref (v 11), .ref (v 12), .ref (v 13), .ref (v 14)])), (v 0, .inl (g.2 0, 225, .inl (fun _ => 0)))] := hD
  refine W.eq (g2 := F0 m 835 ls [.int (-2), .int (-2)]) rfl ?_
  refine lv_icmp_eq (tgt := 2465) hx hb dL_law_835 (by decide) (fun _ => ?_) (fun h => absurd rfl h)
  exact law_end C0 hS (lv_sub hl [0, 1, 2, 3] rfl) (Nat.le_of_ble_eq_true rfl) (Nat.le_of_ble_eq_true rfl)
set_option maxRecDepth 100000 in
set_option maxHeartbeats 4000000 in
/-- hurts -/
theorem law_16 {p : Program} {e : Env} {s : State} {m : MethodId} {below : List Frame} {meth : Method} {c : Code} {l : Launch} {g : GG} {b : Nat} {xs : Nat → Int32} (C0 : lw_At p s m meth c b 6 xs) (hKn : Kn g s) {H : Heap} {locs : List Loc} {ls : Array Slot} {qx qm : Nat} {u v : Nat → Nat} (hP : va_P g.1 vwCl (WX g qx u ++ WM g qm v) H) (hD : va_D (lA s) (WX g qx u ++ WM g qm v)) (hS : va_S (lA s) s.heap H locs) (hl : lv_has ls 4 [(3, .int 0), (2, .ref qm), (1, .ref qx), (0, .ref b)]) : W p l e room_1 s m #[Value.ref b] below meth c H locs 122 12079 (lw_Z below #[Value.ref b] s) (F0 m 840 ls []) := by
  obtain ⟨hx, hb, hr, hml, hown, hts, hX, hbl, hlocks, hgv⟩ := id C0
  have hA : ∀ q : Nat, s.heap.size ≤ q → lA s q := fun _ h => h
  have hbA : ¬ lA s b := Nat.not_le.mpr hbl
  have hB : ∀ w ∈ BIG, w.before #[Value.ref b] s = true := fun w h => hts w (big_in w h)
  have FC : CallFix p m c cL_law 4 s #[Value.ref b] BIG RL := ⟨hx, hb, hml, hown, hB⟩
  have hP : va_P g.1 vwCl [(qx, .inr (11, [.ref (u 0), .ref (u 17), .ref (u 31), .ref (u 32), .ref (u 33), .ref (u 34), .ref (u 35), .ref (u 36), .ref (u 37), .ref (u 38), .ref (u 39)])), (u 17, .inr (0, [.int 0, .int 0, .int 0, .int 0, .int 0, .int 0, .int 0, .int 0, .int 0, .int 0, .ref (u 18), .ref (u 19), .ref (u 20), .ref (u 21), .ref (u 22), .ref (u 23), .ref (u 24), .ref (u 25), .ref (u 26), .ref (u 27)])), (qm, .inr (12, [.int 0, .ref (v 0), .ref (v 1), .ref (v 2), .ref (v 3), .int 0, .ref (v 4), .int 0, .int 0, .int 0, .int 0, .int 0, .int 0, .int (-1), .ref (v 5), .ref (v 6), .int 0, .int 0, .int 0, .ref (v 7), .ref (v 8), .int 0, .int 0, .ref (v 9), .ref (v 10), .ref (v 11), .ref (v 12), .ref (v 13), .ref (v 14)])), (v 0, .inl (g.2 0, 225, .inl (fun _ => 0)))] H := hP.sub [0, 18, 85, 86] rfl
  have hD : va_D (lA s) [(qx, .inr (11, [.ref (u 0), .ref (u 17), .ref (u 31), .ref (u 32), .ref (u 33), .ref (u 34), .ref (u 35), .ref (u 36), .ref (u 37), .ref (u 38), .ref (u 39)])), (u 17, .inr (0, [.int 0, .int 0, .int 0, .int 0, .int 0, .int 0, .int 0, .int 0, .int 0, .int 0, .ref (u 18), .ref (u 19), .ref (u 20), .ref (u 21), .ref (u 22), .ref (u 23), .ref (u 24), .ref (u 25), .ref (u 26), .ref (u 27)])), (qm, .inr (12, [.int 0, .ref (v 0), .ref (v 1), .ref (v 2), .ref (v 3), .int 0, .ref (v 4), .int 0, .int 0, .int 0, .int 0, .int 0, .int 0, .int (-1), .ref (v 5), .ref (v 6), .int 0, .int 0, .int 0, .ref (v 7), .ref (v 8), .int 0, .int 0, .ref (v 9), .ref (v 10), .ref (v 11), .ref (v 12), .ref (v 13), .ref (v 14)])), (v 0, .inl (g.2 0, 225, .inl (fun _ => 0)))] := hD.sub [0, 18, 85, 86] (by decide) rfl
  refine lv_aload_n hx hb dL_law_840 rfl (lv_at hl 2 rfl) ?_
  refine lv_aload_n hx hb dL_law_841 rfl (lv_at hl 3 rfl) ?_
  refine lv_iload_n hx hb dL_law_842 rfl (lv_at hl 0 rfl) ?_
  refine lv_iconst (v := 1) hx hb dL_law_843 (by decide) ?_
  refine lv_iadd hx hb dL_law_844 ?_
  refine tp_i (v := 1) (by decide) ?_
  refine va_sld hx hb hX hbl hbA hS (by unfold vp_in; decide) dL_law_845 ?_
  refine tp_i (v := xs 1) rfl ?_
  refine lv_aload_n hx hb dL_law_846 rfl (lv_at hl 3 rfl) ?_
  refine lv_iload_n hx hb dL_law_847 rfl (lv_at hl 0 rfl) ?_
  refine lv_iconst (v := 2) hx hb dL_law_848 (by decide) ?_
  refine lv_iadd hx hb dL_law_849 ?_
  refine tp_i (v := 2) (by decide) ?_
  refine va_sld hx hb hX hbl hbA hS (by unfold vp_in; decide) dL_law_850 ?_
  refine tp_i (v := xs 2) rfl ?_
  refine call_V (As := [.int (xs 1), .int (xs 2)]) (rest := []) (wr := [(qm, .inr (12, [.int 0, .ref (v 0), .ref (v 1), .ref (v 2), .ref (v 3), .int 0, .ref (v 4), .int 0, .int 0, .int 0, .int 0, .int 0, .int 0, .int (-1), .ref (v 5), .ref (v 6), .int 0, .int 0, .int 0, .ref (v 7), .ref (v 8), .int 0, .int 0, .ref (v 9), .ref (v 10), .ref (v 11), .ref (v 12), .ref (v 13), .ref (v 14)])), (v 0, .inl (g.2 0, 225, .inl (fun _ => 0)))]) FC hKn (c_X11_hurts l g qx (u 17) (u 0) (u 31) (u 32) (u 33) (u 34) (u 35) (u 36) (u 37) (u 38) (u 39) (u 18) (u 19) (u 20) (u 21) (u 22) (u 23) (u 24) (u 25) (u 26) (u 27) (xs 1) (xs 2)) m_yX11_hurts b_516 (ci := 11) rfl rfl rfl hP hD hS hA [0, 1] [2, 3] rfl (by decide) rfl (by decide) (by decide) rfl hl.1 rfl (Nat.le_of_ble_eq_true rfl) dL_law_851 ⟨(Nat.le_of_ble_eq_true rfl), (Nat.le_of_ble_eq_true rfl)⟩ ⟨(Nat.le_of_ble_eq_true rfl), (Nat.le_of_ble_eq_true rfl)⟩ (fun u1 H locs _ hP hD hS => ?_)
  have hP : va_P g.1 vwCl [(qm, .inr (12, [.int 0, .ref (v 0), .ref (v 1), .ref (v 2), .ref (v 3), .int 0, .ref (v 4), .int 0, .int 0, .int 0, .int 0, .int 0, .int 0, .int (-1), .ref (v 5), .ref (v 6), .int 0, .int 0, .int 0, .ref (v 7), .ref (v 8), .int 0, .int 0, .ref (v 9), .ref (v 10), .ref (v 11), .ref (v 12), .ref (v 13), .ref (v 14)])), (v 0, .inl (g.2 0, 225, .inl (fun _ => 0))), (qx, .inr (11, [.ref (u 0), .ref (u 17), .ref (u 31), .ref (u 32), .ref (u 33), .ref (u 34), .ref (u 35), .ref (u 36), .ref (u 37), .ref (u 38), .ref (u 39)])), (u 17, .inr (0, [.int 0, .int 0, .int 0, .int 0, .int 0, .int 0, .int 0, .int 0, .int 0, .int 0, .ref (u 18), .ref (u 19), .ref (u 20), .ref (u 21), .ref (u 22), .ref (u 23), .ref (u 24), .ref (u 25), .ref (u 26), .ref (u 27)]))] H := hP
  have hD : va_D (lA s) [(qm, .inr (12, [.int 0, .ref (v 0), .ref (v 1), .ref (v 2), .ref (v 3), .int 0, .ref (v 4), .int 0, .int 0, .int 0, .int 0, .int 0, .int 0, .int (-1), .ref (v 5), .ref (v 6), .int 0, .int 0, .int 0, .ref (v 7), .ref (v 8), .int 0, .int 0, .ref (v 9), .ref (v 10), .ref (v 11), .ref (v 12), .ref (v 13), .ref (v 14)])), (v 0, .inl (g.2 0, 225, .inl (fun _ => 0))), (qx, .inr (11, [.ref (u 0), .ref (u 17), .ref (u 31), .ref (u 32), .ref (u 33), .ref (u 34), .ref (u 35), .ref (u 36), .ref (u 37), .ref (u 38), .ref (u 39)])), (u 17, .inr (0, [.int 0, .int 0, .int 0, .int 0, .int 0, .int 0, .int 0, .int 0, .int 0, .int 0, .ref (u 18), .ref (u 19), .ref (u 20), .ref (u 21), .ref (u 22), .ref (u 23), .ref (u 24), .ref (u 25), .ref (u 26), .ref (u 27)]))] := hD
  refine W.eq (g2 := F0 m 854 ls [.int (-2)]) rfl ?_
  refine lv_aload_n hx hb dL_law_854 rfl (lv_at hl 1 rfl) ?_
  refine lv_aload_n hx hb dL_law_855 rfl (lv_at hl 3 rfl) ?_
  refine lv_iload_n hx hb dL_law_856 rfl (lv_at hl 0 rfl) ?_
  refine lv_iconst (v := 1) hx hb dL_law_857 (by decide) ?_
  refine lv_iadd hx hb dL_law_858 ?_
  refine tp_i (v := 1) (by decide) ?_
  refine va_sld hx hb hX hbl hbA hS (by unfold vp_in; decide) dL_law_859 ?_
  refine tp_i (v := xs 1) rfl ?_
  refine lv_aload_n hx hb dL_law_860 rfl (lv_at hl 3 rfl) ?_
  refine lv_iload_n hx hb dL_law_861 rfl (lv_at hl 0 rfl) ?_
  refine lv_iconst (v := 2) hx hb dL_law_862 (by decide) ?_
  refine lv_iadd hx hb dL_law_863 ?_
  refine tp_i (v := 2) (by decide) ?_
  refine va_sld hx hb hX hbl hbA hS (by unfold vp_in; decide) dL_law_864 ?_
  refine tp_i (v := xs 2) rfl ?_
  refine call_V (As := [.int (xs 1), .int (xs 2)]) (rest := [.int (-2)]) (wr := [(qx, .inr (11, [.ref (u 0), .ref (u 17), .ref (u 31), .ref (u 32), .ref (u 33), .ref (u 34), .ref (u 35), .ref (u 36), .ref (u 37), .ref (u 38), .ref (u 39)])), (u 17, .inr (0, [.int 0, .int 0, .int 0, .int 0, .int 0, .int 0, .int 0, .int 0, .int 0, .int 0, .ref (u 18), .ref (u 19), .ref (u 20), .ref (u 21), .ref (u 22), .ref (u 23), .ref (u 24), .ref (u 25), .ref (u 26), .ref (u 27)]))]) FC hKn (c_X12_hurts l g qm (v 0) (v 1) (v 2) (v 3) (v 4) (v 5) (v 6) (v 7) (v 8) (v 9) (v 10) (v 11) (v 12) (v 13) (v 14) (xs 1) (xs 2)) m_yX12_hurts b_517 (ci := 12) rfl rfl rfl hP hD hS hA [0, 1] [2, 3] rfl (by decide) rfl (by decide) (by decide) rfl hl.1 rfl (Nat.le_of_ble_eq_true rfl) dL_law_865 ⟨(Nat.le_of_ble_eq_true rfl), (Nat.le_of_ble_eq_true rfl)⟩ ⟨(Nat.le_of_ble_eq_true rfl), (Nat.le_of_ble_eq_true rfl)⟩ (fun u2 H locs _ hP hD hS => ?_)
  have hP : va_P g.1 vwCl [(qx, .inr (11, [.ref (u 0), .ref (u 17), .ref (u 31), .ref (u 32), .ref (u 33), .ref (u 34), .ref (u 35), .ref (u 36), .ref (u 37), .ref (u 38), .ref (u 39)])), (u 17, .inr (0, [.int 0, .int 0, .int 0, .int 0, .int 0, .int 0, .int 0, .int 0, .int 0, .int 0, .ref (u 18), .ref (u 19), .ref (u 20), .ref (u 21), .ref (u 22), .ref (u 23), .ref (u 24), .ref (u 25), .ref (u 26), .ref (u 27)])), (qm, .inr (12, [.int 0, .ref (v 0), .ref (v 1), .ref (v 2), .ref (v 3), .int 0, .ref (v 4), .int 0, .int 0, .int 0, .int 0, .int 0, .int 0, .int (-1), .ref (v 5), .ref (v 6), .int 0, .int 0, .int 0, .ref (v 7), .ref (v 8), .int 0, .int 0, .ref (v 9), .ref (v 10), .ref (v 11), .ref (v 12), .ref (v 13), .ref (v 14)])), (v 0, .inl (g.2 0, 225, .inl (fun _ => 0)))] H := hP
  have hD : va_D (lA s) [(qx, .inr (11, [.ref (u 0), .ref (u 17), .ref (u 31), .ref (u 32), .ref (u 33), .ref (u 34), .ref (u 35), .ref (u 36), .ref (u 37), .ref (u 38), .ref (u 39)])), (u 17, .inr (0, [.int 0, .int 0, .int 0, .int 0, .int 0, .int 0, .int 0, .int 0, .int 0, .int 0, .ref (u 18), .ref (u 19), .ref (u 20), .ref (u 21), .ref (u 22), .ref (u 23), .ref (u 24), .ref (u 25), .ref (u 26), .ref (u 27)])), (qm, .inr (12, [.int 0, .ref (v 0), .ref (v 1), .ref (v 2), .ref (v 3), .int 0, .ref (v 4), .int 0, .int 0, .int 0, .int 0, .int 0, .int 0, .int (-1), .ref (v 5), .ref (v 6), .int 0, .int 0, .int 0, .ref (v 7), .ref (v 8), .int 0, .int 0, .ref (v 9), .ref (v 10), .ref (v 11), .ref (v 12), .ref (v 13), .ref (v 14)])), (v 0, .inl (g.2 0, 225, .inl (fun _ => 0)))] := hD
  refine W.eq (g2 := F0 m 868 ls [.int (-2), .int (-2)]) rfl ?_
  refine lv_icmp_eq (tgt := 2465) hx hb dL_law_868 (by decide) (fun _ => ?_) (fun h => absurd rfl h)
  exact law_end C0 hS (lv_sub hl [0, 1, 2, 3] rfl) (Nat.le_of_ble_eq_true rfl) (Nat.le_of_ble_eq_true rfl)
set_option maxRecDepth 100000 in
set_option maxHeartbeats 4000000 in
/-- worst -/
theorem law_17 {p : Program} {e : Env} {s : State} {m : MethodId} {below : List Frame} {meth : Method} {c : Code} {l : Launch} {g : GG} {b : Nat} {xs : Nat → Int32} (C0 : lw_At p s m meth c b 6 xs) (hKn : Kn g s) {H : Heap} {locs : List Loc} {ls : Array Slot} {qx qm : Nat} {u v : Nat → Nat} (hP : va_P g.1 vwCl (WX g qx u ++ WM g qm v) H) (hD : va_D (lA s) (WX g qx u ++ WM g qm v)) (hS : va_S (lA s) s.heap H locs) (hl : lv_has ls 4 [(3, .int 0), (2, .ref qm), (1, .ref qx), (0, .ref b)]) : W p l e room_1 s m #[Value.ref b] below meth c H locs 122 12079 (lw_Z below #[Value.ref b] s) (F0 m 873 ls []) := by
  obtain ⟨hx, hb, hr, hml, hown, hts, hX, hbl, hlocks, hgv⟩ := id C0
  have hA : ∀ q : Nat, s.heap.size ≤ q → lA s q := fun _ h => h
  have hbA : ¬ lA s b := Nat.not_le.mpr hbl
  have hB : ∀ w ∈ BIG, w.before #[Value.ref b] s = true := fun w h => hts w (big_in w h)
  have FC : CallFix p m c cL_law 4 s #[Value.ref b] BIG RL := ⟨hx, hb, hml, hown, hB⟩
  have hP : va_P g.1 vwCl [(qx, .inr (11, [.ref (u 0), .ref (u 17), .ref (u 31), .ref (u 32), .ref (u 33), .ref (u 34), .ref (u 35), .ref (u 36), .ref (u 37), .ref (u 38), .ref (u 39)])), (u 17, .inr (0, [.int 0, .int 0, .int 0, .int 0, .int 0, .int 0, .int 0, .int 0, .int 0, .int 0, .ref (u 18), .ref (u 19), .ref (u 20), .ref (u 21), .ref (u 22), .ref (u 23), .ref (u 24), .ref (u 25), .ref (u 26), .ref (u 27)])), (qm, .inr (12, [.int 0, .ref (v 0), .ref (v 1), .ref (v 2), .ref (v 3), .int 0, .ref (v 4), .int 0, .int 0, .int 0, .int 0, .int 0, .int 0, .int (-1), .ref (v 5), .ref (v 6), .int 0, .int 0, .int 0, .ref (v 7), .ref (v 8), .int 0, .int 0, .ref (v 9), .ref (v 10), .ref (v 11), .ref (v 12), .ref (v 13), .ref (v 14)])), (v 0, .inl (g.2 0, 225, .inl (fun _ => 0)))] H := hP.sub [0, 18, 85, 86] rfl
  have hD : va_D (lA s) [(qx, .inr (11, [.ref (u 0), .ref (u 17), .ref (u 31), .ref (u 32), .ref (u 33), .ref (u 34), .ref (u 35), .ref (u 36), .ref (u 37), .ref (u 38), .ref (u 39)])), (u 17, .inr (0, [.int 0, .int 0, .int 0, .int 0, .int 0, .int 0, .int 0, .int 0, .int 0, .int 0, .ref (u 18), .ref (u 19), .ref (u 20), .ref (u 21), .ref (u 22), .ref (u 23), .ref (u 24), .ref (u 25), .ref (u 26), .ref (u 27)])), (qm, .inr (12, [.int 0, .ref (v 0), .ref (v 1), .ref (v 2), .ref (v 3), .int 0, .ref (v 4), .int 0, .int 0, .int 0, .int 0, .int 0, .int 0, .int (-1), .ref (v 5), .ref (v 6), .int 0, .int 0, .int 0, .ref (v 7), .ref (v 8), .int 0, .int 0, .ref (v 9), .ref (v 10), .ref (v 11), .ref (v 12), .ref (v 13), .ref (v 14)])), (v 0, .inl (g.2 0, 225, .inl (fun _ => 0)))] := hD.sub [0, 18, 85, 86] (by decide) rfl
  refine lv_aload_n hx hb dL_law_873 rfl (lv_at hl 2 rfl) ?_
  refine lv_aload_n hx hb dL_law_874 rfl (lv_at hl 3 rfl) ?_
  refine lv_iload_n hx hb dL_law_875 rfl (lv_at hl 0 rfl) ?_
  refine lv_iconst (v := 1) hx hb dL_law_876 (by decide) ?_
  refine lv_iadd hx hb dL_law_877 ?_
  refine tp_i (v := 1) (by decide) ?_
  refine va_sld hx hb hX hbl hbA hS (by unfold vp_in; decide) dL_law_878 ?_
  refine tp_i (v := xs 1) rfl ?_
  refine lv_aload_n hx hb dL_law_879 rfl (lv_at hl 3 rfl) ?_
  refine lv_iload_n hx hb dL_law_880 rfl (lv_at hl 0 rfl) ?_
  refine lv_iconst (v := 2) hx hb dL_law_881 (by decide) ?_
  refine lv_iadd hx hb dL_law_882 ?_
  refine tp_i (v := 2) (by decide) ?_
  refine va_sld hx hb hX hbl hbA hS (by unfold vp_in; decide) dL_law_883 ?_
  refine tp_i (v := xs 2) rfl ?_
  refine call_V (As := [.int (xs 1), .int (xs 2)]) (rest := []) (wr := [(qm, .inr (12, [.int 0, .ref (v 0), .ref (v 1), .ref (v 2), .ref (v 3), .int 0, .ref (v 4), .int 0, .int 0, .int 0, .int 0, .int 0, .int 0, .int (-1), .ref (v 5), .ref (v 6), .int 0, .int 0, .int 0, .ref (v 7), .ref (v 8), .int 0, .int 0, .ref (v 9), .ref (v 10), .ref (v 11), .ref (v 12), .ref (v 13), .ref (v 14)])), (v 0, .inl (g.2 0, 225, .inl (fun _ => 0)))]) FC hKn (c_X11_worst l g qx (u 17) (u 0) (u 31) (u 32) (u 33) (u 34) (u 35) (u 36) (u 37) (u 38) (u 39) (u 18) (u 19) (u 20) (u 21) (u 22) (u 23) (u 24) (u 25) (u 26) (u 27) (xs 1) (xs 2)) m_yX11_worst b_518 (ci := 11) rfl rfl rfl hP hD hS hA [0, 1] [2, 3] rfl (by decide) rfl (by decide) (by decide) rfl hl.1 rfl (Nat.le_of_ble_eq_true rfl) dL_law_884 ⟨(Nat.le_of_ble_eq_true rfl), (Nat.le_of_ble_eq_true rfl)⟩ ⟨(Nat.le_of_ble_eq_true rfl), (Nat.le_of_ble_eq_true rfl)⟩ (fun u1 H locs _ hP hD hS => ?_)
  have hP : va_P g.1 vwCl [(qm, .inr (12, [.int 0, .ref (v 0), .ref (v 1), .ref (v 2), .ref (v 3), .int 0, .ref (v 4), .int 0, .int 0, .int 0, .int 0, .int 0, .int 0, .int (-1), .ref (v 5), .ref (v 6), .int 0, .int 0, .int 0, .ref (v 7), .ref (v 8), .int 0, .int 0, .ref (v 9), .ref (v 10), .ref (v 11), .ref (v 12), .ref (v 13), .ref (v 14)])), (v 0, .inl (g.2 0, 225, .inl (fun _ => 0))), (qx, .inr (11, [.ref (u 0), .ref (u 17), .ref (u 31), .ref (u 32), .ref (u 33), .ref (u 34), .ref (u 35), .ref (u 36), .ref (u 37), .ref (u 38), .ref (u 39)])), (u 17, .inr (0, [.int 0, .int 0, .int 0, .int 0, .int 0, .int 0, .int 0, .int 0, .int 0, .int 0, .ref (u 18), .ref (u 19), .ref (u 20), .ref (u 21), .ref (u 22), .ref (u 23), .ref (u 24), .ref (u 25), .ref (u 26), .ref (u 27)]))] H := hP
  have hD : va_D (lA s) [(qm, .inr (12, [.int 0, .ref (v 0), .ref (v 1), .ref (v 2), .ref (v 3), .int 0, .ref (v 4), .int 0, .int 0, .int 0, .int 0, .int 0, .int 0, .int (-1), .ref (v 5), .ref (v 6), .int 0, .int 0, .int 0, .ref (v 7), .ref (v 8), .int 0, .int 0, .ref (v 9), .ref (v 10), .ref (v 11), .ref (v 12), .ref (v 13), .ref (v 14)])), (v 0, .inl (g.2 0, 225, .inl (fun _ => 0))), (qx, .inr (11, [.ref (u 0), .ref (u 17), .ref (u 31), .ref (u 32), .ref (u 33), .ref (u 34), .ref (u 35), .ref (u 36), .ref (u 37), .ref (u 38), .ref (u 39)])), (u 17, .inr (0, [.int 0, .int 0, .int 0, .int 0, .int 0, .int 0, .int 0, .int 0, .int 0, .int 0, .ref (u 18), .ref (u 19), .ref (u 20), .ref (u 21), .ref (u 22), .ref (u 23), .ref (u 24), .ref (u 25), .ref (u 26), .ref (u 27)]))] := hD
  refine W.eq (g2 := F0 m 887 ls [.int (-2)]) rfl ?_
  refine lv_aload_n hx hb dL_law_887 rfl (lv_at hl 1 rfl) ?_
  refine lv_aload_n hx hb dL_law_888 rfl (lv_at hl 3 rfl) ?_
  refine lv_iload_n hx hb dL_law_889 rfl (lv_at hl 0 rfl) ?_
  refine lv_iconst (v := 1) hx hb dL_law_890 (by decide) ?_
  refine lv_iadd hx hb dL_law_891 ?_
  refine tp_i (v := 1) (by decide) ?_
  refine va_sld hx hb hX hbl hbA hS (by unfold vp_in; decide) dL_law_892 ?_
  refine tp_i (v := xs 1) rfl ?_
  refine lv_aload_n hx hb dL_law_893 rfl (lv_at hl 3 rfl) ?_
  refine lv_iload_n hx hb dL_law_894 rfl (lv_at hl 0 rfl) ?_
  refine lv_iconst (v := 2) hx hb dL_law_895 (by decide) ?_
  refine lv_iadd hx hb dL_law_896 ?_
  refine tp_i (v := 2) (by decide) ?_
  refine va_sld hx hb hX hbl hbA hS (by unfold vp_in; decide) dL_law_897 ?_
  refine tp_i (v := xs 2) rfl ?_
  refine call_V (As := [.int (xs 1), .int (xs 2)]) (rest := [.int (-2)]) (wr := [(qx, .inr (11, [.ref (u 0), .ref (u 17), .ref (u 31), .ref (u 32), .ref (u 33), .ref (u 34), .ref (u 35), .ref (u 36), .ref (u 37), .ref (u 38), .ref (u 39)])), (u 17, .inr (0, [.int 0, .int 0, .int 0, .int 0, .int 0, .int 0, .int 0, .int 0, .int 0, .int 0, .ref (u 18), .ref (u 19), .ref (u 20), .ref (u 21), .ref (u 22), .ref (u 23), .ref (u 24), .ref (u 25), .ref (u 26), .ref (u 27)]))]) FC hKn (c_X12_worst l g qm (v 0) (v 1) (v 2) (v 3) (v 4) (v 5) (v 6) (v 7) (v 8) (v 9) (v 10) (v 11) (v 12) (v 13) (v 14) (xs 1) (xs 2)) m_yX12_worst b_519 (ci := 12) rfl rfl rfl hP hD hS hA [0, 1] [2, 3] rfl (by decide) rfl (by decide) (by decide) rfl hl.1 rfl (Nat.le_of_ble_eq_true rfl) dL_law_898 ⟨(Nat.le_of_ble_eq_true rfl), (Nat.le_of_ble_eq_true rfl)⟩ ⟨(Nat.le_of_ble_eq_true rfl), (Nat.le_of_ble_eq_true rfl)⟩ (fun u2 H locs _ hP hD hS => ?_)
  have hP : va_P g.1 vwCl [(qx, .inr (11, [.ref (u 0), .ref (u 17), .ref (u 31), .ref (u 32), .ref (u 33), .ref (u 34), .ref (u 35), .ref (u 36), .ref (u 37), .ref (u 38), .ref (u 39)])), (u 17, .inr (0, [.int 0, .int 0, .int 0, .int 0, .int 0, .int 0, .int 0, .int 0, .int 0, .int 0, .ref (u 18), .ref (u 19), .ref (u 20), .ref (u 21), .ref (u 22), .ref (u 23), .ref (u 24), .ref (u 25), .ref (u 26), .ref (u 27)])), (qm, .inr (12, [.int 0, .ref (v 0), .ref (v 1), .ref (v 2), .ref (v 3), .int 0, .ref (v 4), .int 0, .int 0, .int 0, .int 0, .int 0, .int 0, .int (-1), .ref (v 5), .ref (v 6), .int 0, .int 0, .int 0, .ref (v 7), .ref (v 8), .int 0, .int 0, .ref (v 9), .ref (v 10), .ref (v 11), .ref (v 12), .ref (v 13), .ref (v 14)])), (v 0, .inl (g.2 0, 225, .inl (fun _ => 0)))] H := hP
  have hD : va_D (lA s) [(qx, .inr (11, [.ref (u 0), .ref (u 17), .ref (u 31), .ref (u 32), .ref (u 33), .ref (u 34), .ref (u 35), .ref (u 36), .ref (u 37), .ref (u 38), .ref (u 39)])), (u 17, .inr (0, [.int 0, .int 0, .int 0, .int 0, .int 0, .int 0, .int 0, .int 0, .int 0, .int 0, .ref (u 18), .ref (u 19), .ref (u 20), .ref (u 21), .ref (u 22), .ref (u 23), .ref (u 24), .ref (u 25), .ref (u 26), .ref (u 27)])), (qm, .inr (12, [.int 0, .ref (v 0), .ref (v 1), .ref (v 2), .ref (v 3), .int 0, .ref (v 4), .int 0, .int 0, .int 0, .int 0, .int 0, .int 0, .int (-1), .ref (v 5), .ref (v 6), .int 0, .int 0, .int 0, .ref (v 7), .ref (v 8), .int 0, .int 0, .ref (v 9), .ref (v 10), .ref (v 11), .ref (v 12), .ref (v 13), .ref (v 14)])), (v 0, .inl (g.2 0, 225, .inl (fun _ => 0)))] := hD
  refine W.eq (g2 := F0 m 901 ls [.int (-2), .int (-2)]) rfl ?_
  refine lv_icmp_eq (tgt := 2465) hx hb dL_law_901 (by decide) (fun _ => ?_) (fun h => absurd rfl h)
  exact law_end C0 hS (lv_sub hl [0, 1, 2, 3] rfl) (Nat.le_of_ble_eq_true rfl) (Nat.le_of_ble_eq_true rfl)
set_option maxRecDepth 100000 in
set_option maxHeartbeats 4000000 in
/-- left -/
theorem law_18 {p : Program} {e : Env} {s : State} {m : MethodId} {below : List Frame} {meth : Method} {c : Code} {l : Launch} {g : GG} {b : Nat} {xs : Nat → Int32} (C0 : lw_At p s m meth c b 6 xs) (hKn : Kn g s) {H : Heap} {locs : List Loc} {ls : Array Slot} {qx qm : Nat} {u v : Nat → Nat} (hP : va_P g.1 vwCl (WX g qx u ++ WM g qm v) H) (hD : va_D (lA s) (WX g qx u ++ WM g qm v)) (hS : va_S (lA s) s.heap H locs) (hl : lv_has ls 4 [(3, .int 0), (2, .ref qm), (1, .ref qx), (0, .ref b)]) : W p l e room_1 s m #[Value.ref b] below meth c H locs 122 12079 (lw_Z below #[Value.ref b] s) (F0 m 906 ls []) := by
  obtain ⟨hx, hb, hr, hml, hown, hts, hX, hbl, hlocks, hgv⟩ := id C0
  have hA : ∀ q : Nat, s.heap.size ≤ q → lA s q := fun _ h => h
  have hbA : ¬ lA s b := Nat.not_le.mpr hbl
  have hB : ∀ w ∈ BIG, w.before #[Value.ref b] s = true := fun w h => hts w (big_in w h)
  have FC : CallFix p m c cL_law 4 s #[Value.ref b] BIG RL := ⟨hx, hb, hml, hown, hB⟩
  have hP : va_P g.1 vwCl [(qx, .inr (11, [.ref (u 0), .ref (u 17), .ref (u 31), .ref (u 32), .ref (u 33), .ref (u 34), .ref (u 35), .ref (u 36), .ref (u 37), .ref (u 38), .ref (u 39)])), (u 17, .inr (0, [.int 0, .int 0, .int 0, .int 0, .int 0, .int 0, .int 0, .int 0, .int 0, .int 0, .ref (u 18), .ref (u 19), .ref (u 20), .ref (u 21), .ref (u 22), .ref (u 23), .ref (u 24), .ref (u 25), .ref (u 26), .ref (u 27)])), (qm, .inr (12, [.int 0, .ref (v 0), .ref (v 1), .ref (v 2), .ref (v 3), .int 0, .ref (v 4), .int 0, .int 0, .int 0, .int 0, .int 0, .int 0, .int (-1), .ref (v 5), .ref (v 6), .int 0, .int 0, .int 0, .ref (v 7), .ref (v 8), .int 0, .int 0, .ref (v 9), .ref (v 10), .ref (v 11), .ref (v 12), .ref (v 13), .ref (v 14)])), (v 0, .inl (g.2 0, 225, .inl (fun _ => 0)))] H := hP.sub [0, 18, 85, 86] rfl
  have hD : va_D (lA s) [(qx, .inr (11, [.ref (u 0), .ref (u 17), .ref (u 31), .ref (u 32), .ref (u 33), .ref (u 34), .ref (u 35), .ref (u 36), .ref (u 37), .ref (u 38), .ref (u 39)])), (u 17, .inr (0, [.int 0, .int 0, .int 0, .int 0, .int 0, .int 0, .int 0, .int 0, .int 0, .int 0, .ref (u 18), .ref (u 19), .ref (u 20), .ref (u 21), .ref (u 22), .ref (u 23), .ref (u 24), .ref (u 25), .ref (u 26), .ref (u 27)])), (qm, .inr (12, [.int 0, .ref (v 0), .ref (v 1), .ref (v 2), .ref (v 3), .int 0, .ref (v 4), .int 0, .int 0, .int 0, .int 0, .int 0, .int 0, .int (-1), .ref (v 5), .ref (v 6), .int 0, .int 0, .int 0, .ref (v 7), .ref (v 8), .int 0, .int 0, .ref (v 9), .ref (v 10), .ref (v 11), .ref (v 12), .ref (v 13), .ref (v 14)])), (v 0, .inl (g.2 0, 225, .inl (fun _ => 0)))] := hD.sub [0, 18, 85, 86] (by decide) rfl
  refine lv_aload_n hx hb dL_law_906 rfl (lv_at hl 2 rfl) ?_
  refine lv_aload_n hx hb dL_law_907 rfl (lv_at hl 3 rfl) ?_
  refine lv_iload_n hx hb dL_law_908 rfl (lv_at hl 0 rfl) ?_
  refine lv_iconst (v := 1) hx hb dL_law_909 (by decide) ?_
  refine lv_iadd hx hb dL_law_910 ?_
  refine tp_i (v := 1) (by decide) ?_
  refine va_sld hx hb hX hbl hbA hS (by unfold vp_in; decide) dL_law_911 ?_
  refine tp_i (v := xs 1) rfl ?_
  refine lv_aload_n hx hb dL_law_912 rfl (lv_at hl 3 rfl) ?_
  refine lv_iload_n hx hb dL_law_913 rfl (lv_at hl 0 rfl) ?_
  refine lv_iconst (v := 2) hx hb dL_law_914 (by decide) ?_
  refine lv_iadd hx hb dL_law_915 ?_
  refine tp_i (v := 2) (by decide) ?_
  refine va_sld hx hb hX hbl hbA hS (by unfold vp_in; decide) dL_law_916 ?_
  refine tp_i (v := xs 2) rfl ?_
  refine call_V (As := [.int (xs 1), .int (xs 2)]) (rest := []) (wr := [(qm, .inr (12, [.int 0, .ref (v 0), .ref (v 1), .ref (v 2), .ref (v 3), .int 0, .ref (v 4), .int 0, .int 0, .int 0, .int 0, .int 0, .int 0, .int (-1), .ref (v 5), .ref (v 6), .int 0, .int 0, .int 0, .ref (v 7), .ref (v 8), .int 0, .int 0, .ref (v 9), .ref (v 10), .ref (v 11), .ref (v 12), .ref (v 13), .ref (v 14)])), (v 0, .inl (g.2 0, 225, .inl (fun _ => 0)))]) FC hKn (c_X11_left l g qx (u 17) (u 0) (u 31) (u 32) (u 33) (u 34) (u 35) (u 36) (u 37) (u 38) (u 39) (u 18) (u 19) (u 20) (u 21) (u 22) (u 23) (u 24) (u 25) (u 26) (u 27) (xs 1) (xs 2)) m_yX11_left b_520 (ci := 11) rfl rfl rfl hP hD hS hA [0, 1] [2, 3] rfl (by decide) rfl (by decide) (by decide) rfl hl.1 rfl (Nat.le_of_ble_eq_true rfl) dL_law_917 ⟨(Nat.le_of_ble_eq_true rfl), (Nat.le_of_ble_eq_true rfl)⟩ ⟨(Nat.le_of_ble_eq_true rfl), (Nat.le_of_ble_eq_true rfl)⟩ (fun u1 H locs _ hP hD hS => ?_)
  have hP : va_P g.1 vwCl [(qm, .inr (12, [.int 0, .ref (v 0), .ref (v 1), .ref (v 2), .ref (v 3), .int 0, .ref (v 4), .int 0, .int 0, .int 0, .int 0, .int 0, .int 0, .int (-1), .ref (v 5), .ref (v 6), .int 0, .int 0, .int 0, .ref (v 7), .ref (v 8), .int 0, .int 0, .ref (v 9), .ref (v 10), .ref (v 11), .ref (v 12), .ref (v 13), .ref (v 14)])), (v 0, .inl (g.2 0, 225, .inl (fun _ => 0))), (qx, .inr (11, [.ref (u 0), .ref (u 17), .ref (u 31), .ref (u 32), .ref (u 33), .ref (u 34), .ref (u 35), .ref (u 36), .ref (u 37), .ref (u 38), .ref (u 39)])), (u 17, .inr (0, [.int 0, .int 0, .int 0, .int 0, .int 0, .int 0, .int 0, .int 0, .int 0, .int 0, .ref (u 18), .ref (u 19), .ref (u 20), .ref (u 21), .ref (u 22), .ref (u 23), .ref (u 24), .ref (u 25), .ref (u 26), .ref (u 27)]))] H := hP
  have hD : va_D (lA s) [(qm, .inr (12, [.int 0, .ref (v 0), .ref (v 1), .ref (v 2), .ref (v 3), .int 0, .ref (v 4), .int 0, .int 0, .int 0, .int 0, .int 0, .int 0, .int (-1), .ref (v 5), .ref (v 6), .int 0, .int 0, .int 0, .ref (v 7), .ref (v 8), .int 0, .int 0, .ref (v 9), .ref (v 10), .ref (v 11), .ref (v 12), .ref (v 13), .ref (v 14)])), (v 0, .inl (g.2 0, 225, .inl (fun _ => 0))), (qx, .inr (11, [.ref (u 0), .ref (u 17), .ref (u 31), .ref (u 32), .ref (u 33), .ref (u 34), .ref (u 35), .ref (u 36), .ref (u 37), .ref (u 38), .ref (u 39)])), (u 17, .inr (0, [.int 0, .int 0, .int 0, .int 0, .int 0, .int 0, .int 0, .int 0, .int 0, .int 0, .ref (u 18), .ref (u 19), .ref (u 20), .ref (u 21), .ref (u 22), .ref (u 23), .ref (u 24), .ref (u 25), .ref (u 26), .ref (u 27)]))] := hD
  refine W.eq (g2 := F0 m 920 ls [.int (-2)]) rfl ?_
  refine lv_aload_n hx hb dL_law_920 rfl (lv_at hl 1 rfl) ?_
  refine lv_aload_n hx hb dL_law_921 rfl (lv_at hl 3 rfl) ?_
  refine lv_iload_n hx hb dL_law_922 rfl (lv_at hl 0 rfl) ?_
  refine lv_iconst (v := 1) hx hb dL_law_923 (by decide) ?_
  refine lv_iadd hx hb dL_law_924 ?_
  refine tp_i (v := 1) (by decide) ?_
  refine va_sld hx hb hX hbl hbA hS (by unfold vp_in; decide) dL_law_925 ?_
  refine tp_i (v := xs 1) rfl ?_
  refine lv_aload_n hx hb dL_law_926 rfl (lv_at hl 3 rfl) ?_
  refine lv_iload_n hx hb dL_law_927 rfl (lv_at hl 0 rfl) ?_
  refine lv_iconst (v := 2) hx hb dL_law_928 (by decide) ?_
  refine lv_iadd hx hb dL_law_929 ?_
  refine tp_i (v := 2) (by decide) ?_
  refine va_sld hx hb hX hbl hbA hS (by unfold vp_in; decide) dL_law_930 ?_
  refine tp_i (v := xs 2) rfl ?_
  refine call_V (As := [.int (xs 1), .int (xs 2)]) (rest := [.int (-2)]) (wr := [(qx, .inr (11, [.ref (u 0), .ref (u 17), .ref (u 31), .ref (u 32), .ref (u 33), .ref (u 34), .ref (u 35), .ref (u 36), .ref (u 37), .ref (u 38), .ref (u 39)])), (u 17, .inr (0, [.int 0, .int 0, .int 0, .int 0, .int 0, .int 0, .int 0, .int 0, .int 0, .int 0, .ref (u 18), .ref (u 19), .ref (u 20), .ref (u 21), .ref (u 22), .ref (u 23), .ref (u 24), .ref (u 25), .ref (u 26), .ref (u 27)]))]) FC hKn (c_X12_left l g qm (v 0) (v 1) (v 2) (v 3) (v 4) (v 5) (v 6) (v 7) (v 8) (v 9) (v 10) (v 11) (v 12) (v 13) (v 14) (xs 1) (xs 2)) m_yX12_left b_521 (ci := 12) rfl rfl rfl hP hD hS hA [0, 1] [2, 3] rfl (by decide) rfl (by decide) (by decide) rfl hl.1 rfl (Nat.le_of_ble_eq_true rfl) dL_law_931 ⟨(Nat.le_of_ble_eq_true rfl), (Nat.le_of_ble_eq_true rfl)⟩ ⟨(Nat.le_of_ble_eq_true rfl), (Nat.le_of_ble_eq_true rfl)⟩ (fun u2 H locs _ hP hD hS => ?_)
  have hP : va_P g.1 vwCl [(qx, .inr (11, [.ref (u 0), .ref (u 17), .ref (u 31), .ref (u 32), .ref (u 33), .ref (u 34), .ref (u 35), .ref (u 36), .ref (u 37), .ref (u 38), .ref (u 39)])), (u 17, .inr (0, [.int 0, .int 0, .int 0, .int 0, .int 0, .int 0, .int 0, .int 0, .int 0, .int 0, .ref (u 18), .ref (u 19), .ref (u 20), .ref (u 21), .ref (u 22), .ref (u 23), .ref (u 24), .ref (u 25), .ref (u 26), .ref (u 27)])), (qm, .inr (12, [.int 0, .ref (v 0), .ref (v 1), .ref (v 2), .ref (v 3), .int 0, .ref (v 4), .int 0, .int 0, .int 0, .int 0, .int 0, .int 0, .int (-1), .ref (v 5), .ref (v 6), .int 0, .int 0, .int 0, .ref (v 7), .ref (v 8), .int 0, .int 0, .ref (v 9), .ref (v 10), .ref (v 11), .ref (v 12), .ref (v 13), .ref (v 14)])), (v 0, .inl (g.2 0, 225, .inl (fun _ => 0)))] H := hP
  have hD : va_D (lA s) [(qx, .inr (11, [.ref (u 0), .ref (u 17), .ref (u 31), .ref (u 32), .ref (u 33), .ref (u 34), .ref (u 35), .ref (u 36), .ref (u 37), .ref (u 38), .ref (u 39)])), (u 17, .inr (0, [.int 0, .int 0, .int 0, .int 0, .int 0, .int 0, .int 0, .int 0, .int 0, .int 0, .ref (u 18), .ref (u 19), .ref (u 20), .ref (u 21), .ref (u 22), .ref (u 23), .ref (u 24), .ref (u 25), .ref (u 26), .ref (u 27)])), (qm, .inr (12, [.int 0, .ref (v 0), .ref (v 1), .ref (v 2), .ref (v 3), .int 0, .ref (v 4), .int 0, .int 0, .int 0, .int 0, .int 0, .int 0, .int (-1), .ref (v 5), .ref (v 6), .int 0, .int 0, .int 0, .ref (v 7), .ref (v 8), .int 0, .int 0, .ref (v 9), .ref (v 10), .ref (v 11), .ref (v 12), .ref (v 13), .ref (v 14)])), (v 0, .inl (g.2 0, 225, .inl (fun _ => 0)))] := hD
  refine W.eq (g2 := F0 m 934 ls [.int (-2), .int (-2)]) rfl ?_
  refine lv_icmp_eq (tgt := 2465) hx hb dL_law_934 (by decide) (fun _ => ?_) (fun h => absurd rfl h)
  exact law_end C0 hS (lv_sub hl [0, 1, 2, 3] rfl) (Nat.le_of_ble_eq_true rfl) (Nat.le_of_ble_eq_true rfl)
set_option maxRecDepth 100000 in
set_option maxHeartbeats 4000000 in
/-- lies -/
theorem law_19 {p : Program} {e : Env} {s : State} {m : MethodId} {below : List Frame} {meth : Method} {c : Code} {l : Launch} {g : GG} {b : Nat} {xs : Nat → Int32} (C0 : lw_At p s m meth c b 6 xs) (hKn : Kn g s) {H : Heap} {locs : List Loc} {ls : Array Slot} {qx qm : Nat} {u v : Nat → Nat} (hP : va_P g.1 vwCl (WX g qx u ++ WM g qm v) H) (hD : va_D (lA s) (WX g qx u ++ WM g qm v)) (hS : va_S (lA s) s.heap H locs) (hl : lv_has ls 4 [(3, .int 0), (2, .ref qm), (1, .ref qx), (0, .ref b)]) : W p l e room_1 s m #[Value.ref b] below meth c H locs 122 12079 (lw_Z below #[Value.ref b] s) (F0 m 939 ls []) := by
  obtain ⟨hx, hb, hr, hml, hown, hts, hX, hbl, hlocks, hgv⟩ := id C0
  have hA : ∀ q : Nat, s.heap.size ≤ q → lA s q := fun _ h => h
  have hbA : ¬ lA s b := Nat.not_le.mpr hbl
  have hB : ∀ w ∈ BIG, w.before #[Value.ref b] s = true := fun w h => hts w (big_in w h)
  have FC : CallFix p m c cL_law 4 s #[Value.ref b] BIG RL := ⟨hx, hb, hml, hown, hB⟩
  have hP : va_P g.1 vwCl [(qx, .inr (11, [.ref (u 0), .ref (u 17), .ref (u 31), .ref (u 32), .ref (u 33), .ref (u 34), .ref (u 35), .ref (u 36), .ref (u 37), .ref (u 38), .ref (u 39)])), (u 17, .inr (0, [.int 0, .int 0, .int 0, .int 0, .int 0, .int 0, .int 0, .int 0, .int 0, .int 0, .ref (u 18), .ref (u 19), .ref (u 20), .ref (u 21), .ref (u 22), .ref (u 23), .ref (u 24), .ref (u 25), .ref (u 26), .ref (u 27)])), (qm, .inr (12, [.int 0, .ref (v 0), .ref (v 1), .ref (v 2), .ref (v 3), .int 0, .ref (v 4), .int 0, .int 0, .int 0, .int 0, .int 0, .int 0, .int (-1), .ref (v 5), .ref (v 6), .int 0, .int 0, .int 0, .ref (v 7), .ref (v 8), .int 0, .int 0, .ref (v 9), .ref (v 10), .ref (v 11), .ref (v 12), .ref (v 13), .ref (v 14)])), (v 0, .inl (g.2 0, 225, .inl (fun _ => 0)))] H := hP.sub [0, 18, 85, 86] rfl
  have hD : va_D (lA s) [(qx, .inr (11, [.ref (u 0), .ref (u 17), .ref (u 31), .ref (u 32), .ref (u 33), .ref (u 34), .ref (u 35), .ref (u 36), .ref (u 37), .ref (u 38), .ref (u 39)])), (u 17, .inr (0, [.int 0, .int 0, .int 0, .int 0, .int 0, .int 0, .int 0, .int 0, .int 0, .int 0, .ref (u 18), .ref (u 19), .ref (u 20), .ref (u 21), .ref (u 22), .ref (u 23), .ref (u 24), .ref (u 25), .ref (u 26), .ref (u 27)])), (qm, .inr (12, [.int 0, .ref (v 0), .ref (v 1), .ref (v 2), .ref (v 3), .int 0, .ref (v 4), .int 0, .int 0, .int 0, .int 0, .int 0, .int 0, .int (-1), .ref (v 5), .ref (v 6), .int 0, .int 0, .int 0, .ref (v 7), .ref (v 8), .int 0, .int 0, .ref (v 9), .ref (v 10), .ref (v 11), .ref (v 12), .ref (v 13), .ref (v 14)])), (v 0, .inl (g.2 0, 225, .inl (fun _ => 0)))] := hD.sub [0, 18, 85, 86] (by decide) rfl
  refine lv_aload_n hx hb dL_law_939 rfl (lv_at hl 2 rfl) ?_
  refine lv_aload_n hx hb dL_law_940 rfl (lv_at hl 3 rfl) ?_
  refine lv_iload_n hx hb dL_law_941 rfl (lv_at hl 0 rfl) ?_
  refine lv_iconst (v := 1) hx hb dL_law_942 (by decide) ?_
  refine lv_iadd hx hb dL_law_943 ?_
  refine tp_i (v := 1) (by decide) ?_
  refine va_sld hx hb hX hbl hbA hS (by unfold vp_in; decide) dL_law_944 ?_
  refine tp_i (v := xs 1) rfl ?_
  refine call_V (As := [.int (xs 1)]) (rest := []) (wr := [(qm, .inr (12, [.int 0, .ref (v 0), .ref (v 1), .ref (v 2), .ref (v 3), .int 0, .ref (v 4), .int 0, .int 0, .int 0, .int 0, .int 0, .int 0, .int (-1), .ref (v 5), .ref (v 6), .int 0, .int 0, .int 0, .ref (v 7), .ref (v 8), .int 0, .int 0, .ref (v 9), .ref (v 10), .ref (v 11), .ref (v 12), .ref (v 13), .ref (v 14)])), (v 0, .inl (g.2 0, 225, .inl (fun _ => 0)))]) FC hKn (c_X11_lies l g qx (u 17) (u 0) (u 31) (u 32) (u 33) (u 34) (u 35) (u 36) (u 37) (u 38) (u 39) (u 18) (u 19) (u 20) (u 21) (u 22) (u 23) (u 24) (u 25) (u 26) (u 27) (xs 1)) m_yX11_lies b_522 (ci := 11) rfl rfl rfl hP hD hS hA [0, 1] [2, 3] rfl (by decide) rfl (by decide) (by decide) rfl hl.1 rfl (Nat.le_of_ble_eq_true rfl) dL_law_945 ⟨(Nat.le_of_ble_eq_true rfl), (Nat.le_of_ble_eq_true rfl)⟩ ⟨(Nat.le_of_ble_eq_true rfl), (Nat.le_of_ble_eq_true rfl)⟩ (fun u1 H locs _ hP hD hS => ?_)
  have hP : va_P g.1 vwCl [(qm, .inr (12, [.int 0, .ref (v 0), .ref (v 1), .ref (v 2), .ref (v 3), .int 0, .ref (v 4), .int 0, .int 0, .int 0, .int 0, .int 0, .int 0, .int (-1), .ref (v 5), .ref (v 6), .int 0, .int 0, .int 0, .ref (v 7), .ref (v 8), .int 0, .int 0, .ref (v 9), .ref (v 10), .ref (v 11), .ref (v 12), .ref (v 13), .ref (v 14)])), (v 0, .inl (g.2 0, 225, .inl (fun _ => 0))), (qx, .inr (11, [.ref (u 0), .ref (u 17), .ref (u 31), .ref (u 32), .ref (u 33), .ref (u 34), .ref (u 35), .ref (u 36), .ref (u 37), .ref (u 38), .ref (u 39)])), (u 17, .inr (0, [.int 0, .int 0, .int 0, .int 0, .int 0, .int 0, .int 0, .int 0, .int 0, .int 0, .ref (u 18), .ref (u 19), .ref (u 20), .ref (u 21), .ref (u 22), .ref (u 23), .ref (u 24), .ref (u 25), .ref (u 26), .ref (u 27)]))] H := hP
  have hD : va_D (lA s) [(qm, .inr (12, [.int 0, .ref (v 0), .ref (v 1), .ref (v 2), .ref (v 3), .int 0, .ref (v 4), .int 0, .int 0, .int 0, .int 0, .int 0, .int 0, .int (-1), .ref (v 5), .ref (v 6), .int 0, .int 0, .int 0, .ref (v 7), .ref (v 8), .int 0, .int 0, .ref (v 9), .ref (v 10), .ref (v 11), .ref (v 12), .ref (v 13), .ref (v 14)])), (v 0, .inl (g.2 0, 225, .inl (fun _ => 0))), (qx, .inr (11, [.ref (u 0), .ref (u 17), .ref (u 31), .ref (u 32), .ref (u 33), .ref (u 34), .ref (u 35), .ref (u 36), .ref (u 37), .ref (u 38), .ref (u 39)])), (u 17, .inr (0, [.int 0, .int 0, .int 0, .int 0, .int 0, .int 0, .int 0, .int 0, .int 0, .int 0, .ref (u 18), .ref (u 19), .ref (u 20), .ref (u 21), .ref (u 22), .ref (u 23), .ref (u 24), .ref (u 25), .ref (u 26), .ref (u 27)]))] := hD
  refine W.eq (g2 := F0 m 948 ls [.int (-2)]) rfl ?_
  refine lv_aload_n hx hb dL_law_948 rfl (lv_at hl 1 rfl) ?_
  refine lv_aload_n hx hb dL_law_949 rfl (lv_at hl 3 rfl) ?_
  refine lv_iload_n hx hb dL_law_950 rfl (lv_at hl 0 rfl) ?_
  refine lv_iconst (v := 1) hx hb dL_law_951 (by decide) ?_
  refine lv_iadd hx hb dL_law_952 ?_
  refine tp_i (v := 1) (by decide) ?_
  refine va_sld hx hb hX hbl hbA hS (by unfold vp_in; decide) dL_law_953 ?_
  refine tp_i (v := xs 1) rfl ?_
  refine call_V (As := [.int (xs 1)]) (rest := [.int (-2)]) (wr := [(qx, .inr (11, [.ref (u 0), .ref (u 17), .ref (u 31), .ref (u 32), .ref (u 33), .ref (u 34), .ref (u 35), .ref (u 36), .ref (u 37), .ref (u 38), .ref (u 39)])), (u 17, .inr (0, [.int 0, .int 0, .int 0, .int 0, .int 0, .int 0, .int 0, .int 0, .int 0, .int 0, .ref (u 18), .ref (u 19), .ref (u 20), .ref (u 21), .ref (u 22), .ref (u 23), .ref (u 24), .ref (u 25), .ref (u 26), .ref (u 27)]))]) FC hKn (c_X12_lies l g qm (v 0) (v 1) (v 2) (v 3) (v 4) (v 5) (v 6) (v 7) (v 8) (v 9) (v 10) (v 11) (v 12) (v 13) (v 14) (xs 1)) m_yX12_lies b_523 (ci := 12) rfl rfl rfl hP hD hS hA [0, 1] [2, 3] rfl (by decide) rfl (by decide) (by decide) rfl hl.1 rfl (Nat.le_of_ble_eq_true rfl) dL_law_954 ⟨(Nat.le_of_ble_eq_true rfl), (Nat.le_of_ble_eq_true rfl)⟩ ⟨(Nat.le_of_ble_eq_true rfl), (Nat.le_of_ble_eq_true rfl)⟩ (fun u2 H locs _ hP hD hS => ?_)
  have hP : va_P g.1 vwCl [(qx, .inr (11, [.ref (u 0), .ref (u 17), .ref (u 31), .ref (u 32), .ref (u 33), .ref (u 34), .ref (u 35), .ref (u 36), .ref (u 37), .ref (u 38), .ref (u 39)])), (u 17, .inr (0, [.int 0, .int 0, .int 0, .int 0, .int 0, .int 0, .int 0, .int 0, .int 0, .int 0, .ref (u 18), .ref (u 19), .ref (u 20), .ref (u 21), .ref (u 22), .ref (u 23), .ref (u 24), .ref (u 25), .ref (u 26), .ref (u 27)])), (qm, .inr (12, [.int 0, .ref (v 0), .ref (v 1), .ref (v 2), .ref (v 3), .int 0, .ref (v 4), .int 0, .int 0, .int 0, .int 0, .int 0, .int 0, .int (-1), .ref (v 5), .ref (v 6), .int 0, .int 0, .int 0, .ref (v 7), .ref (v 8), .int 0, .int 0, .ref (v 9), .ref (v 10), .ref (v 11), .ref (v 12), .ref (v 13), .ref (v 14)])), (v 0, .inl (g.2 0, 225, .inl (fun _ => 0)))] H := hP
  have hD : va_D (lA s) [(qx, .inr (11, [.ref (u 0), .ref (u 17), .ref (u 31), .ref (u 32), .ref (u 33), .ref (u 34), .ref (u 35), .ref (u 36), .ref (u 37), .ref (u 38), .ref (u 39)])), (u 17, .inr (0, [.int 0, .int 0, .int 0, .int 0, .int 0, .int 0, .int 0, .int 0, .int 0, .int 0, .ref (u 18), .ref (u 19), .ref (u 20), .ref (u 21), .ref (u 22), .ref (u 23), .ref (u 24), .ref (u 25), .ref (u 26), .ref (u 27)])), (qm, .inr (12, [.int 0, .ref (v 0), .ref (v 1), .ref (v 2), .ref (v 3), .int 0, .ref (v 4), .int 0, .int 0, .int 0, .int 0, .int 0, .int 0, .int (-1), .ref (v 5), .ref (v 6), .int 0, .int 0, .int 0, .ref (v 7), .ref (v 8), .int 0, .int 0, .ref (v 9), .ref (v 10), .ref (v 11), .ref (v 12), .ref (v 13), .ref (v 14)])), (v 0, .inl (g.2 0, 225, .inl (fun _ => 0)))] := hD
  refine W.eq (g2 := F0 m 957 ls [.int (-2), .int (-2)]) rfl ?_
  refine lv_icmp_eq (tgt := 2465) hx hb dL_law_957 (by decide) (fun _ => ?_) (fun h => absurd rfl h)
  exact law_end C0 hS (lv_sub hl [0, 1, 2, 3] rfl) (Nat.le_of_ble_eq_true rfl) (Nat.le_of_ble_eq_true rfl)
set_option maxRecDepth 100000 in
set_option maxHeartbeats 4000000 in
/-- shames -/
theorem law_20 {p : Program} {e : Env} {s : State} {m : MethodId} {below : List Frame} {meth : Method} {c : Code} {l : Launch} {g : GG} {b : Nat} {xs : Nat → Int32} (C0 : lw_At p s m meth c b 6 xs) (hKn : Kn g s) {H : Heap} {locs : List Loc} {ls : Array Slot} {qx qm : Nat} {u v : Nat → Nat} (hP : va_P g.1 vwCl (WX g qx u ++ WM g qm v) H) (hD : va_D (lA s) (WX g qx u ++ WM g qm v)) (hS : va_S (lA s) s.heap H locs) (hl : lv_has ls 4 [(3, .int 0), (2, .ref qm), (1, .ref qx), (0, .ref b)]) : W p l e room_1 s m #[Value.ref b] below meth c H locs 122 12079 (lw_Z below #[Value.ref b] s) (F0 m 962 ls []) := by
  obtain ⟨hx, hb, hr, hml, hown, hts, hX, hbl, hlocks, hgv⟩ := id C0
  have hA : ∀ q : Nat, s.heap.size ≤ q → lA s q := fun _ h => h
  have hbA : ¬ lA s b := Nat.not_le.mpr hbl
  have hB : ∀ w ∈ BIG, w.before #[Value.ref b] s = true := fun w h => hts w (big_in w h)
  have FC : CallFix p m c cL_law 4 s #[Value.ref b] BIG RL := ⟨hx, hb, hml, hown, hB⟩
  have hP : va_P g.1 vwCl [(qx, .inr (11, [.ref (u 0), .ref (u 17), .ref (u 31), .ref (u 32), .ref (u 33), .ref (u 34), .ref (u 35), .ref (u 36), .ref (u 37), .ref (u 38), .ref (u 39)])), (u 17, .inr (0, [.int 0, .int 0, .int 0, .int 0, .int 0, .int 0, .int 0, .int 0, .int 0, .int 0, .ref (u 18), .ref (u 19), .ref (u 20), .ref (u 21), .ref (u 22), .ref (u 23), .ref (u 24), .ref (u 25), .ref (u 26), .ref (u 27)])), (qm, .inr (12, [.int 0, .ref (v 0), .ref (v 1), .ref (v 2), .ref (v 3), .int 0, .ref (v 4), .int 0, .int 0, .int 0, .int 0, .int 0, .int 0, .int (-1), .ref (v 5), .ref (v 6), .int 0, .int 0, .int 0, .ref (v 7), .ref (v 8), .int 0, .int 0, .ref (v 9), .ref (v 10), .ref (v 11), .ref (v 12), .ref (v 13), .ref (v 14)])), (v 0, .inl (g.2 0, 225, .inl (fun _ => 0)))] H := hP.sub [0, 18, 85, 86] rfl
  have hD : va_D (lA s) [(qx, .inr (11, [.ref (u 0), .ref (u 17), .ref (u 31), .ref (u 32), .ref (u 33), .ref (u 34), .ref (u 35), .ref (u 36), .ref (u 37), .ref (u 38), .ref (u 39)])), (u 17, .inr (0, [.int 0, .int 0, .int 0, .int 0, .int 0, .int 0, .int 0, .int 0, .int 0, .int 0, .ref (u 18), .ref (u 19), .ref (u 20), .ref (u 21), .ref (u 22), .ref (u 23), .ref (u 24), .ref (u 25), .ref (u 26), .ref (u 27)])), (qm, .inr (12, [.int 0, .ref (v 0), .ref (v 1), .ref (v 2), .ref (v 3), .int 0, .ref (v 4), .int 0, .int 0, .int 0, .int 0, .int 0, .int 0, .int (-1), .ref (v 5), .ref (v 6), .int 0, .int 0, .int 0, .ref (v 7), .ref (v 8), .int 0, .int 0, .ref (v 9), .ref (v 10), .ref (v 11), .ref (v 12), .ref (v 13), .ref (v 14)])), (v 0, .inl (g.2 0, 225, .inl (fun _ => 0)))] := hD.sub [0, 18, 85, 86] (by decide) rfl
  refine lv_aload_n hx hb dL_law_962 rfl (lv_at hl 2 rfl) ?_
  refine lv_aload_n hx hb dL_law_963 rfl (lv_at hl 3 rfl) ?_
  refine lv_iload_n hx hb dL_law_964 rfl (lv_at hl 0 rfl) ?_
  refine lv_iconst (v := 1) hx hb dL_law_965 (by decide) ?_
  refine lv_iadd hx hb dL_law_966 ?_
  refine tp_i (v := 1) (by decide) ?_
  refine va_sld hx hb hX hbl hbA hS (by unfold vp_in; decide) dL_law_967 ?_
  refine tp_i (v := xs 1) rfl ?_
  refine call_V (As := [.int (xs 1)]) (rest := []) (wr := [(qm, .inr (12, [.int 0, .ref (v 0), .ref (v 1), .ref (v 2), .ref (v 3), .int 0, .ref (v 4), .int 0, .int 0, .int 0, .int 0, .int 0, .int 0, .int (-1), .ref (v 5), .ref (v 6), .int 0, .int 0, .int 0, .ref (v 7), .ref (v 8), .int 0, .int 0, .ref (v 9), .ref (v 10), .ref (v 11), .ref (v 12), .ref (v 13), .ref (v 14)])), (v 0, .inl (g.2 0, 225, .inl (fun _ => 0)))]) FC hKn (c_X11_shames l g qx (u 17) (u 0) (u 31) (u 32) (u 33) (u 34) (u 35) (u 36) (u 37) (u 38) (u 39) (u 18) (u 19) (u 20) (u 21) (u 22) (u 23) (u 24) (u 25) (u 26) (u 27) (xs 1)) m_yX11_shames b_524 (ci := 11) rfl rfl rfl hP hD hS hA [0, 1] [2, 3] rfl (by decide) rfl (by decide) (by decide) rfl hl.1 rfl (Nat.le_of_ble_eq_true rfl) dL_law_968 ⟨(Nat.le_of_ble_eq_true rfl), (Nat.le_of_ble_eq_true rfl)⟩ ⟨(Nat.le_of_ble_eq_true rfl), (Nat.le_of_ble_eq_true rfl)⟩ (fun u1 H locs _ hP hD hS => ?_)
  have hP : va_P g.1 vwCl [(qm, .inr (12, [.int 0, .ref (v 0), .ref (v 1), .ref (v 2), .ref (v 3), .int 0, .ref (v 4), .int 0, .int 0, .int 0, .int 0, .int 0, .int 0, .int (-1), .ref (v 5), .ref (v 6), .int 0, .int 0, .int 0, .ref (v 7), .ref (v 8), .int 0, .int 0, .ref (v 9), .ref (v 10), .ref (v 11), .ref (v 12), .ref (v 13), .ref (v 14)])), (v 0, .inl (g.2 0, 225, .inl (fun _ => 0))), (qx, .inr (11, [.ref (u 0), .ref (u 17), .ref (u 31), .ref (u 32), .ref (u 33), .ref (u 34), .ref (u 35), .ref (u 36), .ref (u 37), .ref (u 38), .ref (u 39)])), (u 17, .inr (0, [.int 0, .int 0, .int 0, .int 0, .int 0, .int 0, .int 0, .int 0, .int 0, .int 0, .ref (u 18), .ref (u 19), .ref (u 20), .ref (u 21), .ref (u 22), .ref (u 23), .ref (u 24), .ref (u 25), .ref (u 26), .ref (u 27)]))] H := hP
  have hD : va_D (lA s) [(qm, .inr (12, [.int 0, .ref (v 0), .ref (v 1), .ref (v 2), .ref (v 3), .int 0, .ref (v 4), .int 0, .int 0, .int 0, .int 0, .int 0, .int 0, .int (-1), .ref (v 5), .ref (v 6), .int 0, .int 0, .int 0, .ref (v 7), .ref (v 8), .int 0, .int 0, .ref (v 9), .ref (v 10), .ref (v 11), .ref (v 12), .ref (v 13), .ref (v 14)])), (v 0, .inl (g.2 0, 225, .inl (fun _ => 0))), (qx, .inr (11, [.ref (u 0), .ref (u 17), .ref (u 31), .ref (u 32), .ref (u 33), .ref (u 34), .ref (u 35), .ref (u 36), .ref (u 37), .ref (u 38), .ref (u 39)])), (u 17, .inr (0, [.int 0, .int 0, .int 0, .int 0, .int 0, .int 0, .int 0, .int 0, .int 0, .int 0, .ref (u 18), .ref (u 19), .ref (u 20), .ref (u 21), .ref (u 22), .ref (u 23), .ref (u 24), .ref (u 25), .ref (u 26), .ref (u 27)]))] := hD
  refine W.eq (g2 := F0 m 971 ls [.int (-2)]) rfl ?_
  refine lv_aload_n hx hb dL_law_971 rfl (lv_at hl 1 rfl) ?_
  refine lv_aload_n hx hb dL_law_972 rfl (lv_at hl 3 rfl) ?_
  refine lv_iload_n hx hb dL_law_973 rfl (lv_at hl 0 rfl) ?_
  refine lv_iconst (v := 1) hx hb dL_law_974 (by decide) ?_
  refine lv_iadd hx hb dL_law_975 ?_
  refine tp_i (v := 1) (by decide) ?_
  refine va_sld hx hb hX hbl hbA hS (by unfold vp_in; decide) dL_law_976 ?_
  refine tp_i (v := xs 1) rfl ?_
  refine call_V (As := [.int (xs 1)]) (rest := [.int (-2)]) (wr := [(qx, .inr (11, [.ref (u 0), .ref (u 17), .ref (u 31), .ref (u 32), .ref (u 33), .ref (u 34), .ref (u 35), .ref (u 36), .ref (u 37), .ref (u 38), .ref (u 39)])), (u 17, .inr (0, [.int 0, .int 0, .int 0, .int 0, .int 0, .int 0, .int 0, .int 0, .int 0, .int 0, .ref (u 18), .ref (u 19), .ref (u 20), .ref (u 21), .ref (u 22), .ref (u 23), .ref (u 24), .ref (u 25), .ref (u 26), .ref (u 27)]))]) FC hKn (c_X12_shames l g qm (v 0) (v 1) (v 2) (v 3) (v 4) (v 5) (v 6) (v 7) (v 8) (v 9) (v 10) (v 11) (v 12) (v 13) (v 14) (xs 1)) m_yX12_shames b_525 (ci := 12) rfl rfl rfl hP hD hS hA [0, 1] [2, 3] rfl (by decide) rfl (by decide) (by decide) rfl hl.1 rfl (Nat.le_of_ble_eq_true rfl) dL_law_977 ⟨(Nat.le_of_ble_eq_true rfl), (Nat.le_of_ble_eq_true rfl)⟩ ⟨(Nat.le_of_ble_eq_true rfl), (Nat.le_of_ble_eq_true rfl)⟩ (fun u2 H locs _ hP hD hS => ?_)
  have hP : va_P g.1 vwCl [(qx, .inr (11, [.ref (u 0), .ref (u 17), .ref (u 31), .ref (u 32), .ref (u 33), .ref (u 34), .ref (u 35), .ref (u 36), .ref (u 37), .ref (u 38), .ref (u 39)])), (u 17, .inr (0, [.int 0, .int 0, .int 0, .int 0, .int 0, .int 0, .int 0, .int 0, .int 0, .int 0, .ref (u 18), .ref (u 19), .ref (u 20), .ref (u 21), .ref (u 22), .ref (u 23), .ref (u 24), .ref (u 25), .ref (u 26), .ref (u 27)])), (qm, .inr (12, [.int 0, .ref (v 0), .ref (v 1), .ref (v 2), .ref (v 3), .int 0, .ref (v 4), .int 0, .int 0, .int 0, .int 0, .int 0, .int 0, .int (-1), .ref (v 5), .ref (v 6), .int 0, .int 0, .int 0, .ref (v 7), .ref (v 8), .int 0, .int 0, .ref (v 9), .ref (v 10), .ref (v 11), .ref (v 12), .ref (v 13), .ref (v 14)])), (v 0, .inl (g.2 0, 225, .inl (fun _ => 0)))] H := hP
  have hD : va_D (lA s) [(qx, .inr (11, [.ref (u 0), .ref (u 17), .ref (u 31), .ref (u 32), .ref (u 33), .ref (u 34), .ref (u 35), .ref (u 36), .ref (u 37), .ref (u 38), .ref (u 39)])), (u 17, .inr (0, [.int 0, .int 0, .int 0, .int 0, .int 0, .int 0, .int 0, .int 0, .int 0, .int 0, .ref (u 18), .ref (u 19), .ref (u 20), .ref (u 21), .ref (u 22), .ref (u 23), .ref (u 24), .ref (u 25), .ref (u 26), .ref (u 27)])), (qm, .inr (12, [.int 0, .ref (v 0), .ref (v 1), .ref (v 2), .ref (v 3), .int 0, .ref (v 4), .int 0, .int 0, .int 0, .int 0, .int 0, .int 0, .int (-1), .ref (v 5), .ref (v 6), .int 0, .int 0, .int 0, .ref (v 7), .ref (v 8), .int 0, .int 0, .ref (v 9), .ref (v 10), .ref (v 11), .ref (v 12), .ref (v 13), .ref (v 14)])), (v 0, .inl (g.2 0, 225, .inl (fun _ => 0)))] := hD
  refine W.eq (g2 := F0 m 980 ls [.int (-2), .int (-2)]) rfl ?_
  refine lv_icmp_eq (tgt := 2465) hx hb dL_law_980 (by decide) (fun _ => ?_) (fun h => absurd rfl h)
  exact law_end C0 hS (lv_sub hl [0, 1, 2, 3] rfl) (Nat.le_of_ble_eq_true rfl) (Nat.le_of_ble_eq_true rfl)
set_option maxRecDepth 100000 in
set_option maxHeartbeats 4000000 in
/-- known -/
theorem law_21 {p : Program} {e : Env} {s : State} {m : MethodId} {below : List Frame} {meth : Method} {c : Code} {l : Launch} {g : GG} {b : Nat} {xs : Nat → Int32} (C0 : lw_At p s m meth c b 6 xs) (hKn : Kn g s) {H : Heap} {locs : List Loc} {ls : Array Slot} {qx qm : Nat} {u v : Nat → Nat} (hP : va_P g.1 vwCl (WX g qx u ++ WM g qm v) H) (hD : va_D (lA s) (WX g qx u ++ WM g qm v)) (hS : va_S (lA s) s.heap H locs) (hl : lv_has ls 4 [(3, .int 0), (2, .ref qm), (1, .ref qx), (0, .ref b)]) : W p l e room_1 s m #[Value.ref b] below meth c H locs 122 12079 (lw_Z below #[Value.ref b] s) (F0 m 985 ls []) := by
  obtain ⟨hx, hb, hr, hml, hown, hts, hX, hbl, hlocks, hgv⟩ := id C0
  have hA : ∀ q : Nat, s.heap.size ≤ q → lA s q := fun _ h => h
  have hbA : ¬ lA s b := Nat.not_le.mpr hbl
  have hB : ∀ w ∈ BIG, w.before #[Value.ref b] s = true := fun w h => hts w (big_in w h)
  have FC : CallFix p m c cL_law 4 s #[Value.ref b] BIG RL := ⟨hx, hb, hml, hown, hB⟩
  have hP : va_P g.1 vwCl [(qx, .inr (11, [.ref (u 0), .ref (u 17), .ref (u 31), .ref (u 32), .ref (u 33), .ref (u 34), .ref (u 35), .ref (u 36), .ref (u 37), .ref (u 38), .ref (u 39)])), (u 17, .inr (0, [.int 0, .int 0, .int 0, .int 0, .int 0, .int 0, .int 0, .int 0, .int 0, .int 0, .ref (u 18), .ref (u 19), .ref (u 20), .ref (u 21), .ref (u 22), .ref (u 23), .ref (u 24), .ref (u 25), .ref (u 26), .ref (u 27)])), (qm, .inr (12, [.int 0, .ref (v 0), .ref (v 1), .ref (v 2), .ref (v 3), .int 0, .ref (v 4), .int 0, .int 0, .int 0, .int 0, .int 0, .int 0, .int (-1), .ref (v 5), .ref (v 6), .int 0, .int 0, .int 0, .ref (v 7), .ref (v 8), .int 0, .int 0, .ref (v 9), .ref (v 10), .ref (v 11), .ref (v 12), .ref (v 13), .ref (v 14)])), (v 0, .inl (g.2 0, 225, .inl (fun _ => 0)))] H := hP.sub [0, 18, 85, 86] rfl
  have hD : va_D (lA s) [(qx, .inr (11, [.ref (u 0), .ref (u 17), .ref (u 31), .ref (u 32), .ref (u 33), .ref (u 34), .ref (u 35), .ref (u 36), .ref (u 37), .ref (u 38), .ref (u 39)])), (u 17, .inr (0, [.int 0, .int 0, .int 0, .int 0, .int 0, .int 0, .int 0, .int 0, .int 0, .int 0, .ref (u 18), .ref (u 19), .ref (u 20), .ref (u 21), .ref (u 22), .ref (u 23), .ref (u 24), .ref (u 25), .ref (u 26), .ref (u 27)])), (qm, .inr (12, [.int 0, .ref (v 0), .ref (v 1), .ref (v 2), .ref (v 3), .int 0, .ref (v 4), .int 0, .int 0, .int 0, .int 0, .int 0, .int 0, .int (-1), .ref (v 5), .ref (v 6), .int 0, .int 0, .int 0, .ref (v 7), .ref (v 8), .int 0, .int 0, .ref (v 9), .ref (v 10), .ref (v 11), .ref (v 12), .ref (v 13), .ref (v 14)])), (v 0, .inl (g.2 0, 225, .inl (fun _ => 0)))] := hD.sub [0, 18, 85, 86] (by decide) rfl
  refine lv_aload_n hx hb dL_law_985 rfl (lv_at hl 2 rfl) ?_
  refine lv_aload_n hx hb dL_law_986 rfl (lv_at hl 3 rfl) ?_
  refine lv_iload_n hx hb dL_law_987 rfl (lv_at hl 0 rfl) ?_
  refine lv_iconst (v := 1) hx hb dL_law_988 (by decide) ?_
  refine lv_iadd hx hb dL_law_989 ?_
  refine tp_i (v := 1) (by decide) ?_
  refine va_sld hx hb hX hbl hbA hS (by unfold vp_in; decide) dL_law_990 ?_
  refine tp_i (v := xs 1) rfl ?_
  refine call_V (As := [.int (xs 1)]) (rest := []) (wr := [(qm, .inr (12, [.int 0, .ref (v 0), .ref (v 1), .ref (v 2), .ref (v 3), .int 0, .ref (v 4), .int 0, .int 0, .int 0, .int 0, .int 0, .int 0, .int (-1), .ref (v 5), .ref (v 6), .int 0, .int 0, .int 0, .ref (v 7), .ref (v 8), .int 0, .int 0, .ref (v 9), .ref (v 10), .ref (v 11), .ref (v 12), .ref (v 13), .ref (v 14)])), (v 0, .inl (g.2 0, 225, .inl (fun _ => 0)))]) FC hKn (c_X11_known l g qx (u 17) (u 0) (u 31) (u 32) (u 33) (u 34) (u 35) (u 36) (u 37) (u 38) (u 39) (u 18) (u 19) (u 20) (u 21) (u 22) (u 23) (u 24) (u 25) (u 26) (u 27) (xs 1)) m_yX11_known b_526 (ci := 11) rfl rfl rfl hP hD hS hA [0, 1] [2, 3] rfl (by decide) rfl (by decide) (by decide) rfl hl.1 rfl (Nat.le_of_ble_eq_true rfl) dL_law_991 ⟨(Nat.le_of_ble_eq_true rfl), (Nat.le_of_ble_eq_true rfl)⟩ ⟨(Nat.le_of_ble_eq_true rfl), (Nat.le_of_ble_eq_true rfl)⟩ (fun u1 H locs _ hP hD hS => ?_)
  have hP : va_P g.1 vwCl [(qm, .inr (12, [.int 0, .ref (v 0), .ref (v 1), .ref (v 2), .ref (v 3), .int 0, .ref (v 4), .int 0, .int 0, .int 0, .int 0, .int 0, .int 0, .int (-1), .ref (v 5), .ref (v 6), .int 0, .int 0, .int 0, .ref (v 7), .ref (v 8), .int 0, .int 0, .ref (v 9), .ref (v 10), .ref (v 11), .ref (v 12), .ref (v 13), .ref (v 14)])), (v 0, .inl (g.2 0, 225, .inl (fun _ => 0))), (qx, .inr (11, [.ref (u 0), .ref (u 17), .ref (u 31), .ref (u 32), .ref (u 33), .ref (u 34), .ref (u 35), .ref (u 36), .ref (u 37), .ref (u 38), .ref (u 39)])), (u 17, .inr (0, [.int 0, .int 0, .int 0, .int 0, .int 0, .int 0, .int 0, .int 0, .int 0, .int 0, .ref (u 18), .ref (u 19), .ref (u 20), .ref (u 21), .ref (u 22), .ref (u 23), .ref (u 24), .ref (u 25), .ref (u 26), .ref (u 27)]))] H := hP
  have hD : va_D (lA s) [(qm, .inr (12, [.int 0, .ref (v 0), .ref (v 1), .ref (v 2), .ref (v 3), .int 0, .ref (v 4), .int 0, .int 0, .int 0, .int 0, .int 0, .int 0, .int (-1), .ref (v 5), .ref (v 6), .int 0, .int 0, .int 0, .ref (v 7), .ref (v 8), .int 0, .int 0, .ref (v 9), .ref (v 10), .ref (v 11), .ref (v 12), .ref (v 13), .ref (v 14)])), (v 0, .inl (g.2 0, 225, .inl (fun _ => 0))), (qx, .inr (11, [.ref (u 0), .ref (u 17), .ref (u 31), .ref (u 32), .ref (u 33), .ref (u 34), .ref (u 35), .ref (u 36), .ref (u 37), .ref (u 38), .ref (u 39)])), (u 17, .inr (0, [.int 0, .int 0, .int 0, .int 0, .int 0, .int 0, .int 0, .int 0, .int 0, .int 0, .ref (u 18), .ref (u 19), .ref (u 20), .ref (u 21), .ref (u 22), .ref (u 23), .ref (u 24), .ref (u 25), .ref (u 26), .ref (u 27)]))] := hD
  refine W.eq (g2 := F0 m 994 ls [.int (-2)]) rfl ?_
  refine lv_aload_n hx hb dL_law_994 rfl (lv_at hl 1 rfl) ?_
  refine lv_aload_n hx hb dL_law_995 rfl (lv_at hl 3 rfl) ?_
  refine lv_iload_n hx hb dL_law_996 rfl (lv_at hl 0 rfl) ?_
  refine lv_iconst (v := 1) hx hb dL_law_997 (by decide) ?_
  refine lv_iadd hx hb dL_law_998 ?_
  refine tp_i (v := 1) (by decide) ?_
  refine va_sld hx hb hX hbl hbA hS (by unfold vp_in; decide) dL_law_999 ?_
  refine tp_i (v := xs 1) rfl ?_
  refine call_V (As := [.int (xs 1)]) (rest := [.int (-2)]) (wr := [(qx, .inr (11, [.ref (u 0), .ref (u 17), .ref (u 31), .ref (u 32), .ref (u 33), .ref (u 34), .ref (u 35), .ref (u 36), .ref (u 37), .ref (u 38), .ref (u 39)])), (u 17, .inr (0, [.int 0, .int 0, .int 0, .int 0, .int 0, .int 0, .int 0, .int 0, .int 0, .int 0, .ref (u 18), .ref (u 19), .ref (u 20), .ref (u 21), .ref (u 22), .ref (u 23), .ref (u 24), .ref (u 25), .ref (u 26), .ref (u 27)]))]) FC hKn (c_X12_known l g qm (v 0) (v 1) (v 2) (v 3) (v 4) (v 5) (v 6) (v 7) (v 8) (v 9) (v 10) (v 11) (v 12) (v 13) (v 14) (xs 1)) m_yX12_known b_527 (ci := 12) rfl rfl rfl hP hD hS hA [0, 1] [2, 3] rfl (by decide) rfl (by decide) (by decide) rfl hl.1 rfl (Nat.le_of_ble_eq_true rfl) dL_law_1000 ⟨(Nat.le_of_ble_eq_true rfl), (Nat.le_of_ble_eq_true rfl)⟩ ⟨(Nat.le_of_ble_eq_true rfl), (Nat.le_of_ble_eq_true rfl)⟩ (fun u2 H locs _ hP hD hS => ?_)
  have hP : va_P g.1 vwCl [(qx, .inr (11, [.ref (u 0), .ref (u 17), .ref (u 31), .ref (u 32), .ref (u 33), .ref (u 34), .ref (u 35), .ref (u 36), .ref (u 37), .ref (u 38), .ref (u 39)])), (u 17, .inr (0, [.int 0, .int 0, .int 0, .int 0, .int 0, .int 0, .int 0, .int 0, .int 0, .int 0, .ref (u 18), .ref (u 19), .ref (u 20), .ref (u 21), .ref (u 22), .ref (u 23), .ref (u 24), .ref (u 25), .ref (u 26), .ref (u 27)])), (qm, .inr (12, [.int 0, .ref (v 0), .ref (v 1), .ref (v 2), .ref (v 3), .int 0, .ref (v 4), .int 0, .int 0, .int 0, .int 0, .int 0, .int 0, .int (-1), .ref (v 5), .ref (v 6), .int 0, .int 0, .int 0, .ref (v 7), .ref (v 8), .int 0, .int 0, .ref (v 9), .ref (v 10), .ref (v 11), .ref (v 12), .ref (v 13), .ref (v 14)])), (v 0, .inl (g.2 0, 225, .inl (fun _ => 0)))] H := hP
  have hD : va_D (lA s) [(qx, .inr (11, [.ref (u 0), .ref (u 17), .ref (u 31), .ref (u 32), .ref (u 33), .ref (u 34), .ref (u 35), .ref (u 36), .ref (u 37), .ref (u 38), .ref (u 39)])), (u 17, .inr (0, [.int 0, .int 0, .int 0, .int 0, .int 0, .int 0, .int 0, .int 0, .int 0, .int 0, .ref (u 18), .ref (u 19), .ref (u 20), .ref (u 21), .ref (u 22), .ref (u 23), .ref (u 24), .ref (u 25), .ref (u 26), .ref (u 27)])), (qm, .inr (12, [.int 0, .ref (v 0), .ref (v 1), .ref (v 2), .ref (v 3), .int 0, .ref (v 4), .int 0, .int 0, .int 0, .int 0, .int 0, .int 0, .int (-1), .ref (v 5), .ref (v 6), .int 0, .int 0, .int 0, .ref (v 7), .ref (v 8), .int 0, .int 0, .ref (v 9), .ref (v 10), .ref (v 11), .ref (v 12), .ref (v 13), .ref (v 14)])), (v 0, .inl (g.2 0, 225, .inl (fun _ => 0)))] := hD
  refine W.eq (g2 := F0 m 1003 ls [.int (-2), .int (-2)]) rfl ?_
  refine lv_icmp_eq (tgt := 2465) hx hb dL_law_1003 (by decide) (fun _ => ?_) (fun h => absurd rfl h)
  exact law_end C0 hS (lv_sub hl [0, 1, 2, 3] rfl) (Nat.le_of_ble_eq_true rfl) (Nat.le_of_ble_eq_true rfl)
set_option maxRecDepth 100000 in
set_option maxHeartbeats 4000000 in
/-- softer -/
theorem law_22 {p : Program} {e : Env} {s : State} {m : MethodId} {below : List Frame} {meth : Method} {c : Code} {l : Launch} {g : GG} {b : Nat} {xs : Nat → Int32} (C0 : lw_At p s m meth c b 6 xs) (hKn : Kn g s) {H : Heap} {locs : List Loc} {ls : Array Slot} {qx qm : Nat} {u v : Nat → Nat} (hP : va_P g.1 vwCl (WX g qx u ++ WM g qm v) H) (hD : va_D (lA s) (WX g qx u ++ WM g qm v)) (hS : va_S (lA s) s.heap H locs) (hl : lv_has ls 4 [(3, .int 0), (2, .ref qm), (1, .ref qx), (0, .ref b)]) : W p l e room_1 s m #[Value.ref b] below meth c H locs 122 12079 (lw_Z below #[Value.ref b] s) (F0 m 1008 ls []) := by
  obtain ⟨hx, hb, hr, hml, hown, hts, hX, hbl, hlocks, hgv⟩ := id C0
  have hA : ∀ q : Nat, s.heap.size ≤ q → lA s q := fun _ h => h
  have hbA : ¬ lA s b := Nat.not_le.mpr hbl
  have hB : ∀ w ∈ BIG, w.before #[Value.ref b] s = true := fun w h => hts w (big_in w h)
  have FC : CallFix p m c cL_law 4 s #[Value.ref b] BIG RL := ⟨hx, hb, hml, hown, hB⟩
  have hP : va_P g.1 vwCl [(qx, .inr (11, [.ref (u 0), .ref (u 17), .ref (u 31), .ref (u 32), .ref (u 33), .ref (u 34), .ref (u 35), .ref (u 36), .ref (u 37), .ref (u 38), .ref (u 39)])), (u 17, .inr (0, [.int 0, .int 0, .int 0, .int 0, .int 0, .int 0, .int 0, .int 0, .int 0, .int 0, .ref (u 18), .ref (u 19), .ref (u 20), .ref (u 21), .ref (u 22), .ref (u 23), .ref (u 24), .ref (u 25), .ref (u 26), .ref (u 27)])), (qm, .inr (12, [.int 0, .ref (v 0), .ref (v 1), .ref (v 2), .ref (v 3), .int 0, .ref (v 4), .int 0, .int 0, .int 0, .int 0, .int 0, .int 0, .int (-1), .ref (v 5), .ref (v 6), .int 0, .int 0, .int 0, .ref (v 7), .ref (v 8), .int 0, .int 0, .ref (v 9), .ref (v 10), .ref (v 11), .ref (v 12), .ref (v 13), .ref (v 14)])), (v 0, .inl (g.2 0, 225, .inl (fun _ => 0)))] H := hP.sub [0, 18, 85, 86] rfl
  have hD : va_D (lA s) [(qx, .inr (11, [.ref (u 0), .ref (u 17), .ref (u 31), .ref (u 32), .ref (u 33), .ref (u 34), .ref (u 35), .ref (u 36), .ref (u 37), .ref (u 38), .ref (u 39)])), (u 17, .inr (0, [.int 0, .int 0, .int 0, .int 0, .int 0, .int 0, .int 0, .int 0, .int 0, .int 0, .ref (u 18), .ref (u 19), .ref (u 20), .ref (u 21), .ref (u 22), .ref (u 23), .ref (u 24), .ref (u 25), .ref (u 26), .ref (u 27)])), (qm, .inr (12, [.int 0, .ref (v 0), .ref (v 1), .ref (v 2), .ref (v 3), .int 0, .ref (v 4), .int 0, .int 0, .int 0, .int 0, .int 0, .int 0, .int (-1), .ref (v 5), .ref (v 6), .int 0, .int 0, .int 0, .ref (v 7), .ref (v 8), .int 0, .int 0, .ref (v 9), .ref (v 10), .ref (v 11), .ref (v 12), .ref (v 13), .ref (v 14)])), (v 0, .inl (g.2 0, 225, .inl (fun _ => 0)))] := hD.sub [0, 18, 85, 86] (by decide) rfl
  refine lv_aload_n hx hb dL_law_1008 rfl (lv_at hl 2 rfl) ?_
  refine lv_aload_n hx hb dL_law_1009 rfl (lv_at hl 3 rfl) ?_
  refine lv_iload_n hx hb dL_law_1010 rfl (lv_at hl 0 rfl) ?_
  refine lv_iconst (v := 1) hx hb dL_law_1011 (by decide) ?_
  refine lv_iadd hx hb dL_law_1012 ?_
  refine tp_i (v := 1) (by decide) ?_
  refine va_sld hx hb hX hbl hbA hS (by unfold vp_in; decide) dL_law_1013 ?_
  refine tp_i (v := xs 1) rfl ?_
  refine lv_aload_n hx hb dL_law_1014 rfl (lv_at hl 3 rfl) ?_
  refine lv_iload_n hx hb dL_law_1015 rfl (lv_at hl 0 rfl) ?_
  refine lv_iconst (v := 2) hx hb dL_law_1016 (by decide) ?_
  refine lv_iadd hx hb dL_law_1017 ?_
  refine tp_i (v := 2) (by decide) ?_
  refine va_sld hx hb hX hbl hbA hS (by unfold vp_in; decide) dL_law_1018 ?_
  refine tp_i (v := xs 2) rfl ?_
  refine call_V (As := [.int (xs 1), .int (xs 2)]) (rest := []) (wr := [(qm, .inr (12, [.int 0, .ref (v 0), .ref (v 1), .ref (v 2), .ref (v 3), .int 0, .ref (v 4), .int 0, .int 0, .int 0, .int 0, .int 0, .int 0, .int (-1), .ref (v 5), .ref (v 6), .int 0, .int 0, .int 0, .ref (v 7), .ref (v 8), .int 0, .int 0, .ref (v 9), .ref (v 10), .ref (v 11), .ref (v 12), .ref (v 13), .ref (v 14)])), (v 0, .inl (g.2 0, 225, .inl (fun _ => 0)))]) FC hKn (c_X11_softer l g qx (u 17) (u 0) (u 31) (u 32) (u 33) (u 34) (u 35) (u 36) (u 37) (u 38) (u 39) (u 18) (u 19) (u 20) (u 21) (u 22) (u 23) (u 24) (u 25) (u 26) (u 27) (xs 1) (xs 2)) m_yX11_softer b_528 (ci := 11) rfl rfl rfl hP hD hS hA [0, 1] [2, 3] rfl (by decide) rfl (by decide) (by decide) rfl hl.1 rfl (Nat.le_of_ble_eq_true rfl) dL_law_1019 ⟨(Nat.le_of_ble_eq_true rfl), (Nat.le_of_ble_eq_true rfl)⟩ ⟨(Nat.le_of_ble_eq_true rfl), (Nat.le_of_ble_eq_true rfl)⟩ (fun u1 H locs _ hP hD hS => ?_)
  have hP : va_P g.1 vwCl [(qm, .inr (12, [.int 0, .ref (v 0), .ref (v 1), .ref (v 2), .ref (v 3), .int 0, .ref (v 4), .int 0, .int 0, .int 0, .int 0, .int 0, .int 0, .int (-1), .ref (v 5), .ref (v 6), .int 0, .int 0, .int 0, .ref (v 7), .ref (v 8), .int 0, .int 0, .ref (v 9), .ref (v 10), .ref (v 11), .ref (v 12), .ref (v 13), .ref (v 14)])), (v 0, .inl (g.2 0, 225, .inl (fun _ => 0))), (qx, .inr (11, [.ref (u 0), .ref (u 17), .ref (u 31), .ref (u 32), .ref (u 33), .ref (u 34), .ref (u 35), .ref (u 36), .ref (u 37), .ref (u 38), .ref (u 39)])), (u 17, .inr (0, [.int 0, .int 0, .int 0, .int 0, .int 0, .int 0, .int 0, .int 0, .int 0, .int 0, .ref (u 18), .ref (u 19), .ref (u 20), .ref (u 21), .ref (u 22), .ref (u 23), .ref (u 24), .ref (u 25), .ref (u 26), .ref (u 27)]))] H := hP
  have hD : va_D (lA s) [(qm, .inr (12, [.int 0, .ref (v 0), .ref (v 1), .ref (v 2), .ref (v 3), .int 0, .ref (v 4), .int 0, .int 0, .int 0, .int 0, .int 0, .int 0, .int (-1), .ref (v 5), .ref (v 6), .int 0, .int 0, .int 0, .ref (v 7), .ref (v 8), .int 0, .int 0, .ref (v 9), .ref (v 10), .ref (v 11), .ref (v 12), .ref (v 13), .ref (v 14)])), (v 0, .inl (g.2 0, 225, .inl (fun _ => 0))), (qx, .inr (11, [.ref (u 0), .ref (u 17), .ref (u 31), .ref (u 32), .ref (u 33), .ref (u 34), .ref (u 35), .ref (u 36), .ref (u 37), .ref (u 38), .ref (u 39)])), (u 17, .inr (0, [.int 0, .int 0, .int 0, .int 0, .int 0, .int 0, .int 0, .int 0, .int 0, .int 0, .ref (u 18), .ref (u 19), .ref (u 20), .ref (u 21), .ref (u 22), .ref (u 23), .ref (u 24), .ref (u 25), .ref (u 26), .ref (u 27)]))] := hD
  refine W.eq (g2 := F0 m 1022 ls [.int (-2)]) rfl ?_
  refine lv_aload_n hx hb dL_law_1022 rfl (lv_at hl 1 rfl) ?_
  refine lv_aload_n hx hb dL_law_1023 rfl (lv_at hl 3 rfl) ?_
  refine lv_iload_n hx hb dL_law_1024 rfl (lv_at hl 0 rfl) ?_
  refine lv_iconst (v := 1) hx hb dL_law_1025 (by decide) ?_
  refine lv_iadd hx hb dL_law_1026 ?_
  refine tp_i (v := 1) (by decide) ?_
  refine va_sld hx hb hX hbl hbA hS (by unfold vp_in; decide) dL_law_1027 ?_
  refine tp_i (v := xs 1) rfl ?_
  refine lv_aload_n hx hb dL_law_1028 rfl (lv_at hl 3 rfl) ?_
  refine lv_iload_n hx hb dL_law_1029 rfl (lv_at hl 0 rfl) ?_
  refine lv_iconst (v := 2) hx hb dL_law_1030 (by decide) ?_
  refine lv_iadd hx hb dL_law_1031 ?_
  refine tp_i (v := 2) (by decide) ?_
  refine va_sld hx hb hX hbl hbA hS (by unfold vp_in; decide) dL_law_1032 ?_
  refine tp_i (v := xs 2) rfl ?_
  refine call_V (As := [.int (xs 1), .int (xs 2)]) (rest := [.int (-2)]) (wr := [(qx, .inr (11, [.ref (u 0), .ref (u 17), .ref (u 31), .ref (u 32), .ref (u 33), .ref (u 34), .ref (u 35), .ref (u 36), .ref (u 37), .ref (u 38), .ref (u 39)])), (u 17, .inr (0, [.int 0, .int 0, .int 0, .int 0, .int 0, .int 0, .int 0, .int 0, .int 0, .int 0, .ref (u 18), .ref (u 19), .ref (u 20), .ref (u 21), .ref (u 22), .ref (u 23), .ref (u 24), .ref (u 25), .ref (u 26), .ref (u 27)]))]) FC hKn (c_X12_softer l g qm (v 0) (v 1) (v 2) (v 3) (v 4) (v 5) (v 6) (v 7) (v 8) (v 9) (v 10) (v 11) (v 12) (v 13) (v 14) (xs 1) (xs 2)) m_yX12_softer b_529 (ci := 12) rfl rfl rfl hP hD hS hA [0, 1] [2, 3] rfl (by decide) rfl (by decide) (by decide) rfl hl.1 rfl (Nat.le_of_ble_eq_true rfl) dL_law_1033 ⟨(Nat.le_of_ble_eq_true rfl), (Nat.le_of_ble_eq_true rfl)⟩ ⟨(Nat.le_of_ble_eq_true rfl), (Nat.le_of_ble_eq_true rfl)⟩ (fun u2 H locs _ hP hD hS => ?_)
  have hP : va_P g.1 vwCl [(qx, .inr (11, [.ref (u 0), .ref (u 17), .ref (u 31), .ref (u 32), .ref (u 33), .ref (u 34), .ref (u 35), .ref (u 36), .ref (u 37), .ref (u 38), .ref (u 39)])), (u 17, .inr (0, [.int 0, .int 0, .int 0, .int 0, .int 0, .int 0, .int 0, .int 0, .int 0, .int 0, .ref (u 18), .ref (u 19), .ref (u 20), .ref (u 21), .ref (u 22), .ref (u 23), .ref (u 24), .ref (u 25), .ref (u 26), .ref (u 27)])), (qm, .inr (12, [.int 0, .ref (v 0), .ref (v 1), .ref (v 2), .ref (v 3), .int 0, .ref (v 4), .int 0, .int 0, .int 0, .int 0, .int 0, .int 0, .int (-1), .ref (v 5), .ref (v 6), .int 0, .int 0, .int 0, .ref (v 7), .ref (v 8), .int 0, .int 0, .ref (v 9), .ref (v 10), .ref (v 11), .ref (v 12), .ref (v 13), .ref (v 14)])), (v 0, .inl (g.2 0, 225, .inl (fun _ => 0)))] H := hP
  have hD : va_D (lA s) [(qx, .inr (11, [.ref (u 0), .ref (u 17), .ref (u 31), .ref (u 32), .ref (u 33), .ref (u 34), .ref (u 35), .ref (u 36), .ref (u 37), .ref (u 38), .ref (u 39)])), (u 17, .inr (0, [.int 0, .int 0, .int 0, .int 0, .int 0, .int 0, .int 0, .int 0, .int 0, .int 0, .ref (u 18), .ref (u 19), .ref (u 20), .ref (u 21), .ref (u 22), .ref (u 23), .ref (u 24), .ref (u 25), .ref (u 26), .ref (u 27)])), (qm, .inr (12, [.int 0, .ref (v 0), .ref (v 1), .ref (v 2), .ref (v 3), .int 0, .ref (v 4), .int 0, .int 0, .int 0, .int 0, .int 0, .int 0, .int (-1), .ref (v 5), .ref (v 6), .int 0, .int 0, .int 0, .ref (v 7), .ref (v 8), .int 0, .int 0, .ref (v 9), .ref (v 10), .ref (v 11), .ref (v 12), .ref (v 13), .ref (v 14)])), (v 0, .inl (g.2 0, 225, .inl (fun _ => 0)))] := hD
  refine W.eq (g2 := F0 m 1036 ls [.int (-2), .int (-2)]) rfl ?_
  refine lv_icmp_eq (tgt := 2465) hx hb dL_law_1036 (by decide) (fun _ => ?_) (fun h => absurd rfl h)
  exact law_end C0 hS (lv_sub hl [0, 1, 2, 3] rfl) (Nat.le_of_ble_eq_true rfl) (Nat.le_of_ble_eq_true rfl)
set_option maxRecDepth 100000 in
set_option maxHeartbeats 4000000 in
/-- ordered -/
theorem law_23 {p : Program} {e : Env} {s : State} {m : MethodId} {below : List Frame} {meth : Method} {c : Code} {l : Launch} {g : GG} {b : Nat} {xs : Nat → Int32} (C0 : lw_At p s m meth c b 6 xs) (hKn : Kn g s) {H : Heap} {locs : List Loc} {ls : Array Slot} {qx qm : Nat} {u v : Nat → Nat} (hP : va_P g.1 vwCl (WX g qx u ++ WM g qm v) H) (hD : va_D (lA s) (WX g qx u ++ WM g qm v)) (hS : va_S (lA s) s.heap H locs) (hl : lv_has ls 4 [(3, .int 0), (2, .ref qm), (1, .ref qx), (0, .ref b)]) : W p l e room_1 s m #[Value.ref b] below meth c H locs 122 12079 (lw_Z below #[Value.ref b] s) (F0 m 1041 ls []) := by
  obtain ⟨hx, hb, hr, hml, hown, hts, hX, hbl, hlocks, hgv⟩ := id C0
  have hA : ∀ q : Nat, s.heap.size ≤ q → lA s q := fun _ h => h
  have hbA : ¬ lA s b := Nat.not_le.mpr hbl
  have hB : ∀ w ∈ BIG, w.before #[Value.ref b] s = true := fun w h => hts w (big_in w h)
  have FC : CallFix p m c cL_law 4 s #[Value.ref b] BIG RL := ⟨hx, hb, hml, hown, hB⟩
  have hP : va_P g.1 vwCl [(qx, .inr (11, [.ref (u 0), .ref (u 17), .ref (u 31), .ref (u 32), .ref (u 33), .ref (u 34), .ref (u 35), .ref (u 36), .ref (u 37), .ref (u 38), .ref (u 39)])), (u 17, .inr (0, [.int 0, .int 0, .int 0, .int 0, .int 0, .int 0, .int 0, .int 0, .int 0, .int 0, .ref (u 18), .ref (u 19), .ref (u 20), .ref (u 21), .ref (u 22), .ref (u 23), .ref (u 24), .ref (u 25), .ref (u 26), .ref (u 27)])), (qm, .inr (12, [.int 0, .ref (v 0), .ref (v 1), .ref (v 2), .ref (v 3), .int 0, .ref (v 4), .int 0, .int 0, .int 0, .int 0, .int 0, .int 0, .int (-1), .ref (v 5), .ref (v 6), .int 0, .int 0, .int 0, .ref (v 7), .ref (v 8), .int 0, .int 0, .ref (v 9), .ref (v 10), .ref (v 11), .ref (v 12), .ref (v 13), .ref (v 14)])), (v 0, .inl (g.2 0, 225, .inl (fun _ => 0)))] H := hP.sub [0, 18, 85, 86] rfl
  have hD : va_D (lA s) [(qx, .inr (11, [.ref (u 0), .ref (u 17), .ref (u 31), .ref (u 32), .ref (u 33), .ref (u 34), .ref (u 35), .ref (u 36), .ref (u 37), .ref (u 38), .ref (u 39)])), (u 17, .inr (0, [.int 0, .int 0, .int 0, .int 0, .int 0, .int 0, .int 0, .int 0, .int 0, .int 0, .ref (u 18), .ref (u 19), .ref (u 20), .ref (u 21), .ref (u 22), .ref (u 23), .ref (u 24), .ref (u 25), .ref (u 26), .ref (u 27)])), (qm, .inr (12, [.int 0, .ref (v 0), .ref (v 1), .ref (v 2), .ref (v 3), .int 0, .ref (v 4), .int 0, .int 0, .int 0, .int 0, .int 0, .int 0, .int (-1), .ref (v 5), .ref (v 6), .int 0, .int 0, .int 0, .ref (v 7), .ref (v 8), .int 0, .int 0, .ref (v 9), .ref (v 10), .ref (v 11), .ref (v 12), .ref (v 13), .ref (v 14)])), (v 0, .inl (g.2 0, 225, .inl (fun _ => 0)))] := hD.sub [0, 18, 85, 86] (by decide) rfl
  refine lv_aload_n hx hb dL_law_1041 rfl (lv_at hl 2 rfl) ?_
  refine lv_aload_n hx hb dL_law_1042 rfl (lv_at hl 3 rfl) ?_
  refine lv_iload_n hx hb dL_law_1043 rfl (lv_at hl 0 rfl) ?_
  refine lv_iconst (v := 1) hx hb dL_law_1044 (by decide) ?_
  refine lv_iadd hx hb dL_law_1045 ?_
  refine tp_i (v := 1) (by decide) ?_
  refine va_sld hx hb hX hbl hbA hS (by unfold vp_in; decide) dL_law_1046 ?_
  refine tp_i (v := xs 1) rfl ?_
  refine lv_aload_n hx hb dL_law_1047 rfl (lv_at hl 3 rfl) ?_
  refine lv_iload_n hx hb dL_law_1048 rfl (lv_at hl 0 rfl) ?_
  refine lv_iconst (v := 2) hx hb dL_law_1049 (by decide) ?_
  refine lv_iadd hx hb dL_law_1050 ?_
  refine tp_i (v := 2) (by decide) ?_
  refine va_sld hx hb hX hbl hbA hS (by unfold vp_in; decide) dL_law_1051 ?_
  refine tp_i (v := xs 2) rfl ?_
  refine lv_aload_n hx hb dL_law_1052 rfl (lv_at hl 3 rfl) ?_
  refine lv_iload_n hx hb dL_law_1053 rfl (lv_at hl 0 rfl) ?_
  refine lv_iconst (v := 3) hx hb dL_law_1054 (by decide) ?_
  refine lv_iadd hx hb dL_law_1055 ?_
  refine tp_i (v := 3) (by decide) ?_
  refine va_sld hx hb hX hbl hbA hS (by unfold vp_in; decide) dL_law_1056 ?_
  refine tp_i (v := xs 3) rfl ?_
  refine call_V (As := [.int (xs 1), .int (xs 2), .int (xs 3)]) (rest := []) (wr := [(qm, .inr (12, [.int 0, .ref (v 0), .ref (v 1), .ref (v 2), .ref (v 3), .int 0, .ref (v 4), .int 0, .int 0, .int 0, .int 0, .int 0, .int 0, .int (-1), .ref (v 5), .ref (v 6), .int 0, .int 0, .int 0, .ref (v 7), .ref (v 8), .int 0, .int 0, .ref (v 9), .ref (v 10), .ref (v 11), .ref (v 12), .ref (v 13), .ref (v 14)])), (v 0, .inl (g.2 0, 225, .inl (fun _ => 0)))]) FC hKn (c_X11_ordered l g qx (u 17) (u 0) (u 31) (u 32) (u 33) (u 34) (u 35) (u 36) (u 37) (u 38) (u 39) (u 18) (u 19) (u 20) (u 21) (u 22) (u 23) (u 24) (u 25) (u 26) (u 27) (xs 1) (xs 2) (xs 3)) m_yX11_ordered b_530 (ci := 11) rfl rfl rfl hP hD hS hA [0, 1] [2, 3] rfl (by decide) rfl (by decide) (by decide) rfl hl.1 rfl (Nat.le_of_ble_eq_true rfl) dL_law_1057 ⟨(Nat.le_of_ble_eq_true rfl), (Nat.le_of_ble_eq_true rfl)⟩ ⟨(Nat.le_of_ble_eq_true rfl), (Nat.le_of_ble_eq_true rfl)⟩ (fun u1 H locs _ hP hD hS => ?_)
  have hP : va_P g.1 vwCl [(qm, .inr (12, [.int 0, .ref (v 0), .ref (v 1), .ref (v 2), .ref (v 3), .int 0, .ref (v 4), .int 0, .int 0, .int 0, .int 0, .int 0, .int 0, .int (-1), .ref (v 5), .ref (v 6), .int 0, .int 0, .int 0, .ref (v 7), .ref (v 8), .int 0, .int 0, .ref (v 9), .ref (v 10), .ref (v 11), .ref (v 12), .ref (v 13), .ref (v 14)])), (v 0, .inl (g.2 0, 225, .inl (fun _ => 0))), (qx, .inr (11, [.ref (u 0), .ref (u 17), .ref (u 31), .ref (u 32), .ref (u 33), .ref (u 34), .ref (u 35), .ref (u 36), .ref (u 37), .ref (u 38), .ref (u 39)])), (u 17, .inr (0, [.int 0, .int 0, .int 0, .int 0, .int 0, .int 0, .int 0, .int 0, .int 0, .int 0, .ref (u 18), .ref (u 19), .ref (u 20), .ref (u 21), .ref (u 22), .ref (u 23), .ref (u 24), .ref (u 25), .ref (u 26), .ref (u 27)]))] H := hP
  have hD : va_D (lA s) [(qm, .inr (12, [.int 0, .ref (v 0), .ref (v 1), .ref (v 2), .ref (v 3), .int 0, .ref (v 4), .int 0, .int 0, .int 0, .int 0, .int 0, .int 0, .int (-1), .ref (v 5), .ref (v 6), .int 0, .int 0, .int 0, .ref (v 7), .ref (v 8), .int 0, .int 0, .ref (v 9), .ref (v 10), .ref (v 11), .ref (v 12), .ref (v 13), .ref (v 14)])), (v 0, .inl (g.2 0, 225, .inl (fun _ => 0))), (qx, .inr (11, [.ref (u 0), .ref (u 17), .ref (u 31), .ref (u 32), .ref (u 33), .ref (u 34), .ref (u 35), .ref (u 36), .ref (u 37), .ref (u 38), .ref (u 39)])), (u 17, .inr (0, [.int 0, .int 0, .int 0, .int 0, .int 0, .int 0, .int 0, .int 0, .int 0, .int 0, .ref (u 18), .ref (u 19), .ref (u 20), .ref (u 21), .ref (u 22), .ref (u 23), .ref (u 24), .ref (u 25), .ref (u 26), .ref (u 27)]))] := hD
  refine W.eq (g2 := F0 m 1060 ls [.int (-2)]) rfl ?_
  refine lv_aload_n hx hb dL_law_1060 rfl (lv_at hl 1 rfl) ?_
  refine lv_aload_n hx hb dL_law_1061 rfl (lv_at hl 3 rfl) ?_
  refine lv_iload_n hx hb dL_law_1062 rfl (lv_at hl 0 rfl) ?_
  refine lv_iconst (v := 1) hx hb dL_law_1063 (by decide) ?_
  refine lv_iadd hx hb dL_law_1064 ?_
  refine tp_i (v := 1) (by decide) ?_
  refine va_sld hx hb hX hbl hbA hS (by unfold vp_in; decide) dL_law_1065 ?_
  refine tp_i (v := xs 1) rfl ?_
  refine lv_aload_n hx hb dL_law_1066 rfl (lv_at hl 3 rfl) ?_
  refine lv_iload_n hx hb dL_law_1067 rfl (lv_at hl 0 rfl) ?_
  refine lv_iconst (v := 2) hx hb dL_law_1068 (by decide) ?_
  refine lv_iadd hx hb dL_law_1069 ?_
  refine tp_i (v := 2) (by decide) ?_
  refine va_sld hx hb hX hbl hbA hS (by unfold vp_in; decide) dL_law_1070 ?_
  refine tp_i (v := xs 2) rfl ?_
  refine lv_aload_n hx hb dL_law_1071 rfl (lv_at hl 3 rfl) ?_
  refine lv_iload_n hx hb dL_law_1072 rfl (lv_at hl 0 rfl) ?_
  refine lv_iconst (v := 3) hx hb dL_law_1073 (by decide) ?_
  refine lv_iadd hx hb dL_law_1074 ?_
  refine tp_i (v := 3) (by decide) ?_
  refine va_sld hx hb hX hbl hbA hS (by unfold vp_in; decide) dL_law_1075 ?_
  refine tp_i (v := xs 3) rfl ?_
  refine call_V (As := [.int (xs 1), .int (xs 2), .int (xs 3)]) (rest := [.int (-2)]) (wr := [(qx, .inr (11, [.ref (u 0), .ref (u 17), .ref (u 31), .ref (u 32), .ref (u 33), .ref (u 34), .ref (u 35), .ref (u 36), .ref (u 37), .ref (u 38), .ref (u 39)])), (u 17, .inr (0, [.int 0, .int 0, .int 0, .int 0, .int 0, .int 0, .int 0, .int 0, .int 0, .int 0, .ref (u 18), .ref (u 19), .ref (u 20), .ref (u 21), .ref (u 22), .ref (u 23), .ref (u 24), .ref (u 25), .ref (u 26), .ref (u 27)]))]) FC hKn (c_X12_ordered l g qm (v 0) (v 1) (v 2) (v 3) (v 4) (v 5) (v 6) (v 7) (v 8) (v 9) (v 10) (v 11) (v 12) (v 13) (v 14) (xs 1) (xs 2) (xs 3)) m_yX12_ordered b_531 (ci := 12) rfl rfl rfl hP hD hS hA [0, 1] [2, 3] rfl (by decide) rfl (by decide) (by decide) rfl hl.1 rfl (Nat.le_of_ble_eq_true rfl) dL_law_1076 ⟨(Nat.le_of_ble_eq_true rfl), (Nat.le_of_ble_eq_true rfl)⟩ ⟨(Nat.le_of_ble_eq_true rfl), (Nat.le_of_ble_eq_true rfl)⟩ (fun u2 H locs _ hP hD hS => ?_)
  have hP : va_P g.1 vwCl [(qx, .inr (11, [.ref (u 0), .ref (u 17), .ref (u 31), .ref (u 32), .ref (u 33), .ref (u 34), .ref (u 35), .ref (u 36), .ref (u 37), .ref (u 38), .ref (u 39)])), (u 17, .inr (0, [.int 0, .int 0, .int 0, .int 0, .int 0, .int 0, .int 0, .int 0, .int 0, .int 0, .ref (u 18), .ref (u 19), .ref (u 20), .ref (u 21), .ref (u 22), .ref (u 23), .ref (u 24), .ref (u 25), .ref (u 26), .ref (u 27)])), (qm, .inr (12, [.int 0, .ref (v 0), .ref (v 1), .ref (v 2), .ref (v 3), .int 0, .ref (v 4), .int 0, .int 0, .int 0, .int 0, .int 0, .int 0, .int (-1), .ref (v 5), .ref (v 6), .int 0, .int 0, .int 0, .ref (v 7), .ref (v 8), .int 0, .int 0, .ref (v 9), .ref (v 10), .ref (v 11), .ref (v 12), .ref (v 13), .ref (v 14)])), (v 0, .inl (g.2 0, 225, .inl (fun _ => 0)))] H := hP
  have hD : va_D (lA s) [(qx, .inr (11, [.ref (u 0), .ref (u 17), .ref (u 31), .ref (u 32), .ref (u 33), .ref (u 34), .ref (u 35), .ref (u 36), .ref (u 37), .ref (u 38), .ref (u 39)])), (u 17, .inr (0, [.int 0, .int 0, .int 0, .int 0, .int 0, .int 0, .int 0, .int 0, .int 0, .int 0, .ref (u 18), .ref (u 19), .ref (u 20), .ref (u 21), .ref (u 22), .ref (u 23), .ref (u 24), .ref (u 25), .ref (u 26), .ref (u 27)])), (qm, .inr (12, [.int 0, .ref (v 0), .ref (v 1), .ref (v 2), .ref (v 3), .int 0, .ref (v 4), .int 0, .int 0, .int 0, .int 0, .int 0, .int 0, .int (-1), .ref (v 5), .ref (v 6), .int 0, .int 0, .int 0, .ref (v 7), .ref (v 8), .int 0, .int 0, .ref (v 9), .ref (v 10), .ref (v 11), .ref (v 12), .ref (v 13), .ref (v 14)])), (v 0, .inl (g.2 0, 225, .inl (fun _ => 0)))] := hD
  refine W.eq (g2 := F0 m 1079 ls [.int (-2), .int (-2)]) rfl ?_
  refine lv_icmp_eq (tgt := 2465) hx hb dL_law_1079 (by decide) (fun _ => ?_) (fun h => absurd rfl h)
  exact law_end C0 hS (lv_sub hl [0, 1, 2, 3] rfl) (Nat.le_of_ble_eq_true rfl) (Nat.le_of_ble_eq_true rfl)
