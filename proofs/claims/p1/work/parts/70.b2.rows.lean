set_option maxRecDepth 100000 in
set_option maxHeartbeats 4000000 in
/-- knew -/
theorem law_48 {p : Program} {e : Env} {s : State} {m : MethodId} {below : List Frame} {meth : Method} {c : Code} {l : Launch} {g : GG} {b : Nat} {xs : Nat → Int32} (C0 : lw_At p s m meth c b 6 xs) (hKn : Kn g s) {H : Heap} {locs : List Loc} {ls : Array Slot} {qx qm : Nat} {u v : Nat → Nat} (hP : va_P g.1 vwCl (WX g qx u ++ WM g qm v) H) (hD : va_D (lA s) (WX g qx u ++ WM g qm v)) (hS : va_S (lA s) s.heap H locs) (hl : lv_has ls 4 [(3, .int 0), (2, .ref qm), (1, .ref qx), (0, .ref b)]) : W p l e room_1 s m #[Value.ref b] below meth c H locs 122 12079 (lw_Z below #[Value.ref b] s) (F0 m 1746 ls []) := by
  obtain ⟨hx, hb, hr, hml, hown, hts, hX, hbl, hlocks, hgv⟩ := id C0
  have hA : ∀ q : Nat, s.heap.size ≤ q → lA s q := fun _ h => h
  have hbA : ¬ lA s b := Nat.not_le.mpr hbl
  have hB : ∀ w ∈ BIG, w.before #[Value.ref b] s = true := fun w h => hts w (big_in w h)
  have FC : CallFix p m c cL_law 4 s #[Value.ref b] BIG RL := ⟨hx, hb, hml, hown, hB⟩
  have hP : va_P g.1 vwCl [(qx, .inr (11, [.ref (u 0), .ref (u 17), .ref (u 31), .ref (u 32), .ref (u 33), .ref (u 34), .ref (u 35), .ref (u 36), .ref (u 37), .ref (u 38), .ref (u 39)])), (u 17, .inr (0, [.int 0, .int 0, .int 0, .int 0, .int 0, .int 0, .int 0, .int 0, .int 0, .int 0, .ref (u 18), .ref (u 19), .ref (u 20), .ref (u 21), .ref (u 22), .ref (u 23), .ref (u 24), .ref (u 25), .ref (u 26), .ref (u 27)])), (qm, .inr (12, [.int 0, .ref (v 0), .ref (v 1), .ref (v 2), .ref (v 3), .int 0, .ref (v 4), .int 0, .int 0, .int 0, .int 0, .int 0, .int 0, .int (-1), .ref (v 5), .ref (v 6), .int 0, .int 0, .int 0, .ref (v 7), .ref (v 8), .int 0, .int 0, .ref (v 9), .ref (v 10), .ref (v 11), .ref (v 12), .ref (v 13), .ref (v 14)])), (v 0, .inl (g.2 0, 225, .inl (fun _ => 0)))] H := hP.sub [0, 18, 85, 86] rfl
  have hD : va_D (lA s) [(qx, .inr (11, [.ref (u 0), .ref (u 17), .ref (u 31), .ref (u 32), .ref (u 33), .ref (u 34), .ref (u 35), .ref (u 36), .ref (u 37), .ref (u 38), .ref (u 39)])), (u 17, .inr (0, [.int 0, .int 0, .int 0, .int 0, .int 0, .int 0, .int 0, .int 0, .int 0, .int 0, .ref (u 18), .ref (u 19), .ref (u 20), .ref (u 21), .ref (u 22), .ref (u 23), .ref (u 24), .ref (u 25), .ref (u 26), .ref (u 27)])), (qm, .inr (12, [.int 0, .ref (v 0), .ref (v 1), .ref (v 2), .ref (v 3), .int 0, .ref (v 4), .int 0, .int 0, .int 0, .int 0, .int 0, .int 0, .int (-1), .ref (v 5), .ref (v 6), .int 0, .int 0, .int 0, .ref (v 7), .ref (v 8), .int 0, .int 0, .ref (v 9), .ref (v 10), .ref (v 11), .ref (v 12), .ref (v 13), .ref (v 14)])), (v 0, .inl (g.2 0, 225, .inl (fun _ => 0)))] := hD.sub [0, 18, 85, 86] (by decide) rfl
  refine lv_aload_n hx hb dL_law_1746 rfl (lv_at hl 2 rfl) ?_
  refine lv_aload_n hx hb dL_law_1747 rfl (lv_at hl 3 rfl) ?_
  refine lv_iload_n hx hb dL_law_1748 rfl (lv_at hl 0 rfl) ?_
  refine lv_iconst (v := 1) hx hb dL_law_1749 (by decide) ?_
  refine lv_iadd hx hb dL_law_1750 ?_
  refine tp_i (v := 1) (by decide) ?_
  refine va_sld hx hb hX hbl hbA hS (by unfold vp_in; decide) dL_law_1751 ?_
  refine tp_i (v := xs 1) rfl ?_
  refine lv_aload_n hx hb dL_law_1752 rfl (lv_at hl 3 rfl) ?_
  refine lv_iload_n hx hb dL_law_1753 rfl (lv_at hl 0 rfl) ?_
  refine lv_iconst (v := 2) hx hb dL_law_1754 (by decide) ?_
  refine lv_iadd hx hb dL_law_1755 ?_
  refine tp_i (v := 2) (by decide) ?_
  refine va_sld hx hb hX hbl hbA hS (by unfold vp_in; decide) dL_law_1756 ?_
  refine tp_i (v := xs 2) rfl ?_
  refine call_V (As := [.int (xs 1), .int (xs 2)]) (rest := []) (wr := [(qm, .inr (12, [.int 0, .ref (v 0), .ref (v 1), .ref (v 2), .ref (v 3), .int 0, .ref (v 4), .int 0, .int 0, .int 0, .int 0, .int 0, .int 0, .int (-1), .ref (v 5), .ref (v 6), .int 0, .int 0, .int 0, .ref (v 7), .ref (v 8), .int 0, .int 0, .ref (v 9), .ref (v 10), .ref (v 11), .ref (v 12), .ref (v 13), .ref (v 14)])), (v 0, .inl (g.2 0, 225, .inl (fun _ => 0)))]) FC hKn (c_X11_knew l g qx (u 17) (u 0) (u 31) (u 32) (u 33) (u 34) (u 35) (u 36) (u 37) (u 38) (u 39) (u 18) (u 19) (u 20) (u 21) (u 22) (u 23) (u 24) (u 25) (u 26) (u 27) (xs 1) (xs 2)) m_yX11_knew b_580 (ci := 11) rfl rfl rfl hP hD hS hA [0, 1] [2, 3] rfl (by decide) rfl (by decide) (by decide) rfl hl.1 rfl (Nat.le_of_ble_eq_true rfl) dL_law_1757 ⟨(Nat.le_of_ble_eq_true rfl), (Nat.le_of_ble_eq_true rfl)⟩ ⟨(Nat.le_of_ble_eq_true rfl), (Nat.le_of_ble_eq_true rfl)⟩ (fun u1 H locs _ hP hD hS => ?_)
  have hP : va_P g.1 vwCl [(qm, .inr (12, [.int 0, .ref (v 0), .ref (v 1), .ref (v 2), .ref (v 3), .int 0, .ref (v 4), .int 0, .int 0, .int 0, .int 0, .int 0, .int 0, .int (-1), .ref (v 5), .ref (v 6), .int 0, .int 0, .int 0, .ref (v 7), .ref (v 8), .int 0, .int 0, .ref (v 9), .ref (v 10), .ref (v 11), .ref (v 12), .ref (v 13), .ref (v 14)])), (v 0, .inl (g.2 0, 225, .inl (fun _ => 0))), (qx, .inr (11, [.ref (u 0), .ref (u 17), .ref (u 31), .ref (u 32), .ref (u 33), .ref (u 34), .ref (u 35), .ref (u 36), .ref (u 37), .ref (u 38), .ref (u 39)])), (u 17, .inr (0, [.int 0, .int 0, .int 0, .int 0, .int 0, .int 0, .int 0, .int 0, .int 0, .int 0, .ref (u 18), .ref (u 19), .ref (u 20), .ref (u 21), .ref (u 22), .ref (u 23), .ref (u 24), .ref (u 25), .ref (u 26), .ref (u 27)]))] H := hP
  have hD : va_D (lA s) [(qm, .inr (12, [.int 0, .ref (v 0), .ref (v 1), .ref (v 2), .ref (v 3), .int 0, .ref (v 4), .int 0, .int 0, .int 0, .int 0, .int 0, .int 0, .int (-1), .ref (v 5), .ref (v 6), .int 0, .int 0, .int 0, .ref (v 7), .ref (v 8), .int 0, .int 0, .ref (v 9), .ref (v 10), .ref (v 11), .ref (v 12), .ref (v 13), .ref (v 14)])), (v 0, .inl (g.2 0, 225, .inl (fun _ => 0))), (qx, .inr (11, [.ref (u 0), .ref (u 17), .ref (u 31), .ref (u 32), .ref (u 33), .ref (u 34), .ref (u 35), .ref (u 36), .ref (u 37), .ref (u 38), .ref (u 39)])), (u 17, .inr (0, [.int 0, .int 0, .int 0, .int 0, .int 0, .int 0, .int 0, .int 0, .int 0, .int 0, .ref (u 18), .ref (u 19), .ref (u 20), .ref (u 21), .ref (u 22), .ref (u 23), .ref (u 24), .ref (u 25), .ref (u 26), .ref (u 27)]))] := hD
  refine W.eq (g2 := F0 m 1760 ls [.int (-2)]) rfl ?_
  refine lv_aload_n hx hb dL_law_1760 rfl (lv_at hl 1 rfl) ?_
  refine lv_aload_n hx hb dL_law_1761 rfl (lv_at hl 3 rfl) ?_
  refine lv_iload_n hx hb dL_law_1762 rfl (lv_at hl 0 rfl) ?_
  refine lv_iconst (v := 1) hx hb dL_law_1763 (by decide) ?_
  refine lv_iadd hx hb dL_law_1764 ?_
  refine tp_i (v := 1) (by decide) ?_
  refine va_sld hx hb hX hbl hbA hS (by unfold vp_in; decide) dL_law_1765 ?_
  refine tp_i (v := xs 1) rfl ?_
  refine lv_aload_n hx hb dL_law_1766 rfl (lv_at hl 3 rfl) ?_
  refine lv_iload_n hx hb dL_law_1767 rfl (lv_at hl 0 rfl) ?_
  refine lv_iconst (v := 2) hx hb dL_law_1768 (by decide) ?_
  refine lv_iadd hx hb dL_law_1769 ?_
  refine tp_i (v := 2) (by decide) ?_
  refine va_sld hx hb hX hbl hbA hS (by unfold vp_in; decide) dL_law_1770 ?_
  refine tp_i (v := xs 2) rfl ?_
  refine call_V (As := [.int (xs 1), .int (xs 2)]) (rest := [.int (-2)]) (wr := [(qx, .inr (11, [.ref (u 0), .ref (u 17), .ref (u 31), .ref (u 32), .ref (u 33), .ref (u 34), .ref (u 35), .ref (u 36), .ref (u 37), .ref (u 38), .ref (u 39)])), (u 17, .inr (0, [.int 0, .int 0, .int 0, .int 0, .int 0, .int 0, .int 0, .int 0, .int 0, .int 0, .ref (u 18), .ref (u 19), .ref (u 20), .ref (u 21), .ref (u 22), .ref (u 23), .ref (u 24), .ref (u 25), .ref (u 26), .ref (u 27)]))]) FC hKn (c_X12_knew l g qm (v 0) (v 1) (v 2) (v 3) (v 4) (v 5) (v 6) (v 7) (v 8) (v 9) (v 10) (v 11) (v 12) (v 13) (v 14) (xs 1) (xs 2)) m_yX12_knew b_581 (ci := 12) rfl rfl rfl hP hD hS hA [0, 1] [2, 3] rfl (by decide) rfl (by decide) (by decide) rfl hl.1 rfl (Nat.le_of_ble_eq_true rfl) dL_law_1771 ⟨(Nat.le_of_ble_eq_true rfl), (Nat.le_of_ble_eq_true rfl)⟩ ⟨(Nat.le_of_ble_eq_true rfl), (Nat.le_of_ble_eq_true rfl)⟩ (fun u2 H locs _ hP hD hS => ?_)
  have hP : va_P g.1 vwCl [(qx, .inr (11, [.ref (u 0), .ref (u 17), .ref (u 31), .ref (u 32), .ref (u 33), .ref (u 34), .ref (u 35), .ref (u 36), .ref (u 37), .ref (u 38), .ref (u 39)])), (u 17, .inr (0, [.int 0, .int 0, .int 0, .int 0, .int 0, .int 0, .int 0, .int 0, .int 0, .int 0, .ref (u 18), .ref (u 19), .ref (u 20), .ref (u 21), .ref (u 22), .ref (u 23), .ref (u 24), .ref (u 25), .ref (u 26), .ref (u 27)])), (qm, .inr (12, [.int 0, .ref (v 0), .ref (v 1), .ref (v 2), .ref (v 3), .int 0, .ref (v 4), .int 0, .int 0, .int 0, .int 0, .int 0, .int 0, .int (-1), .ref (v 5), .ref (v 6), .int 0, .int 0, .int 0, .ref (v 7), .ref (v 8), .int 0, .int 0, .ref (v 9), .ref (v 10), .ref (v 11), .ref (v 12), .ref (v 13), .ref (v 14)])), (v 0, .inl (g.2 0, 225, .inl (fun _ => 0)))] H := hP
  have hD : va_D (lA s) [(qx, .inr (11, [.ref (u 0), .ref (u 17), .ref (u 31), .ref (u 32), .ref (u 33), .ref (u 34), .ref (u 35), .ref (u 36), .ref (u 37), .ref (u 38), .ref (u 39)])), (u 17, .inr (0, [.int 0, .int 0, .int 0, .int 0, .int 0, .int 0, .int 0, .int 0, .int 0, .int 0, .ref (u 18), .ref (u 19), .ref (u 20), .ref (u 21), .ref (u 22), .ref (u 23), .ref (u 24), .ref (u 25), .ref (u 26), .ref (u 27)])), (qm, .inr (12, [.int 0, .ref (v 0), .ref (v 1), .ref (v 2), .ref (v 3), .int 0, .ref (v 4), .int 0, .int 0, .int 0, .int 0, .int 0, .int 0, .int (-1), .ref (v 5), .ref (v 6), .int 0, .int 0, .int 0, .ref (v 7), .ref (v 8), .int 0, .int 0, .ref (v 9), .ref (v 10), .ref (v 11), .ref (v 12), .ref (v 13), .ref (v 14)])), (v 0, .inl (g.2 0, 225, .inl (fun _ => 0)))] := hD
  refine W.eq (g2 := F0 m 1774 ls [.int (-2), .int (-2)]) rfl ?_
  refine lv_icmp_eq (tgt := 2465) hx hb dL_law_1774 (by decide) (fun _ => ?_) (fun h => absurd rfl h)
  exact law_end C0 hS (lv_sub hl [0, 1, 2, 3] rfl) (Nat.le_of_ble_eq_true rfl) (Nat.le_of_ble_eq_true rfl)
set_option maxRecDepth 100000 in
set_option maxHeartbeats 4000000 in
/-- reckoned -/
theorem law_49 {p : Program} {e : Env} {s : State} {m : MethodId} {below : List Frame} {meth : Method} {c : Code} {l : Launch} {g : GG} {b : Nat} {xs : Nat → Int32} (C0 : lw_At p s m meth c b 6 xs) (hKn : Kn g s) {H : Heap} {locs : List Loc} {ls : Array Slot} {qx qm : Nat} {u v : Nat → Nat} (hP : va_P g.1 vwCl (WX g qx u ++ WM g qm v) H) (hD : va_D (lA s) (WX g qx u ++ WM g qm v)) (hS : va_S (lA s) s.heap H locs) (hl : lv_has ls 4 [(3, .int 0), (2, .ref qm), (1, .ref qx), (0, .ref b)]) : W p l e room_1 s m #[Value.ref b] below meth c H locs 122 12079 (lw_Z below #[Value.ref b] s) (F0 m 1779 ls []) := by
  obtain ⟨hx, hb, hr, hml, hown, hts, hX, hbl, hlocks, hgv⟩ := id C0
  have hA : ∀ q : Nat, s.heap.size ≤ q → lA s q := fun _ h => h
  have hbA : ¬ lA s b := Nat.not_le.mpr hbl
  have hB : ∀ w ∈ BIG, w.before #[Value.ref b] s = true := fun w h => hts w (big_in w h)
  have FC : CallFix p m c cL_law 4 s #[Value.ref b] BIG RL := ⟨hx, hb, hml, hown, hB⟩
  have hP : va_P g.1 vwCl [(qx, .inr (11, [.ref (u 0), .ref (u 17), .ref (u 31), .ref (u 32), .ref (u 33), .ref (u 34), .ref (u 35), .ref (u 36), .ref (u 37), .ref (u 38), .ref (u 39)])), (u 17, .inr (0, [.int 0, .int 0, .int 0, .int 0, .int 0, .int 0, .int 0, .int 0, .int 0, .int 0, .ref (u 18), .ref (u 19), .ref (u 20), .ref (u 21), .ref (u 22), .ref (u 23), .ref (u 24), .ref (u 25), .ref (u 26), .ref (u 27)])), (qm, .inr (12, [.int 0, .ref (v 0), .ref (v 1), .ref (v 2), .ref (v 3), .int 0, .ref (v 4), .int 0, .int 0, .int 0, .int 0, .int 0, .int 0, .int (-1), .ref (v 5), .ref (v 6), .int 0, .int 0, .int 0, .ref (v 7), .ref (v 8), .int 0, .int 0, .ref (v 9), .ref (v 10), .ref (v 11), .ref (v 12), .ref (v 13), .ref (v 14)])), (v 0, .inl (g.2 0, 225, .inl (fun _ => 0)))] H := hP.sub [0, 18, 85, 86] rfl
  have hD : va_D (lA s) [(qx, .inr (11, [.ref (u 0), .ref (u 17), .ref (u 31), .ref (u 32), .ref (u 33), .ref (u 34), .ref (u 35), .ref (u 36), .ref (u 37), .ref (u 38), .ref (u 39)])), (u 17, .inr (0, [.int 0, .int 0, .int 0, .int 0, .int 0, .int 0, .int 0, .int 0, .int 0, .int 0, .ref (u 18), .ref (u 19), .ref (u 20), .ref (u 21), .ref (u 22), .ref (u 23), .ref (u 24), .ref (u 25), .ref (u 26), .ref (u 27)])), (qm, .inr (12, [.int 0, .ref (v 0), .ref (v 1), .ref (v 2), .ref (v 3), .int 0, .ref (v 4), .int 0, .int 0, .int 0, .int 0, .int 0, .int 0, .int (-1), .ref (v 5), .ref (v 6), .int 0, .int 0, .int 0, .ref (v 7), .ref (v 8), .int 0, .int 0, .ref (v 9), .ref (v 10), .ref (v 11), .ref (v 12), .ref (v 13), .ref (v 14)])), (v 0, .inl (g.2 0, 225, .inl (fun _ => 0)))] := hD.sub [0, 18, 85, 86] (by decide) rfl
  refine lv_aload_n hx hb dL_law_1779 rfl (lv_at hl 2 rfl) ?_
  refine lv_aload_n hx hb dL_law_1780 rfl (lv_at hl 3 rfl) ?_
  refine lv_iload_n hx hb dL_law_1781 rfl (lv_at hl 0 rfl) ?_
  refine lv_iconst (v := 1) hx hb dL_law_1782 (by decide) ?_
  refine lv_iadd hx hb dL_law_1783 ?_
  refine tp_i (v := 1) (by decide) ?_
  refine va_sld hx hb hX hbl hbA hS (by unfold vp_in; decide) dL_law_1784 ?_
  refine tp_i (v := xs 1) rfl ?_
  refine lv_aload_n hx hb dL_law_1785 rfl (lv_at hl 3 rfl) ?_
  refine lv_iload_n hx hb dL_law_1786 rfl (lv_at hl 0 rfl) ?_
  refine lv_iconst (v := 2) hx hb dL_law_1787 (by decide) ?_
  refine lv_iadd hx hb dL_law_1788 ?_
  refine tp_i (v := 2) (by decide) ?_
  refine va_sld hx hb hX hbl hbA hS (by unfold vp_in; decide) dL_law_1789 ?_
  refine tp_i (v := xs 2) rfl ?_
  refine call_V (As := [.int (xs 1), .int (xs 2)]) (rest := []) (wr := [(qm, .inr (12, [.int 0, .ref (v 0), .ref (v 1), .ref (v 2), .ref (v 3), .int 0, .ref (v 4), .int 0, .int 0, .int 0, .int 0, .int 0, .int 0, .int (-1), .ref (v 5), .ref (v 6), .int 0, .int 0, .int 0, .ref (v 7), .ref (v 8), .int 0, .int 0, .ref (v 9), .ref (v 10), .ref (v 11), .ref (v 12), .ref (v 13), .ref (v 14)])), (v 0, .inl (g.2 0, 225, .inl (fun _ => 0)))]) FC hKn (c_X11_reckoned l g qx (u 17) (u 0) (u 31) (u 32) (u 33) (u 34) (u 35) (u 36) (u 37) (u 38) (u 39) (u 18) (u 19) (u 20) (u 21) (u 22) (u 23) (u 24) (u 25) (u 26) (u 27) (xs 1) (xs 2)) m_yX11_reckoned b_582 (ci := 11) rfl rfl rfl hP hD hS hA [0, 1] [2, 3] rfl (by decide) rfl (by decide) (by decide) rfl hl.1 rfl (Nat.le_of_ble_eq_true rfl) dL_law_1790 ⟨(Nat.le_of_ble_eq_true rfl), (Nat.le_of_ble_eq_true rfl)⟩ ⟨(Nat.le_of_ble_eq_true rfl), (Nat.le_of_ble_eq_true rfl)⟩ (fun u1 H locs _ hP hD hS => ?_)
  have hP : va_P g.1 vwCl [(qm, .inr (12, [.int 0, .ref (v 0), .ref (v 1), .ref (v 2), .ref (v 3), .int 0, .ref (v 4), .int 0, .int 0, .int 0, .int 0, .int 0, .int 0, .int (-1), .ref (v 5), .ref (v 6), .int 0, .int 0, .int 0, .ref (v 7), .ref (v 8), .int 0, .int 0, .ref (v 9), .ref (v 10), .ref (v 11), .ref (v 12), .ref (v 13), .ref (v 14)])), (v 0, .inl (g.2 0, 225, .inl (fun _ => 0))), (qx, .inr (11, [.ref (u 0), .ref (u 17), .ref (u 31), .ref (u 32), .ref (u 33), .ref (u 34), .ref (u 35), .ref (u 36), .ref (u 37), .ref (u 38), .ref (u 39)])), (u 17, .inr (0, [.int 0, .int 0, .int 0, .int 0, .int 0, .int 0, .int 0, .int 0, .int 0, .int 0, .ref (u 18), .ref (u 19), .ref (u 20), .ref (u 21), .ref (u 22), .ref (u 23), .ref (u 24), .ref (u 25), .ref (u 26), .ref (u 27)]))] H := hP
  have hD : va_D (lA s) [(qm, .inr (12, [.int 0, .ref (v 0), .ref (v 1), .ref (v 2), .ref (v 3), .int 0, .ref (v 4), .int 0, .int 0, .int 0, .int 0, .int 0, .int 0, .int (-1), .ref (v 5), .ref (v 6), .int 0, .int 0, .int 0, .ref (v 7), .ref (v 8), .int 0, .int 0, .ref (v 9), .ref (v 10), .ref (v 11), .ref (v 12), .ref (v 13), .ref (v 14)])), (v 0, .inl (g.2 0, 225, .inl (fun _ => 0))), (qx, .inr (11, [.ref (u 0), .ref (u 17), .ref (u 31), .ref (u 32), .ref (u 33), .ref (u 34), .ref (u 35), .ref (u 36), .ref (u 37), .ref (u 38), .ref (u 39)])), (u 17, .inr (0, [.int 0, .int 0, .int 0, .int 0, .int 0, .int 0, .int 0, .int 0, .int 0, .int 0, .ref (u 18), .ref (u 19), .ref (u 20), .ref (u 21), .ref (u 22), .ref (u 23), .ref (u 24), .ref (u 25), .ref (u 26), .ref (u 27)]))] := hD
  refine W.eq (g2 := F0 m 1793 ls [.int (-2)]) rfl ?_
  refine lv_aload_n hx hb dL_law_1793 rfl (lv_at hl 1 rfl) ?_
  refine lv_aload_n hx hb dL_law_1794 rfl (lv_at hl 3 rfl) ?_
  refine lv_iload_n hx hb dL_law_1795 rfl (lv_at hl 0 rfl) ?_
  refine lv_iconst (v := 1) hx hb dL_law_1796 (by decide) ?_
  refine lv_iadd hx hb dL_law_1797 ?_
  refine tp_i (v := 1) (by decide) ?_
  refine va_sld hx hb hX hbl hbA hS (by unfold vp_in; decide) dL_law_1798 ?_
  refine tp_i (v := xs 1) rfl ?_
  refine lv_aload_n hx hb dL_law_1799 rfl (lv_at hl 3 rfl) ?_
  refine lv_iload_n hx hb dL_law_1800 rfl (lv_at hl 0 rfl) ?_
  refine lv_iconst (v := 2) hx hb dL_law_1801 (by decide) ?_
  refine lv_iadd hx hb dL_law_1802 ?_
  refine tp_i (v := 2) (by decide) ?_
  refine va_sld hx hb hX hbl hbA hS (by unfold vp_in; decide) dL_law_1803 ?_
  refine tp_i (v := xs 2) rfl ?_
  refine call_V (As := [.int (xs 1), .int (xs 2)]) (rest := [.int (-2)]) (wr := [(qx, .inr (11, [.ref (u 0), .ref (u 17), .ref (u 31), .ref (u 32), .ref (u 33), .ref (u 34), .ref (u 35), .ref (u 36), .ref (u 37), .ref (u 38), .ref (u 39)])), (u 17, .inr (0, [.int 0, .int 0, .int 0, .int 0, .int 0, .int 0, .int 0, .int 0, .int 0, .int 0, .ref (u 18), .ref (u 19), .ref (u 20), .ref (u 21), .ref (u 22), .ref (u 23), .ref (u 24), .ref (u 25), .ref (u 26), .ref (u 27)]))]) FC hKn (c_X12_reckoned l g qm (v 0) (v 1) (v 2) (v 3) (v 4) (v 5) (v 6) (v 7) (v 8) (v 9) (v 10) (v 11) (v 12) (v 13) (v 14) (xs 1) (xs 2)) m_yX12_reckoned b_583 (ci := 12) rfl rfl rfl hP hD hS hA [0, 1] [2, 3] rfl (by decide) rfl (by decide) (by decide) rfl hl.1 rfl (Nat.le_of_ble_eq_true rfl) dL_law_1804 ⟨(Nat.le_of_ble_eq_true rfl), (Nat.le_of_ble_eq_true rfl)⟩ ⟨(Nat.le_of_ble_eq_true rfl), (Nat.le_of_ble_eq_true rfl)⟩ (fun u2 H locs _ hP hD hS => ?_)
  have hP : va_P g.1 vwCl [(qx, .inr (11, [.ref (u 0), .ref (u 17), .ref (u 31), .ref (u 32), .ref (u 33), .ref (u 34), .ref (u 35), .ref (u 36), .ref (u 37), .ref (u 38), .ref (u 39)])), (u 17, .inr (0, [.int 0, .int 0, .int 0, .int 0, .int 0, .int 0, .int 0, .int 0, .int 0, .int 0, .ref (u 18), .ref (u 19), .ref (u 20), .ref (u 21), .ref (u 22), .ref (u 23), .ref (u 24), .ref (u 25), .ref (u 26), .ref (u 27)])), (qm, .inr (12, [.int 0, .ref (v 0), .ref (v 1), .ref (v 2), .ref (v 3), .int 0, .ref (v 4), .int 0, .int 0, .int 0, .int 0, .int 0, .int 0, .int (-1), .ref (v 5), .ref (v 6), .int 0, .int 0, .int 0, .ref (v 7), .ref (v 8), .int 0, .int 0, .ref (v 9), .ref (v 10), .ref (v 11), .ref (v 12), .ref (v 13), .ref (v 14)])), (v 0, .inl (g.2 0, 225, .inl (fun _ => 0)))] H := hP
  have hD : va_D (lA s) [(qx, .inr (11, [.ref (u 0), .ref (u 17), .ref (u 31), .ref (u 32), .ref (u 33), .ref (u 34), .ref (u 35), .ref (u 36), .ref (u 37), .ref (u 38), .ref (u 39)])), (u 17, .inr (0, [.int 0, .int 0, .int 0, .int 0, .int 0, .int 0, .int 0, .int 0, .int 0, .int 0, .ref (u 18), .ref (u 19), .ref (u 20), .ref (u 21), .ref (u 22), .ref (u 23), .ref (u 24), .ref (u 25), .ref (u 26), .ref (u 27)])), (qm, .inr (12, [.int 0, .ref (v 0), .ref (v 1), .ref (v 2), .ref (v 3), .int 0, .ref (v 4), .int 0, .int 0, .int 0, .int 0, .int 0, .int 0, .int (-1), .ref (v 5), .ref (v 6), .int 0, .int 0, .int 0, .ref (v 7), .ref (v 8), .int 0, .int 0, .ref (v 9), .ref (v 10), .ref (v 11), .ref (v 12), .ref (v 13), .ref (v 14)])), (v 0, .inl (g.2 0, 225, .inl (fun _ => 0)))] := hD
  refine W.eq (g2 := F0 m 1807 ls [.int (-2), .int (-2)]) rfl ?_
  refine lv_icmp_eq (tgt := 2465) hx hb dL_law_1807 (by decide) (fun _ => ?_) (fun h => absurd rfl h)
  exact law_end C0 hS (lv_sub hl [0, 1, 2, 3] rfl) (Nat.le_of_ble_eq_true rfl) (Nat.le_of_ble_eq_true rfl)
set_option maxRecDepth 100000 in
set_option maxHeartbeats 4000000 in
/-- ends -/
theorem law_50 {p : Program} {e : Env} {s : State} {m : MethodId} {below : List Frame} {meth : Method} {c : Code} {l : Launch} {g : GG} {b : Nat} {xs : Nat → Int32} (C0 : lw_At p s m meth c b 6 xs) (hKn : Kn g s) {H : Heap} {locs : List Loc} {ls : Array Slot} {qx qm : Nat} {u v : Nat → Nat} (hP : va_P g.1 vwCl (WX g qx u ++ WM g qm v) H) (hD : va_D (lA s) (WX g qx u ++ WM g qm v)) (hS : va_S (lA s) s.heap H locs) (hl : lv_has ls 4 [(3, .int 0), (2, .ref qm), (1, .ref qx), (0, .ref b)]) : W p l e room_1 s m #[Value.ref b] below meth c H locs 122 12079 (lw_Z below #[Value.ref b] s) (F0 m 1812 ls []) := by
  obtain ⟨hx, hb, hr, hml, hown, hts, hX, hbl, hlocks, hgv⟩ := id C0
  have hA : ∀ q : Nat, s.heap.size ≤ q → lA s q := fun _ h => h
  have hbA : ¬ lA s b := Nat.not_le.mpr hbl
  have hB : ∀ w ∈ BIG, w.before #[Value.ref b] s = true := fun w h => hts w (big_in w h)
  have FC : CallFix p m c cL_law 4 s #[Value.ref b] BIG RL := ⟨hx, hb, hml, hown, hB⟩
  have hP : va_P g.1 vwCl [(qx, .inr (11, [.ref (u 0), .ref (u 17), .ref (u 31), .ref (u 32), .ref (u 33), .ref (u 34), .ref (u 35), .ref (u 36), .ref (u 37), .ref (u 38), .ref (u 39)])), (u 17, .inr (0, [.int 0, .int 0, .int 0, .int 0, .int 0, .int 0, .int 0, .int 0, .int 0, .int 0, .ref (u 18), .ref (u 19), .ref (u 20), .ref (u 21), .ref (u 22), .ref (u 23), .ref (u 24), .ref (u 25), .ref (u 26), .ref (u 27)])), (qm, .inr (12, [.int 0, .ref (v 0), .ref (v 1), .ref (v 2), .ref (v 3), .int 0, .ref (v 4), .int 0, .int 0, .int 0, .int 0, .int 0, .int 0, .int (-1), .ref (v 5), .ref (v 6), .int 0, .int 0, .int 0, .ref (v 7), .ref (v 8), .int 0, .int 0, .ref (v 9), .ref (v 10), .ref (v 11), .ref (v 12), .ref (v 13), .ref (v 14)])), (v 0, .inl (g.2 0, 225, .inl (fun _ => 0)))] H := hP.sub [0, 18, 85, 86] rfl
  have hD : va_D (lA s) [(qx, .inr (11, [.ref (u 0), .ref (u 17), .ref (u 31), .ref (u 32), .ref (u 33), .ref (u 34), .ref (u 35), .ref (u 36), .ref (u 37), .ref (u 38), .ref (u 39)])), (u 17, .inr (0, [.int 0, .int 0, .int 0, .int 0, .int 0, .int 0, .int 0, .int 0, .int 0, .int 0, .ref (u 18), .ref (u 19), .ref (u 20), .ref (u 21), .ref (u 22), .ref (u 23), .ref (u 24), .ref (u 25), .ref (u 26), .ref (u 27)])), (qm, .inr (12, [.int 0, .ref (v 0), .ref (v 1), .ref (v 2), .ref (v 3), .int 0, .ref (v 4), .int 0, .int 0, .int 0, .int 0, .int 0, .int 0, .int (-1), .ref (v 5), .ref (v 6), .int 0, .int 0, .int 0, .ref (v 7), .ref (v 8), .int 0, .int 0, .ref (v 9), .ref (v 10), .ref (v 11), .ref (v 12), .ref (v 13), .ref (v 14)])), (v 0, .inl (g.2 0, 225, .inl (fun _ => 0)))] := hD.sub [0, 18, 85, 86] (by decide) rfl
  refine lv_aload_n hx hb dL_law_1812 rfl (lv_at hl 2 rfl) ?_
  refine lv_aload_n hx hb dL_law_1813 rfl (lv_at hl 3 rfl) ?_
  refine lv_iload_n hx hb dL_law_1814 rfl (lv_at hl 0 rfl) ?_
  refine lv_iconst (v := 1) hx hb dL_law_1815 (by decide) ?_
  refine lv_iadd hx hb dL_law_1816 ?_
  refine tp_i (v := 1) (by decide) ?_
  refine va_sld hx hb hX hbl hbA hS (by unfold vp_in; decide) dL_law_1817 ?_
  refine tp_i (v := xs 1) rfl ?_
  refine call_V (As := [.int (xs 1)]) (rest := []) (wr := [(qm, .inr (12, [.int 0, .ref (v 0), .ref (v 1), .ref (v 2), .ref (v 3), .int 0, .ref (v 4), .int 0, .int 0, .int 0, .int 0, .int 0, .int 0, .int (-1), .ref (v 5), .ref (v 6), .int 0, .int 0, .int 0, .ref (v 7), .ref (v 8), .int 0, .int 0, .ref (v 9), .ref (v 10), .ref (v 11), .ref (v 12), .ref (v 13), .ref (v 14)])), (v 0, .inl (g.2 0, 225, .inl (fun _ => 0)))]) FC hKn (c_X11_ends l g qx (u 17) (u 0) (u 31) (u 32) (u 33) (u 34) (u 35) (u 36) (u 37) (u 38) (u 39) (u 18) (u 19) (u 20) (u 21) (u 22) (u 23) (u 24) (u 25) (u 26) (u 27) (xs 1)) m_yX11_ends b_584 (ci := 11) rfl rfl rfl hP hD hS hA [0, 1] [2, 3] rfl (by decide) rfl (by decide) (by decide) rfl hl.1 rfl (Nat.le_of_ble_eq_true rfl) dL_law_1818 ⟨(Nat.le_of_ble_eq_true rfl), (Nat.le_of_ble_eq_true rfl)⟩ ⟨(Nat.le_of_ble_eq_true rfl), (Nat.le_of_ble_eq_true rfl)⟩ (fun u1 H locs _ hP hD hS => ?_)
  have hP : va_P g.1 vwCl [(qm, .inr (12, [.int 0, .ref (v 0), .ref (v 1), .ref (v 2), .ref (v 3), .int 0, .ref (v 4), .int 0, .int 0, .int 0, .int 0, .int 0, .int 0, .int (-1), .ref (v 5), .ref (v 6), .int 0, .int 0, .int 0, .ref (v 7), .ref (v 8), .int 0, .int 0, .ref (v 9), .ref (v 10), .ref (v 11), .ref (v 12), .ref (v 13), .ref (v 14)])), (v 0, .inl (g.2 0, 225, .inl (fun _ => 0))), (qx, .inr (11, [.ref (u 0), .ref (u 17), .ref (u 31), .ref (u 32), .ref (u 33), .ref (u 34), .ref (u 35), .ref (u 36), .ref (u 37), .ref (u 38), .ref (u 39)])), (u 17, .inr (0, [.int 0, .int 0, .int 0, .int 0, .int 0, .int 0, .int 0, .int 0, .int 0, .int 0, .ref (u 18), .ref (u 19), .ref (u 20), .ref (u 21), .ref (u 22), .ref (u 23), .ref (u 24), .ref (u 25), .ref (u 26), .ref (u 27)]))] H := hP
  have hD : va_D (lA s) [(qm, .inr (12, [.int 0, .ref (v 0), .ref (v 1), .ref (v 2), .ref (v 3), .int 0, .ref (v 4), .int 0, .int 0, .int 0, .int 0, .int 0, .int 0, .int (-1), .ref (v 5), .ref (v 6), .int 0, .int 0, .int 0, .ref (v 7), .ref (v 8), .int 0, .int 0, .ref (v 9), .ref (v 10), .ref (v 11), .ref (v 12), .ref (v 13), .ref (v 14)])), (v 0, .inl (g.2 0, 225, .inl (fun _ => 0))), (qx, .inr (11, [.ref (u 0), .ref (u 17), .ref (u 31), .ref (u 32), .ref (u 33), .ref (u 34), .ref (u 35), .ref (u 36), .ref (u 37), .ref (u 38), .ref (u 39)])), (u 17, .inr (0, [.int 0, .int 0, .int 0, .int 0, .int 0, .int 0, .int 0, .int 0, .int 0, .int 0, .ref (u 18), .ref (u 19), .ref (u 20), .ref (u 21), .ref (u 22), .ref (u 23), .ref (u 24), .ref (u 25), .ref (u 26), .ref (u 27)]))] := hD
  refine W.eq (g2 := F0 m 1821 ls [.int (-2)]) rfl ?_
  refine lv_aload_n hx hb dL_law_1821 rfl (lv_at hl 1 rfl) ?_
  refine lv_aload_n hx hb dL_law_1822 rfl (lv_at hl 3 rfl) ?_
  refine lv_iload_n hx hb dL_law_1823 rfl (lv_at hl 0 rfl) ?_
  refine lv_iconst (v := 1) hx hb dL_law_1824 (by decide) ?_
  refine lv_iadd hx hb dL_law_1825 ?_
  refine tp_i (v := 1) (by decide) ?_
  refine va_sld hx hb hX hbl hbA hS (by unfold vp_in; decide) dL_law_1826 ?_
  refine tp_i (v := xs 1) rfl ?_
  refine call_V (As := [.int (xs 1)]) (rest := [.int (-2)]) (wr := [(qx, .inr (11, [.ref (u 0), .ref (u 17), .ref (u 31), .ref (u 32), .ref (u 33), .ref (u 34), .ref (u 35), .ref (u 36), .ref (u 37), .ref (u 38), .ref (u 39)])), (u 17, .inr (0, [.int 0, .int 0, .int 0, .int 0, .int 0, .int 0, .int 0, .int 0, .int 0, .int 0, .ref (u 18), .ref (u 19), .ref (u 20), .ref (u 21), .ref (u 22), .ref (u 23), .ref (u 24), .ref (u 25), .ref (u 26), .ref (u 27)]))]) FC hKn (c_X12_ends l g qm (v 0) (v 1) (v 2) (v 3) (v 4) (v 5) (v 6) (v 7) (v 8) (v 9) (v 10) (v 11) (v 12) (v 13) (v 14) (xs 1)) m_yX12_ends b_585 (ci := 12) rfl rfl rfl hP hD hS hA [0, 1] [2, 3] rfl (by decide) rfl (by decide) (by decide) rfl hl.1 rfl (Nat.le_of_ble_eq_true rfl) dL_law_1827 ⟨(Nat.le_of_ble_eq_true rfl), (Nat.le_of_ble_eq_true rfl)⟩ ⟨(Nat.le_of_ble_eq_true rfl), (Nat.le_of_ble_eq_true rfl)⟩ (fun u2 H locs _ hP hD hS => ?_)
  have hP : va_P g.1 vwCl [(qx, .inr (11, [.ref (u 0), .ref (u 17), .ref (u 31), .ref (u 32), .ref (u 33), .ref (u 34), .ref (u 35), .ref (u 36), .ref (u 37), .ref (u 38), .ref (u 39)])), (u 17, .inr (0, [.int 0, .int 0, .int 0, .int 0, .int 0, .int 0, .int 0, .int 0, .int 0, .int 0, .ref (u 18), .ref (u 19), .ref (u 20), .ref (u 21), .ref (u 22), .ref (u 23), .ref (u 24), .ref (u 25), .ref (u 26), .ref (u 27)])), (qm, .inr (12, [.int 0, .ref (v 0), .ref (v 1), .ref (v 2), .ref (v 3), .int 0, .ref (v 4), .int 0, .int 0, .int 0, .int 0, .int 0, .int 0, .int (-1), .ref (v 5), .ref (v 6), .int 0, .int 0, .int 0, .ref (v 7), .ref (v 8), .int 0, .int 0, .ref (v 9), .ref (v 10), .ref (v 11), .ref (v 12), .ref (v 13), .ref (v 14)])), (v 0, .inl (g.2 0, 225, .inl (fun _ => 0)))] H := hP
  have hD : va_D (lA s) [(qx, .inr (11, [.ref (u 0), .ref (u 17), .ref (u 31), .ref (u 32), .ref (u 33), .ref (u 34), .ref (u 35), .ref (u 36), .ref (u 37), .ref (u 38), .ref (u 39)])), (u 17, .inr (0, [.int 0, .int 0, .int 0, .int 0, .int 0, .int 0, .int 0, .int 0, .int 0, .int 0, .ref (u 18), .ref (u 19), .ref (u 20), .ref (u 21), .ref (u 22), .ref (u 23), .ref (u 24), .ref (u 25), .ref (u 26), .ref (u 27)])), (qm, .inr (12, [.int 0, .ref (v 0), .ref (v 1), .ref (v 2), .ref (v 3), .int 0, .ref (v 4), .int 0, .int 0, .int 0, .int 0, .int 0, .int 0, .int (-1), .ref (v 5), .ref (v 6), .int 0, .int 0, .int 0, .ref (v 7), .ref (v 8), .int 0, .int 0, .ref (v 9), .ref (v 10), .ref (v 11), .ref (v 12), .ref (v 13), .ref (v 14)])), (v 0, .inl (g.2 0, 225, .inl (fun _ => 0)))] := hD
  refine W.eq (g2 := F0 m 1830 ls [.int (-2), .int (-2)]) rfl ?_
  refine lv_icmp_eq (tgt := 2465) hx hb dL_law_1830 (by decide) (fun _ => ?_) (fun h => absurd rfl h)
  exact law_end C0 hS (lv_sub hl [0, 1, 2, 3] rfl) (Nat.le_of_ble_eq_true rfl) (Nat.le_of_ble_eq_true rfl)
set_option maxRecDepth 100000 in
set_option maxHeartbeats 4000000 in
/-- joined -/
theorem law_51 {p : Program} {e : Env} {s : State} {m : MethodId} {below : List Frame} {meth : Method} {c : Code} {l : Launch} {g : GG} {b : Nat} {xs : Nat → Int32} (C0 : lw_At p s m meth c b 6 xs) (hKn : Kn g s) {H : Heap} {locs : List Loc} {ls : Array Slot} {qx qm : Nat} {u v : Nat → Nat} (hP : va_P g.1 vwCl (WX g qx u ++ WM g qm v) H) (hD : va_D (lA s) (WX g qx u ++ WM g qm v)) (hS : va_S (lA s) s.heap H locs) (hl : lv_has ls 4 [(3, .int 0), (2, .ref qm), (1, .ref qx), (0, .ref b)]) : W p l e room_1 s m #[Value.ref b] below meth c H locs 122 12079 (lw_Z below #[Value.ref b] s) (F0 m 1835 ls []) := by
  obtain ⟨hx, hb, hr, hml, hown, hts, hX, hbl, hlocks, hgv⟩ := id C0
  have hA : ∀ q : Nat, s.heap.size ≤ q → lA s q := fun _ h => h
  have hbA : ¬ lA s b := Nat.not_le.mpr hbl
  have hB : ∀ w ∈ BIG, w.before #[Value.ref b] s = true := fun w h => hts w (big_in w h)
  have FC : CallFix p m c cL_law 4 s #[Value.ref b] BIG RL := ⟨hx, hb, hml, hown, hB⟩
  have hP : va_P g.1 vwCl [(qx, .inr (11, [.ref (u 0), .ref (u 17), .ref (u 31), .ref (u 32), .ref (u 33), .ref (u 34), .ref (u 35), .ref (u 36), .ref (u 37), .ref (u 38), .ref (u 39)])), (u 17, .inr (0, [.int 0, .int 0, .int 0, .int 0, .int 0, .int 0, .int 0, .int 0, .int 0, .int 0, .ref (u 18), .ref (u 19), .ref (u 20), .ref (u 21), .ref (u 22), .ref (u 23), .ref (u 24), .ref (u 25), .ref (u 26), .ref (u 27)])), (qm, .inr (12, [.int 0, .ref (v 0), .ref (v 1), .ref (v 2), .ref (v 3), .int 0, .ref (v 4), .int 0, .int 0, .int 0, .int 0, .int 0, .int 0, .int (-1), .ref (v 5), .ref (v 6), .int 0, .int 0, .int 0, .ref (v 7), .ref (v 8), .int 0, .int 0, .ref (v 9), .ref (v 10), .ref (v 11), .ref (v 12), .ref (v 13), .ref (v 14)])), (v 0, .inl (g.2 0, 225, .inl (fun _ => 0)))] H := hP.sub [0, 18, 85, 86] rfl
  have hD : va_D (lA s) [(qx, .inr (11, [.ref (u 0), .ref (u 17), .ref (u 31), .ref (u 32), .ref (u 33), .ref (u 34), .ref (u 35), .ref (u 36), .ref (u 37), .ref (u 38), .ref (u 39)])), (u 17, .inr (0, [.int 0, .int 0, .int 0, .int 0, .int 0, .int 0, .int 0, .int 0, .int 0, .int 0, .ref (u 18), .ref (u 19), .ref (u 20), .ref (u 21), .ref (u 22), .ref (u 23), .ref (u 24), .ref (u 25), .ref (u 26), .ref (u 27)])), (qm, .inr (12, [.int 0, .ref (v 0), .ref (v 1), .ref (v 2), .ref (v 3), .int 0, .ref (v 4), .int 0, .int 0, .int 0, .int 0, .int 0, .int 0, .int (-1), .ref (v 5), .ref (v 6), .int 0, .int 0, .int 0, .ref (v 7), .ref (v 8), .int 0, .int 0, .ref (v 9), .ref (v 10), .ref (v 11), .ref (v 12), .ref (v 13), .ref (v 14)])), (v 0, .inl (g.2 0, 225, .inl (fun _ => 0)))] := hD.sub [0, 18, 85, 86] (by decide) rfl
  refine lv_aload_n hx hb dL_law_1835 rfl (lv_at hl 2 rfl) ?_
  refine lv_aload_n hx hb dL_law_1836 rfl (lv_at hl 3 rfl) ?_
  refine lv_iload_n hx hb dL_law_1837 rfl (lv_at hl 0 rfl) ?_
  refine lv_iconst (v := 1) hx hb dL_law_1838 (by decide) ?_
  refine lv_iadd hx hb dL_law_1839 ?_
  refine tp_i (v := 1) (by decide) ?_
  refine va_sld hx hb hX hbl hbA hS (by unfold vp_in; decide) dL_law_1840 ?_
  refine tp_i (v := xs 1) rfl ?_
  refine call_V (As := [.int (xs 1)]) (rest := []) (wr := [(qm, .inr (12, [.int 0, .ref (v 0), .ref (v 1), .ref (v 2), .ref (v 3), .int 0, .ref (v 4), .int 0, .int 0, .int 0, .int 0, .int 0, .int 0, .int (-1), .ref (v 5), .ref (v 6), .int 0, .int 0, .int 0, .ref (v 7), .ref (v 8), .int 0, .int 0, .ref (v 9), .ref (v 10), .ref (v 11), .ref (v 12), .ref (v 13), .ref (v 14)])), (v 0, .inl (g.2 0, 225, .inl (fun _ => 0)))]) FC hKn (c_X11_joined l g qx (u 17) (u 0) (u 31) (u 32) (u 33) (u 34) (u 35) (u 36) (u 37) (u 38) (u 39) (u 18) (u 19) (u 20) (u 21) (u 22) (u 23) (u 24) (u 25) (u 26) (u 27) (xs 1)) m_yX11_joined b_586 (ci := 11) rfl rfl rfl hP hD hS hA [0, 1] [2, 3] rfl (by decide) rfl (by decide) (by decide) rfl hl.1 rfl (Nat.le_of_ble_eq_true rfl) dL_law_1841 ⟨(Nat.le_of_ble_eq_true rfl), (Nat.le_of_ble_eq_true rfl)⟩ ⟨(Nat.le_of_ble_eq_true rfl), (Nat.le_of_ble_eq_true rfl)⟩ (fun u1 H locs _ hP hD hS => ?_)
  have hP : va_P g.1 vwCl [(qm, .inr (12, [.int 0, .ref (v 0), .ref (v 1), .ref (v 2), .ref (v 3), .int 0, .ref (v 4), .int 0, .int 0, .int 0, .int 0, .int 0, .int 0, .int (-1), .ref (v 5), .ref (v 6), .int 0, .int 0, .int 0, .ref (v 7), .ref (v 8), .int 0, .int 0, .ref (v 9), .ref (v 10), .ref (v 11), .ref (v 12), .ref (v 13), .ref (v 14)])), (v 0, .inl (g.2 0, 225, .inl (fun _ => 0))), (qx, .inr (11, [.ref (u 0), .ref (u 17), .ref (u 31), .ref (u 32), .ref (u 33), .ref (u 34), .ref (u 35), .ref (u 36), .ref (u 37), .ref (u 38), .ref (u 39)])), (u 17, .inr (0, [.int 0, .int 0, .int 0, .int 0, .int 0, .int 0, .int 0, .int 0, .int 0, .int 0, .ref (u 18), .ref (u 19), .ref (u 20), .ref (u 21), .ref (u 22), .ref (u 23), .ref (u 24), .ref (u 25), .ref (u 26), .ref (u 27)]))] H := hP
  have hD : va_D (lA s) [(qm, .inr (12, [.int 0, .ref (v 0), .ref (v 1), .ref (v 2), .ref (v 3), .int 0, .ref (v 4), .int 0, .int 0, .int 0, .int 0, .int 0, .int 0, .int (-1), .ref (v 5), .ref (v 6), .int 0, .int 0, .int 0, .ref (v 7), .ref (v 8), .int 0, .int 0, .ref (v 9), .ref (v 10), .ref (v 11), .ref (v 12), .ref (v 13), .ref (v 14)])), (v 0, .inl (g.2 0, 225, .inl (fun _ => 0))), (qx, .inr (11, [.ref (u 0), .ref (u 17), .ref (u 31), .ref (u 32), .ref (u 33), .ref (u 34), .ref (u 35), .ref (u 36), .ref (u 37), .ref (u 38), .ref (u 39)])), (u 17, .inr (0, [.int 0, .int 0, .int 0, .int 0, .int 0, .int 0, .int 0, .int 0, .int 0, .int 0, .ref (u 18), .ref (u 19), .ref (u 20), .ref (u 21), .ref (u 22), .ref (u 23), .ref (u 24), .ref (u 25), .ref (u 26), .ref (u 27)]))] := hD
  refine W.eq (g2 := F0 m 1844 ls [.int (-2)]) rfl ?_
  refine lv_aload_n hx hb dL_law_1844 rfl (lv_at hl 1 rfl) ?_
  refine lv_aload_n hx hb dL_law_1845 rfl (lv_at hl 3 rfl) ?_
  refine lv_iload_n hx hb dL_law_1846 rfl (lv_at hl 0 rfl) ?_
  refine lv_iconst (v := 1) hx hb dL_law_1847 (by decide) ?_
  refine lv_iadd hx hb dL_law_1848 ?_
  refine tp_i (v := 1) (by decide) ?_
  refine va_sld hx hb hX hbl hbA hS (by unfold vp_in; decide) dL_law_1849 ?_
  refine tp_i (v := xs 1) rfl ?_
  refine call_V (As := [.int (xs 1)]) (rest := [.int (-2)]) (wr := [(qx, .inr (11, [.ref (u 0), .ref (u 17), .ref (u 31), .ref (u 32), .ref (u 33), .ref (u 34), .ref (u 35), .ref (u 36), .ref (u 37), .ref (u 38), .ref (u 39)])), (u 17, .inr (0, [.int 0, .int 0, .int 0, .int 0, .int 0, .int 0, .int 0, .int 0, .int 0, .int 0, .ref (u 18), .ref (u 19), .ref (u 20), .ref (u 21), .ref (u 22), .ref (u 23), .ref (u 24), .ref (u 25), .ref (u 26), .ref (u 27)]))]) FC hKn (c_X12_joined l g qm (v 0) (v 1) (v 2) (v 3) (v 4) (v 5) (v 6) (v 7) (v 8) (v 9) (v 10) (v 11) (v 12) (v 13) (v 14) (xs 1)) m_yX12_joined b_587 (ci := 12) rfl rfl rfl hP hD hS hA [0, 1] [2, 3] rfl (by decide) rfl (by decide) (by decide) rfl hl.1 rfl (Nat.le_of_ble_eq_true rfl) dL_law_1850 ⟨(Nat.le_of_ble_eq_true rfl), (Nat.le_of_ble_eq_true rfl)⟩ ⟨(Nat.le_of_ble_eq_true rfl), (Nat.le_of_ble_eq_true rfl)⟩ (fun u2 H locs _ hP hD hS => ?_)
  have hP : va_P g.1 vwCl [(qx, .inr (11, [.ref (u 0), .ref (u 17), .ref (u 31), .ref (u 32), .ref (u 33), .ref (u 34), .ref (u 35), .ref (u 36), .ref (u 37), .ref (u 38), .ref (u 39)])), (u 17, .inr (0, [.int 0, .int 0, .int 0, .int 0, .int 0, .int 0, .int 0, .int 0, .int 0, .int 0, .ref (u 18), .ref (u 19), .ref (u 20), .ref (u 21), .ref (u 22), .ref (u 23), .ref (u 24), .ref (u 25), .ref (u 26), .ref (u 27)])), (qm, .inr (12, [.int 0, .ref (v 0), .ref (v 1), .ref (v 2), .ref (v 3), .int 0, .ref (v 4), .int 0, .int 0, .int 0, .int 0, .int 0, .int 0, .int (-1), .ref (v 5), .ref (v 6), .int 0, .int 0, .int 0, .ref (v 7), .ref (v 8), .int 0, .int 0, .ref (v 9), .ref (v 10), .ref (v 11), .ref (v 12), .ref (v 13), .ref (v 14)])), (v 0, .inl (g.2 0, 225, .inl (fun _ => 0)))] H := hP
  have hD : va_D (lA s) [(qx, .inr (11, [.ref (u 0), .ref (u 17), .ref (u 31), .ref (u 32), .ref (u 33), .ref (u 34), .ref (u 35), .ref (u 36), .ref (u 37), .ref (u 38), .ref (u 39)])), (u 17, .inr (0, [.int 0, .int 0, .int 0, .int 0, .int 0, .int 0, .int 0, .int 0, .int 0, .int 0, .ref (u 18), .ref (u 19), .ref (u 20), .ref (u 21), .ref (u 22), .ref (u 23), .ref (u 24), .ref (u 25), .ref (u 26), .ref (u 27)])), (qm, .inr (12, [.int 0, .ref (v 0), .ref (v 1), .ref (v 2), .ref (v 3), .int 0, .ref (v 4), .int 0, .int 0, .int 0, .int 0, .int 0, .int 0, .int (-1), .ref (v 5), .ref (v 6), .int 0, .int 0, .int 0, .ref (v 7), .ref (v 8), .int 0, .int 0, .ref (v 9), .ref (v 10), .ref (v 11), .ref (v 12), .ref (v 13), .ref (v 14)])), (v 0, .inl (g.2 0, 225, .inl (fun _ => 0)))] := hD
  refine W.eq (g2 := F0 m 1853 ls [.int (-2), .int (-2)]) rfl ?_
  refine lv_icmp_eq (tgt := 2465) hx hb dL_law_1853 (by decide) (fun _ => ?_) (fun h => absurd rfl h)
  exact law_end C0 hS (lv_sub hl [0, 1, 2, 3] rfl) (Nat.le_of_ble_eq_true rfl) (Nat.le_of_ble_eq_true rfl)
set_option maxRecDepth 100000 in
set_option maxHeartbeats 4000000 in
/-- letter -/
theorem law_52 {p : Program} {e : Env} {s : State} {m : MethodId} {below : List Frame} {meth : Method} {c : Code} {l : Launch} {g : GG} {b : Nat} {xs : Nat → Int32} (C0 : lw_At p s m meth c b 6 xs) (hKn : Kn g s) {H : Heap} {locs : List Loc} {ls : Array Slot} {qx qm : Nat} {u v : Nat → Nat} (hP : va_P g.1 vwCl (WX g qx u ++ WM g qm v) H) (hD : va_D (lA s) (WX g qx u ++ WM g qm v)) (hS : va_S (lA s) s.heap H locs) (hl : lv_has ls 4 [(3, .int 0), (2, .ref qm), (1, .ref qx), (0, .ref b)]) : W p l e room_1 s m #[Value.ref b] below meth c H locs 122 12079 (lw_Z below #[Value.ref b] s) (F0 m 1858 ls []) := by
  obtain ⟨hx, hb, hr, hml, hown, hts, hX, hbl, hlocks, hgv⟩ := id C0
  have hA : ∀ q : Nat, s.heap.size ≤ q → lA s q := fun _ h => h
  have hbA : ¬ lA s b := Nat.not_le.mpr hbl
  have hB : ∀ w ∈ BIG, w.before #[Value.ref b] s = true := fun w h => hts w (big_in w h)
  have FC : CallFix p m c cL_law 4 s #[Value.ref b] BIG RL := ⟨hx, hb, hml, hown, hB⟩
  have hP : va_P g.1 vwCl [(qx, .inr (11, [.ref (u 0), .ref (u 17), .ref (u 31), .ref (u 32), .ref (u 33), .ref (u 34), .ref (u 35), .ref (u 36), .ref (u 37), .ref (u 38), .ref (u 39)])), (u 17, .inr (0, [.int 0, .int 0, .int 0, .int 0, .int 0, .int 0, .int 0, .int 0, .int 0, .int 0, .ref (u 18), .ref (u 19), .ref (u 20), .ref (u 21), .ref (u 22), .ref (u 23), .ref (u 24), .ref (u 25), .ref (u 26), .ref (u 27)])), (qm, .inr (12, [.int 0, .ref (v 0), .ref (v 1), .ref (v 2), .ref (v 3), .int 0, .ref (v 4), .int 0, .int 0, .int 0, .int 0, .int 0, .int 0, .int (-1), .ref (v 5), .ref (v 6), .int 0, .int 0, .int 0, .ref (v 7), .ref (v 8), .int 0, .int 0, .ref (v 9), .ref (v 10), .ref (v 11), .ref (v 12), .ref (v 13), .ref (v 14)])), (v 0, .inl (g.2 0, 225, .inl (fun _ => 0)))] H := hP.sub [0, 18, 85, 86] rfl
  have hD : va_D (lA s) [(qx, .inr (11, [.ref (u 0), .ref (u 17), .ref (u 31), .ref (u 32), .ref (u 33), .ref (u 34), .ref (u 35), .ref (u 36), .ref (u 37), .ref (u 38), .ref (u 39)])), (u 17, .inr (0, [.int 0, .int 0, .int 0, .int 0, .int 0, .int 0, .int 0, .int 0, .int 0, .int 0, .ref (u 18), .ref (u 19), .ref (u 20), .ref (u 21), .ref (u 22), .ref (u 23), .ref (u 24), .ref (u 25), .ref (u 26), .ref (u 27)])), (qm, .inr (12, [.int 0, .ref (v 0), .ref (v 1), .ref (v 2), .ref (v 3), .int 0, .ref (v 4), .int 0, .int 0, .int 0, .int 0, .int 0, .int 0, .int (-1), .ref (v 5), .ref (v 6), .int 0, .int 0, .int 0, .ref (v 7), .ref (v 8), .int 0, .int 0, .ref (v 9), .ref (v 10), .ref (v 11), .ref (v 12), .ref (v 13), .ref (v 14)])), (v 0, .inl (g.2 0, 225, .inl (fun _ => 0)))] := hD.sub [0, 18, 85, 86] (by decide) rfl
  refine lv_aload_n hx hb dL_law_1858 rfl (lv_at hl 2 rfl) ?_
  refine lv_aload_n hx hb dL_law_1859 rfl (lv_at hl 3 rfl) ?_
  refine lv_iload_n hx hb dL_law_1860 rfl (lv_at hl 0 rfl) ?_
  refine lv_iconst (v := 1) hx hb dL_law_1861 (by decide) ?_
  refine lv_iadd hx hb dL_law_1862 ?_
  refine tp_i (v := 1) (by decide) ?_
  refine va_sld hx hb hX hbl hbA hS (by unfold vp_in; decide) dL_law_1863 ?_
  refine tp_i (v := xs 1) rfl ?_
  refine lv_aload_n hx hb dL_law_1864 rfl (lv_at hl 3 rfl) ?_
  refine lv_iload_n hx hb dL_law_1865 rfl (lv_at hl 0 rfl) ?_
  refine lv_iconst (v := 2) hx hb dL_law_1866 (by decide) ?_
  refine lv_iadd hx hb dL_law_1867 ?_
  refine tp_i (v := 2) (by decide) ?_
  refine va_sld hx hb hX hbl hbA hS (by unfold vp_in; decide) dL_law_1868 ?_
  refine tp_i (v := xs 2) rfl ?_
  refine call_V (As := [.int (xs 1), .int (xs 2)]) (rest := []) (wr := [(qm, .inr (12, [.int 0, .ref (v 0), .ref (v 1), .ref (v 2), .ref (v 3), .int 0, .ref (v 4), .int 0, .int 0, .int 0, .int 0, .int 0, .int 0, .int (-1), .ref (v 5), .ref (v 6), .int 0, .int 0, .int 0, .ref (v 7), .ref (v 8), .int 0, .int 0, .ref (v 9), .ref (v 10), .ref (v 11), .ref (v 12), .ref (v 13), .ref (v 14)])), (v 0, .inl (g.2 0, 225, .inl (fun _ => 0)))]) FC hKn (c_X11_letter l g qx (u 17) (u 0) (u 31) (u 32) (u 33) (u 34) (u 35) (u 36) (u 37) (u 38) (u 39) (u 18) (u 19) (u 20) (u 21) (u 22) (u 23) (u 24) (u 25) (u 26) (u 27) (xs 1) (xs 2)) m_yX11_letter b_588 (ci := 11) rfl rfl rfl hP hD hS hA [0, 1] [2, 3] rfl (by decide) rfl (by decide) (by decide) rfl hl.1 rfl (Nat.le_of_ble_eq_true rfl) dL_law_1869 ⟨(Nat.le_of_ble_eq_true rfl), (Nat.le_of_ble_eq_true rfl)⟩ ⟨(Nat.le_of_ble_eq_true rfl), (Nat.le_of_ble_eq_true rfl)⟩ (fun u1 H locs _ hP hD hS => ?_)
  have hP : va_P g.1 vwCl [(qm, .inr (12, [.int 0, .ref (v 0), .ref (v 1), .ref (v 2), .ref (v 3), .int 0, .ref (v 4), .int 0, .int 0, .int 0, .int 0, .int 0, .int 0, .int (-1), .ref (v 5), .ref (v 6), .int 0, .int 0, .int 0, .ref (v 7), .ref (v 8), .int 0, .int 0, .ref (v 9), .ref (v 10), .ref (v 11), .ref (v 12), .ref (v 13), .ref (v 14)])), (v 0, .inl (g.2 0, 225, .inl (fun _ => 0))), (qx, .inr (11, [.ref (u 0), .ref (u 17), .ref (u 31), .ref (u 32), .ref (u 33), .ref (u 34), .ref (u 35), .ref (u 36), .ref (u 37), .ref (u 38), .ref (u 39)])), (u 17, .inr (0, [.int 0, .int 0, .int 0, .int 0, .int 0, .int 0, .int 0, .int 0, .int 0, .int 0, .ref (u 18), .ref (u 19), .ref (u 20), .ref (u 21), .ref (u 22), .ref (u 23), .ref (u 24), .ref (u 25), .ref (u 26), .ref (u 27)]))] H := hP
  have hD : va_D (lA s) [(qm, .inr (12, [.int 0, .ref (v 0), .ref (v 1), .ref (v 2), .ref (v 3), .int 0, .ref (v 4), .int 0, .int 0, .int 0, .int 0, .int 0, .int 0, .int (-1), .ref (v 5), .ref (v 6), .int 0, .int 0, .int 0, .ref (v 7), .ref (v 8), .int 0, .int 0, .ref (v 9), .ref (v 10), .ref (v 11), .ref (v 12), .ref (v 13), .ref (v 14)])), (v 0, .inl (g.2 0, 225, .inl (fun _ => 0))), (qx, .inr (11, [.ref (u 0), .ref (u 17), .ref (u 31), .ref (u 32), .ref (u 33), .ref (u 34), .ref (u 35), .ref (u 36), .ref (u 37), .ref (u 38), .ref (u 39)])), (u 17, .inr (0, [.int 0, .int 0, .int 0, .int 0, .int 0, .int 0, .int 0, .int 0, .int 0, .int 0, .ref (u 18), .ref (u 19), .ref (u 20), .ref (u 21), .ref (u 22), .ref (u 23), .ref (u 24), .ref (u 25), .ref (u 26), .ref (u 27)]))] := hD
  refine W.eq (g2 := F0 m 1872 ls [.int (-2)]) rfl ?_
  refine lv_aload_n hx hb dL_law_1872 rfl (lv_at hl 1 rfl) ?_
  refine lv_aload_n hx hb dL_law_1873 rfl (lv_at hl 3 rfl) ?_
  refine lv_iload_n hx hb dL_law_1874 rfl (lv_at hl 0 rfl) ?_
  refine lv_iconst (v := 1) hx hb dL_law_1875 (by decide) ?_
  refine lv_iadd hx hb dL_law_1876 ?_
  refine tp_i (v := 1) (by decide) ?_
  refine va_sld hx hb hX hbl hbA hS (by unfold vp_in; decide) dL_law_1877 ?_
  refine tp_i (v := xs 1) rfl ?_
  refine lv_aload_n hx hb dL_law_1878 rfl (lv_at hl 3 rfl) ?_
  refine lv_iload_n hx hb dL_law_1879 rfl (lv_at hl 0 rfl) ?_
  refine lv_iconst (v := 2) hx hb dL_law_1880 (by decide) ?_
  refine lv_iadd hx hb dL_law_1881 ?_
  refine tp_i (v := 2) (by decide) ?_
  refine va_sld hx hb hX hbl hbA hS (by unfold vp_in; decide) dL_law_1882 ?_
  refine tp_i (v := xs 2) rfl ?_
  refine call_V (As := [.int (xs 1), .int (xs 2)]) (rest := [.int (-2)]) (wr := [(qx, .inr (11, [.ref (u 0), .ref (u 17), .ref (u 31), .ref (u 32), .ref (u 33), .ref (u 34), .ref (u 35), .ref (u 36), .ref (u 37), .ref (u 38), .ref (u 39)])), (u 17, .inr (0, [.int 0, .int 0, .int 0, .int 0, .int 0, .int 0, .int 0, .int 0, .int 0, .int 0, .ref (u 18), .ref (u 19), .ref (u 20), .ref (u 21), .ref (u 22), .ref (u 23), .ref (u 24), .ref (u 25), .ref (u 26), .ref (u 27)]))]) FC hKn (c_X12_letter l g qm (v 0) (v 1) (v 2) (v 3) (v 4) (v 5) (v 6) (v 7) (v 8) (v 9) (v 10) (v 11) (v 12) (v 13) (v 14) (xs 1) (xs 2)) m_yX12_letter b_589 (ci := 12) rfl rfl rfl hP hD hS hA [0, 1] [2, 3] rfl (by decide) rfl (by decide) (by decide) rfl hl.1 rfl (Nat.le_of_ble_eq_true rfl) dL_law_1883 ⟨(Nat.le_of_ble_eq_true rfl), (Nat.le_of_ble_eq_true rfl)⟩ ⟨(Nat.le_of_ble_eq_true rfl), (Nat.le_of_ble_eq_true rfl)⟩ (fun u2 H locs _ hP hD hS => ?_)
  have hP : va_P g.1 vwCl [(qx, .inr (11, [.ref (u 0), .ref (u 17), .ref (u 31), .ref (u 32), .ref (u 33), .ref (u 34), .ref (u 35), .ref (u 36), .ref (u 37), .ref (u 38), .ref (u 39)])), (u 17, .inr (0, [.int 0, .int 0, .int 0, .int 0, .int 0, .int 0, .int 0, .int 0, .int 0, .int 0, .ref (u 18), .ref (u 19), .ref (u 20), .ref (u 21), .ref (u 22), .ref (u 23), .ref (u 24), .ref (u 25), .ref (u 26), .ref (u 27)])), (qm, .inr (12, [.int 0, .ref (v 0), .ref (v 1), .ref (v 2), .ref (v 3), .int 0, .ref (v 4), .int 0, .int 0, .int 0, .int 0, .int 0, .int 0, .int (-1), .ref (v 5), .ref (v 6), .int 0, .int 0, .int 0, .ref (v 7), .ref (v 8), .int 0, .int 0, .ref (v 9), .ref (v 10), .ref (v 11), .ref (v 12), .ref (v 13), .ref (v 14)])), (v 0, .inl (g.2 0, 225, .inl (fun _ => 0)))] H := hP
  have hD : va_D (lA s) [(qx, .inr (11, [.ref (u 0), .ref (u 17), .ref (u 31), .ref (u 32), .ref (u 33), .ref (u 34), .ref (u 35), .ref (u 36), .ref (u 37), .ref (u 38), .ref (u 39)])), (u 17, .inr (0, [.int 0, .int 0, .int 0, .int 0, .int 0, .int 0, .int 0, .int 0, .int 0, .int 0, .ref (u 18), .ref (u 19), .ref (u 20), .ref (u 21), .ref (u 22), .ref (u 23), .ref (u 24), .ref (u 25), .ref (u 26), .ref (u 27)])), (qm, .inr (12, [.int 0, .ref (v 0), .ref (v 1), .ref (v 2), .ref (v 3), .int 0, .ref (v 4), .int 0, .int 0, .int 0, .int 0, .int 0, .int 0, .int (-1), .ref (v 5), .ref (v 6), .int 0, .int 0, .int 0, .ref (v 7), .ref (v 8), .int 0, .int 0, .ref (v 9), .ref (v 10), .ref (v 11), .ref (v 12), .ref (v 13), .ref (v 14)])), (v 0, .inl (g.2 0, 225, .inl (fun _ => 0)))] := hD
  refine W.eq (g2 := F0 m 1886 ls [.int (-2), .int (-2)]) rfl ?_
  refine lv_icmp_eq (tgt := 2465) hx hb dL_law_1886 (by decide) (fun _ => ?_) (fun h => absurd rfl h)
  exact law_end C0 hS (lv_sub hl [0, 1, 2, 3] rfl) (Nat.le_of_ble_eq_true rfl) (Nat.le_of_ble_eq_true rfl)
set_option maxRecDepth 100000 in
set_option maxHeartbeats 4000000 in
/-- all -/
theorem law_53 {p : Program} {e : Env} {s : State} {m : MethodId} {below : List Frame} {meth : Method} {c : Code} {l : Launch} {g : GG} {b : Nat} {xs : Nat → Int32} (C0 : lw_At p s m meth c b 6 xs) (hKn : Kn g s) {H : Heap} {locs : List Loc} {ls : Array Slot} {qx qm : Nat} {u v : Nat → Nat} (hP : va_P g.1 vwCl (WX g qx u ++ WM g qm v) H) (hD : va_D (lA s) (WX g qx u ++ WM g qm v)) (hS : va_S (lA s) s.heap H locs) (hl : lv_has ls 4 [(3, .int 0), (2, .ref qm), (1, .ref qx), (0, .ref b)]) : W p l e room_1 s m #[Value.ref b] below meth c H locs 122 12079 (lw_Z below #[Value.ref b] s) (F0 m 1891 ls []) := by
  obtain ⟨hx, hb, hr, hml, hown, hts, hX, hbl, hlocks, hgv⟩ := id C0
  have hA : ∀ q : Nat, s.heap.size ≤ q → lA s q := fun _ h => h
  have hbA : ¬ lA s b := Nat.not_le.mpr hbl
  have hB : ∀ w ∈ BIG, w.before #[Value.ref b] s = true := fun w h => hts w (big_in w h)
  have FC : CallFix p m c cL_law 4 s #[Value.ref b] BIG RL := ⟨hx, hb, hml, hown, hB⟩
  have hP : va_P g.1 vwCl [(qx, .inr (11, [.ref (u 0), .ref (u 17), .ref (u 31), .ref (u 32), .ref (u 33), .ref (u 34), .ref (u 35), .ref (u 36), .ref (u 37), .ref (u 38), .ref (u 39)])), (u 17, .inr (0, [.int 0, .int 0, .int 0, .int 0, .int 0, .int 0, .int 0, .int 0, .int 0, .int 0, .ref (u 18), .ref (u 19), .ref (u 20), .ref (u 21), .ref (u 22), .ref (u 23), .ref (u 24), .ref (u 25), .ref (u 26), .ref (u 27)])), (qm, .inr (12, [.int 0, .ref (v 0), .ref (v 1), .ref (v 2), .ref (v 3), .int 0, .ref (v 4), .int 0, .int 0, .int 0, .int 0, .int 0, .int 0, .int (-1), .ref (v 5), .ref (v 6), .int 0, .int 0, .int 0, .ref (v 7), .ref (v 8), .int 0, .int 0, .ref (v 9), .ref (v 10), .ref (v 11), .ref (v 12), .ref (v 13), .ref (v 14)])), (v 0, .inl (g.2 0, 225, .inl (fun _ => 0)))] H := hP.sub [0, 18, 85, 86] rfl
  have hD : va_D (lA s) [(qx, .inr (11, [.ref (u 0), .ref (u 17), .ref (u 31), .ref (u 32), .ref (u 33), .ref (u 34), .ref (u 35), .ref (u 36), .ref (u 37), .ref (u 38), .ref (u 39)])), (u 17, .inr (0, [.int 0, .int 0, .int 0, .int 0, .int 0, .int 0, .int 0, .int 0, .int 0, .int 0, .ref (u 18), .ref (u 19), .ref (u 20), .ref (u 21), .ref (u 22), .ref (u 23), .ref (u 24), .ref (u 25), .ref (u 26), .ref (u 27)])), (qm, .inr (12, [.int 0, .ref (v 0), .ref (v 1), .ref (v 2), .ref (v 3), .int 0, .ref (v 4), .int 0, .int 0, .int 0, .int 0, .int 0, .int 0, .int (-1), .ref (v 5), .ref (v 6), .int 0, .int 0, .int 0, .ref (v 7), .ref (v 8), .int 0, .int 0, .ref (v 9), .ref (v 10), .ref (v 11), .ref (v 12), .ref (v 13), .ref (v 14)])), (v 0, .inl (g.2 0, 225, .inl (fun _ => 0)))] := hD.sub [0, 18, 85, 86] (by decide) rfl
  refine lv_aload_n hx hb dL_law_1891 rfl (lv_at hl 2 rfl) ?_
  refine call_V (As := []) (rest := []) (wr := [(qm, .inr (12, [.int 0, .ref (v 0), .ref (v 1), .ref (v 2), .ref (v 3), .int 0, .ref (v 4), .int 0, .int 0, .int 0, .int 0, .int 0, .int 0, .int (-1), .ref (v 5), .ref (v 6), .int 0, .int 0, .int 0, .ref (v 7), .ref (v 8), .int 0, .int 0, .ref (v 9), .ref (v 10), .ref (v 11), .ref (v 12), .ref (v 13), .ref (v 14)])), (v 0, .inl (g.2 0, 225, .inl (fun _ => 0)))]) FC hKn (c_X11_all l g qx (u 17) (u 0) (u 31) (u 32) (u 33) (u 34) (u 35) (u 36) (u 37) (u 38) (u 39) (u 18) (u 19) (u 20) (u 21) (u 22) (u 23) (u 24) (u 25) (u 26) (u 27)) m_yX11_all b_590 (ci := 11) rfl rfl rfl hP hD hS hA [0, 1] [2, 3] rfl (by decide) rfl (by decide) (by decide) rfl hl.1 rfl (Nat.le_of_ble_eq_true rfl) dL_law_1892 ⟨(Nat.le_of_ble_eq_true rfl), (Nat.le_of_ble_eq_true rfl)⟩ ⟨(Nat.le_of_ble_eq_true rfl), (Nat.le_of_ble_eq_true rfl)⟩ (fun u1 H locs _ hP hD hS => ?_)
  have hP : va_P g.1 vwCl [(qm, .inr (12, [.int 0, .ref (v 0), .ref (v 1), .ref (v 2), .ref (v 3), .int 0, .ref (v 4), .int 0, .int 0, .int 0, .int 0, .int 0, .int 0, .int (-1), .ref (v 5), .ref (v 6), .int 0, .int 0, .int 0, .ref (v 7), .ref (v 8), .int 0, .int 0, .ref (v 9), .ref (v 10), .ref (v 11), .ref (v 12), .ref (v 13), .ref (v 14)])), (v 0, .inl (g.2 0, 225, .inl (fun _ => 0))), (qx, .inr (11, [.ref (u 0), .ref (u 17), .ref (u 31), .ref (u 32), .ref (u 33), .ref (u 34), .ref (u 35), .ref (u 36), .ref (u 37), .ref (u 38), .ref (u 39)])), (u 17, .inr (0, [.int 0, .int 0, .int 0, .int 0, .int 0, .int 0, .int 0, .int 0, .int 0, .int 0, .ref (u 18), .ref (u 19), .ref (u 20), .ref (u 21), .ref (u 22), .ref (u 23), .ref (u 24), .ref (u 25), .ref (u 26), .ref (u 27)]))] H := hP
  have hD : va_D (lA s) [(qm, .inr (12, [.int 0, .ref (v 0), .ref (v 1), .ref (v 2), .ref (v 3), .int 0, .ref (v 4), .int 0, .int 0, .int 0, .int 0, .int 0, .int 0, .int (-1), .ref (v 5), .ref (v 6), .int 0, .int 0, .int 0, .ref (v 7), .ref (v 8), .int 0, .int 0, .ref (v 9), .ref (v 10), .ref (v 11), .ref (v 12), .ref (v 13), .ref (v 14)])), (v 0, .inl (g.2 0, 225, .inl (fun _ => 0))), (qx, .inr (11, [.ref (u 0), .ref (u 17), .ref (u 31), .ref (u 32), .ref (u 33), .ref (u 34), .ref (u 35), .ref (u 36), .ref (u 37), .ref (u 38), .ref (u 39)])), (u 17, .inr (0, [.int 0, .int 0, .int 0, .int 0, .int 0, .int 0, .int 0, .int 0, .int 0, .int 0, .ref (u 18), .ref (u 19), .ref (u 20), .ref (u 21), .ref (u 22), .ref (u 23), .ref (u 24), .ref (u 25), .ref (u 26), .ref (u 27)]))] := hD
  refine W.eq (g2 := F0 m 1895 ls [.int (-2)]) rfl ?_
  refine lv_aload_n hx hb dL_law_1895 rfl (lv_at hl 1 rfl) ?_
  refine call_V (As := []) (rest := [.int (-2)]) (wr := [(qx, .inr (11, [.ref (u 0), .ref (u 17), .ref (u 31), .ref (u 32), .ref (u 33), .ref (u 34), .ref (u 35), .ref (u 36), .ref (u 37), .ref (u 38), .ref (u 39)])), (u 17, .inr (0, [.int 0, .int 0, .int 0, .int 0, .int 0, .int 0, .int 0, .int 0, .int 0, .int 0, .ref (u 18), .ref (u 19), .ref (u 20), .ref (u 21), .ref (u 22), .ref (u 23), .ref (u 24), .ref (u 25), .ref (u 26), .ref (u 27)]))]) FC hKn (c_X12_all l g qm (v 0) (v 1) (v 2) (v 3) (v 4) (v 5) (v 6) (v 7) (v 8) (v 9) (v 10) (v 11) (v 12) (v 13) (v 14)) m_yX12_all b_591 (ci := 12) rfl rfl rfl hP hD hS hA [0, 1] [2, 3] rfl (by decide) rfl (by decide) (by decide) rfl hl.1 rfl (Nat.le_of_ble_eq_true rfl) dL_law_1896 ⟨(Nat.le_of_ble_eq_true rfl), (Nat.le_of_ble_eq_true rfl)⟩ ⟨(Nat.le_of_ble_eq_true rfl), (Nat.le_of_ble_eq_true rfl)⟩ (fun u2 H locs _ hP hD hS => ?_)
  have hP : va_P g.1 vwCl [(qx, .inr (11, [.ref (u 0), .ref (u 17), .ref (u 31), .ref (u 32), .ref (u 33), .ref (u 34), .ref (u 35), .ref (u 36), .ref (u 37), .ref (u 38), .ref (u 39)])), (u 17, .inr (0, [.int 0, .int 0, .int 0, .int 0, .int 0, .int 0, .int 0, .int 0, .int 0, .int 0, .ref (u 18), .ref (u 19), .ref (u 20), .ref (u 21), .ref (u 22), .ref (u 23), .ref (u 24), .ref (u 25), .ref (u 26), .ref (u 27)])), (qm, .inr (12, [.int 0, .ref (v 0), .ref (v 1), .ref (v 2), .ref (v 3), .int 0, .ref (v 4), .int 0, .int 0, .int 0, .int 0, .int 0, .int 0, .int (-1), .ref (v 5), .ref (v 6), .int 0, .int 0, .int 0, .ref (v 7), .ref (v 8), .int 0, .int 0, .ref (v 9), .ref (v 10), .ref (v 11), .ref (v 12), .ref (v 13), .ref (v 14)])), (v 0, .inl (g.2 0, 225, .inl (fun _ => 0)))] H := hP
  have hD : va_D (lA s) [(qx, .inr (11, [.ref (u 0), .ref (u 17), .ref (u 31), .ref (u 32), .ref (u 33), .ref (u 34), .ref (u 35), .ref (u 36), .ref (u 37), .ref (u 38), .ref (u 39)])), (u 17, .inr (0, [.int 0, .int 0, .int 0, .int 0, .int 0, .int 0, .int 0, .int 0, .int 0, .int 0, .ref (u 18), .ref (u 19), .ref (u 20), .ref (u 21), .ref (u 22), .ref (u 23), .ref (u 24), .ref (u 25), .ref (u 26), .ref (u 27)])), (qm, .inr (12, [.int 0, .ref (v 0), .ref (v 1), .ref (v 2), .ref (v 3), .int 0, .ref (v 4), .int 0, .int 0, .int 0, .int 0, .int 0, .int 0, .int (-1), .ref (v 5), .ref (v 6), .int 0, .int 0, .int 0, .ref (v 7), .ref (v 8), .int 0, .int 0, .ref (v 9), .ref (v 10), .ref (v 11), .ref (v 12), .ref (v 13), .ref (v 14)])), (v 0, .inl (g.2 0, 225, .inl (fun _ => 0)))] := hD
  refine W.eq (g2 := F0 m 1899 ls [.int (-2), .int (-2)]) rfl ?_
  refine lv_icmp_eq (tgt := 2465) hx hb dL_law_1899 (by decide) (fun _ => ?_) (fun h => absurd rfl h)
  exact law_end C0 hS (lv_sub hl [0, 1, 2, 3] rfl) (Nat.le_of_ble_eq_true rfl) (Nat.le_of_ble_eq_true rfl)
set_option maxRecDepth 100000 in
set_option maxHeartbeats 4000000 in
/-- heard -/
theorem law_54 {p : Program} {e : Env} {s : State} {m : MethodId} {below : List Frame} {meth : Method} {c : Code} {l : Launch} {g : GG} {b : Nat} {xs : Nat → Int32} (C0 : lw_At p s m meth c b 6 xs) (hKn : Kn g s) {H : Heap} {locs : List Loc} {ls : Array Slot} {qx qm : Nat} {u v : Nat → Nat} (hP : va_P g.1 vwCl (WX g qx u ++ WM g qm v) H) (hD : va_D (lA s) (WX g qx u ++ WM g qm v)) (hS : va_S (lA s) s.heap H locs) (hl : lv_has ls 4 [(3, .int 0), (2, .ref qm), (1, .ref qx), (0, .ref b)]) : W p l e room_1 s m #[Value.ref b] below meth c H locs 122 12079 (lw_Z below #[Value.ref b] s) (F0 m 1904 ls []) := by
  obtain ⟨hx, hb, hr, hml, hown, hts, hX, hbl, hlocks, hgv⟩ := id C0
  have hA : ∀ q : Nat, s.heap.size ≤ q → lA s q := fun _ h => h
  have hbA : ¬ lA s b := Nat.not_le.mpr hbl
  have hB : ∀ w ∈ BIG, w.before #[Value.ref b] s = true := fun w h => hts w (big_in w h)
  have FC : CallFix p m c cL_law 4 s #[Value.ref b] BIG RL := ⟨hx, hb, hml, hown, hB⟩
  have hP : va_P g.1 vwCl [(qx, .inr (11, [.ref (u 0), .ref (u 17), .ref (u 31), .ref (u 32), .ref (u 33), .ref (u 34), .ref (u 35), .ref (u 36), .ref (u 37), .ref (u 38), .ref (u 39)])), (u 17, .inr (0, [.int 0, .int 0, .int 0, .int 0, .int 0, .int 0, .int 0, .int 0, .int 0, .int 0, .ref (u 18), .ref (u 19), .ref (u 20), .ref (u 21), .ref (u 22), .ref (u 23), .ref (u 24), .ref (u 25), .ref (u 26), .ref (u 27)])), (qm, .inr (12, [.int 0, .ref (v 0), .ref (v 1), .ref (v 2), .ref (v 3), .int 0, .ref (v 4), .int 0, .int 0, .int 0, .int 0, .int 0, .int 0, .int (-1), .ref (v 5), .ref (v 6), .int 0, .int 0, .int 0, .ref (v 7), .ref (v 8), .int 0, .int 0, .ref (v 9), .ref (v 10), .ref (v 11), .ref (v 12), .ref (v 13), .ref (v 14)])), (v 0, .inl (g.2 0, 225, .inl (fun _ => 0)))] H := hP.sub [0, 18, 85, 86] rfl
  have hD : va_D (lA s) [(qx, .inr (11, [.ref (u 0), .ref (u 17), .ref (u 31), .ref (u 32), .ref (u 33), .ref (u 34), .ref (u 35), .ref (u 36), .ref (u 37), .ref (u 38), .ref (u 39)])), (u 17, .inr (0, [.int 0, .int 0, .int 0, .int 0, .int 0, .int 0, .int 0, .int 0, .int 0, .int 0, .ref (u 18), .ref (u 19), .ref (u 20), .ref (u 21), .ref (u 22), .ref (u 23), .ref (u 24), .ref (u 25), .ref (u 26), .ref (u 27)])), (qm, .inr (12, [.int 0, .ref (v 0), .ref (v 1), .ref (v 2), .ref (v 3), .int 0, .ref (v 4), .int 0, .int 0, .int 0, .int 0, .int 0, .int 0, .int (-1), .ref (v 5), .ref (v 6), .int 0, .int 0, .int 0, .ref (v 7), .ref (v 8), .int 0, .int 0, .ref (v 9), .ref (v 10), .ref (v 11), .ref (v 12), .ref (v 13), .ref (v 14)])), (v 0, .inl (g.2 0, 225, .inl (fun _ => 0)))] := hD.sub [0, 18, 85, 86] (by decide) rfl
  refine lv_aload_n hx hb dL_law_1904 rfl (lv_at hl 2 rfl) ?_
  refine lv_aload_n hx hb dL_law_1905 rfl (lv_at hl 3 rfl) ?_
  refine lv_iload_n hx hb dL_law_1906 rfl (lv_at hl 0 rfl) ?_
  refine lv_iconst (v := 1) hx hb dL_law_1907 (by decide) ?_
  refine lv_iadd hx hb dL_law_1908 ?_
  refine tp_i (v := 1) (by decide) ?_
  refine va_sld hx hb hX hbl hbA hS (by unfold vp_in; decide) dL_law_1909 ?_
  refine tp_i (v := xs 1) rfl ?_
  refine lv_aload_n hx hb dL_law_1910 rfl (lv_at hl 3 rfl) ?_
  refine lv_iload_n hx hb dL_law_1911 rfl (lv_at hl 0 rfl) ?_
  refine lv_iconst (v := 2) hx hb dL_law_1912 (by decide) ?_
  refine lv_iadd hx hb dL_law_1913 ?_
  refine tp_i (v := 2) (by decide) ?_
  refine va_sld hx hb hX hbl hbA hS (by unfold vp_in; decide) dL_law_1914 ?_
  refine tp_i (v := xs 2) rfl ?_
  refine call_V (As := [.int (xs 1), .int (xs 2)]) (rest := []) (wr := [(qm, .inr (12, [.int 0, .ref (v 0), .ref (v 1), .ref (v 2), .ref (v 3), .int 0, .ref (v 4), .int 0, .int 0, .int 0, .int 0, .int 0, .int 0, .int (-1), .ref (v 5), .ref (v 6), .int 0, .int 0, .int 0, .ref (v 7), .ref (v 8), .int 0, .int 0, .ref (v 9), .ref (v 10), .ref (v 11), .ref (v 12), .ref (v 13), .ref (v 14)])), (v 0, .inl (g.2 0, 225, .inl (fun _ => 0)))]) FC hKn (c_X11_heard l g qx (u 17) (u 0) (u 31) (u 32) (u 33) (u 34) (u 35) (u 36) (u 37) (u 38) (u 39) (u 18) (u 19) (u 20) (u 21) (u 22) (u 23) (u 24) (u 25) (u 26) (u 27) (xs 1) (xs 2)) m_yX11_heard b_592 (ci := 11) rfl rfl rfl hP hD hS hA [0, 1] [2, 3] rfl (by decide) rfl (by decide) (by decide) rfl hl.1 rfl (Nat.le_of_ble_eq_true rfl) dL_law_1915 ⟨(Nat.le_of_ble_eq_true rfl), (Nat.le_of_ble_eq_true rfl)⟩ ⟨(Nat.le_of_ble_eq_true rfl), (Nat.le_of_ble_eq_true rfl)⟩ (fun u1 H locs _ hP hD hS => ?_)
  have hP : va_P g.1 vwCl [(qm, .inr (12, [.int 0, .ref (v 0), .ref (v 1), .ref (v 2), .ref (v 3), .int 0, .ref (v 4), .int 0, .int 0, .int 0, .int 0, .int 0, .int 0, .int (-1), .ref (v 5), .ref (v 6), .int 0, .int 0, .int 0, .ref (v 7), .ref (v 8), .int 0, .int 0, .ref (v 9), .ref (v 10), .ref (v 11), .ref (v 12), .ref (v 13), .ref (v 14)])), (v 0, .inl (g.2 0, 225, .inl (fun _ => 0))), (qx, .inr (11, [.ref (u 0), .ref (u 17), .ref (u 31), .ref (u 32), .ref (u 33), .ref (u 34), .ref (u 35), .ref (u 36), .ref (u 37), .ref (u 38), .ref (u 39)])), (u 17, .inr (0, [.int 0, .int 0, .int 0, .int 0, .int 0, .int 0, .int 0, .int 0, .int 0, .int 0, .ref (u 18), .ref (u 19), .ref (u 20), .ref (u 21), .ref (u 22), .ref (u 23), .ref (u 24), .ref (u 25), .ref (u 26), .ref (u 27)]))] H := hP
  have hD : va_D (lA s) [(qm, .inr (12, [.int 0, .ref (v 0), .ref (v 1), .ref (v 2), .ref (v 3), .int 0, .ref (v 4), .int 0, .int 0, .int 0, .int 0, .int 0, .int 0, .int (-1), .ref (v 5), .ref (v 6), .int 0, .int 0, .int 0, .ref (v 7), .ref (v 8), .int 0, .int 0, .ref (v 9), .ref (v 10), .ref (v 11), .ref (v 12), .ref (v 13), .ref (v 14)])), (v 0, .inl (g.2 0, 225, .inl (fun _ => 0))), (qx, .inr (11, [.ref (u 0), .ref (u 17), .ref (u 31), .ref (u 32), .ref (u 33), .ref (u 34), .ref (u 35), .ref (u 36), .ref (u 37), .ref (u 38), .ref (u 39)])), (u 17, .inr (0, [.int 0, .int 0, .int 0, .int 0, .int 0, .int 0, .int 0, .int 0, .int 0, .int 0, .ref (u 18), .ref (u 19), .ref (u 20), .ref (u 21), .ref (u 22), .ref (u 23), .ref (u 24), .ref (u 25), .ref (u 26), .ref (u 27)]))] := hD
  refine W.eq (g2 := F0 m 1918 ls [.int (-2)]) rfl ?_
  refine lv_aload_n hx hb dL_law_1918 rfl (lv_at hl 1 rfl) ?_
  refine lv_aload_n hx hb dL_law_1919 rfl (lv_at hl 3 rfl) ?_
  refine lv_iload_n hx hb dL_law_1920 rfl (lv_at hl 0 rfl) ?_
  refine lv_iconst (v := 1) hx hb dL_law_1921 (by decide) ?_
  refine lv_iadd hx hb dL_law_1922 ?_
  refine tp_i (v := 1) (by decide) ?_
  refine va_sld hx hb hX hbl hbA hS (by unfold vp_in; decide) dL_law_1923 ?_
  refine tp_i (v := xs 1) rfl ?_
  refine lv_aload_n hx hb dL_law_1924 rfl (lv_at hl 3 rfl) ?_
  refine lv_iload_n hx hb dL_law_1925 rfl (lv_at hl 0 rfl) ?_
  refine lv_iconst (v := 2) hx hb dL_law_1926 (by decide) ?_
  refine lv_iadd hx hb dL_law_1927 ?_
  refine tp_i (v := 2) (by decide) ?_
  refine va_sld hx hb hX hbl hbA hS (by unfold vp_in; decide) dL_law_1928 ?_
  refine tp_i (v := xs 2) rfl ?_
  refine call_V (As := [.int (xs 1), .int (xs 2)]) (rest := [.int (-2)]) (wr := [(qx, .inr (11, [.ref (u 0), .ref (u 17), .ref (u 31), .ref (u 32), .ref (u 33), .ref (u 34), .ref (u 35), .ref (u 36), .ref (u 37), .ref (u 38), .ref (u 39)])), (u 17, .inr (0, [.int 0, .int 0, .int 0, .int 0, .int 0, .int 0, .int 0, .int 0, .int 0, .int 0, .ref (u 18), .ref (u 19), .ref (u 20), .ref (u 21), .ref (u 22), .ref (u 23), .ref (u 24), .ref (u 25), .ref (u 26), .ref (u 27)]))]) FC hKn (c_X12_heard l g qm (v 0) (v 1) (v 2) (v 3) (v 4) (v 5) (v 6) (v 7) (v 8) (v 9) (v 10) (v 11) (v 12) (v 13) (v 14) (xs 1) (xs 2)) m_yX12_heard b_593 (ci := 12) rfl rfl rfl hP hD hS hA [0, 1] [2, 3] rfl (by decide) rfl (by decide) (by decide) rfl hl.1 rfl (Nat.le_of_ble_eq_true rfl) dL_law_1929 ⟨(Nat.le_of_ble_eq_true rfl), (Nat.le_of_ble_eq_true rfl)⟩ ⟨(Nat.le_of_ble_eq_true rfl), (Nat.le_of_ble_eq_true rfl)⟩ (fun u2 H locs _ hP hD hS => ?_)
  have hP : va_P g.1 vwCl [(qx, .inr (11, [.ref (u 0), .ref (u 17), .ref (u 31), .ref (u 32), .ref (u 33), .ref (u 34), .ref (u 35), .ref (u 36), .ref (u 37), .ref (u 38), .ref (u 39)])), (u 17, .inr (0, [.int 0, .int 0, .int 0, .int 0, .int 0, .int 0, .int 0, .int 0, .int 0, .int 0, .ref (u 18), .ref (u 19), .ref (u 20), .ref (u 21), .ref (u 22), .ref (u 23), .ref (u 24), .ref (u 25), .ref (u 26), .ref (u 27)])), (qm, .inr (12, [.int 0, .ref (v 0), .ref (v 1), .ref (v 2), .ref (v 3), .int 0, .ref (v 4), .int 0, .int 0, .int 0, .int 0, .int 0, .int 0, .int (-1), .ref (v 5), .ref (v 6), .int 0, .int 0, .int 0, .ref (v 7), .ref (v 8), .int 0, .int 0, .ref (v 9), .ref (v 10), .ref (v 11), .ref (v 12), .ref (v 13), .ref (v 14)])), (v 0, .inl (g.2 0, 225, .inl (fun _ => 0)))] H := hP
  have hD : va_D (lA s) [(qx, .inr (11, [.ref (u 0), .ref (u 17), .ref (u 31), .ref (u 32), .ref (u 33), .ref (u 34), .ref (u 35), .ref (u 36), .ref (u 37), .ref (u 38), .ref (u 39)])), (u 17, .inr (0, [.int 0, .int 0, .int 0, .int 0, .int 0, .int 0, .int 0, .int 0, .int 0, .int 0, .ref (u 18), .ref (u 19), .ref (u 20), .ref (u 21), .ref (u 22), .ref (u 23), .ref (u 24), .ref (u 25), .ref (u 26), .ref (u 27)])), (qm, .inr (12, [.int 0, .ref (v 0), .ref (v 1), .ref (v 2), .ref (v 3), .int 0, .ref (v 4), .int 0, .int 0, .int 0, .int 0, .int 0, .int 0, .int (-1), .ref (v 5), .ref (v 6), .int 0, .int 0, .int 0, .ref (v 7), .ref (v 8), .int 0, .int 0, .ref (v 9), .ref (v 10), .ref (v 11), .ref (v 12), .ref (v 13), .ref (v 14)])), (v 0, .inl (g.2 0, 225, .inl (fun _ => 0)))] := hD
  refine W.eq (g2 := F0 m 1932 ls [.int (-2), .int (-2)]) rfl ?_
  refine lv_icmp_eq (tgt := 2465) hx hb dL_law_1932 (by decide) (fun _ => ?_) (fun h => absurd rfl h)
  exact law_end C0 hS (lv_sub hl [0, 1, 2, 3] rfl) (Nat.le_of_ble_eq_true rfl) (Nat.le_of_ble_eq_true rfl)
set_option maxRecDepth 100000 in
set_option maxHeartbeats 4000000 in
/-- whom -/
theorem law_55 {p : Program} {e : Env} {s : State} {m : MethodId} {below : List Frame} {meth : Method} {c : Code} {l : Launch} {g : GG} {b : Nat} {xs : Nat → Int32} (C0 : lw_At p s m meth c b 6 xs) (hKn : Kn g s) {H : Heap} {locs : List Loc} {ls : Array Slot} {qx qm : Nat} {u v : Nat → Nat} (hP : va_P g.1 vwCl (WX g qx u ++ WM g qm v) H) (hD : va_D (lA s) (WX g qx u ++ WM g qm v)) (hS : va_S (lA s) s.heap H locs) (hl : lv_has ls 4 [(3, .int 0), (2, .ref qm), (1, .ref qx), (0, .ref b)]) : W p l e room_1 s m #[Value.ref b] below meth c H locs 122 12079 (lw_Z below #[Value.ref b] s) (F0 m 1937 ls []) := by
  obtain ⟨hx, hb, hr, hml, hown, hts, hX, hbl, hlocks, hgv⟩ := id C0
  have hA : ∀ q : Nat, s.heap.size ≤ q → lA s q := fun _ h => h
  have hbA : ¬ lA s b := Nat.not_le.mpr hbl
  have hB : ∀ w ∈ BIG, w.before #[Value.ref b] s = true := fun w h => hts w (big_in w h)
  have FC : CallFix p m c cL_law 4 s #[Value.ref b] BIG RL := ⟨hx, hb, hml, hown, hB⟩
  have hP : va_P g.1 vwCl [(qx, .inr (11, [.ref (u 0), .ref (u 17), .ref (u 31), .ref (u 32), .ref (u 33), .ref (u 34), .ref (u 35), .ref (u 36), .ref (u 37), .ref (u 38), .ref (u 39)])), (u 17, .inr (0, [.int 0, .int 0, .int 0, .int 0, .int 0, .int 0, .int 0, .int 0, .int 0, .int 0, .ref (u 18), .ref (u 19), .ref (u 20), .ref (u 21), .ref (u 22), .ref (u 23), .ref (u 24), .ref (u 25), .ref (u 26), .ref (u 27)])), (qm, .inr (12, [.int 0, .ref (v 0), .ref (v 1), .ref (v 2), .ref (v 3), .int 0, .ref (v 4), .int 0, .int 0, .int 0, .int 0, .int 0, .int 0, .int (-1), .ref (v 5), .ref (v 6), .int 0, .int 0, .int 0, .ref (v 7), .ref (v 8), .int 0, .int 0, .ref (v 9), .ref (v 10), .ref (v 11), .ref (v 12), .ref (v 13), .ref (v 14)])), (v 0, .inl (g.2 0, 225, .inl (fun _ => 0)))] H := hP.sub [0, 18, 85, 86] rfl
  have hD : va_D (lA s) [(qx, .inr (11, [.ref (u 0), .ref (u 17), .ref (u 31), .ref (u 32), .ref (u 33), .ref (u 34), .ref (u 35), .ref (u 36), .ref (u 37), .ref (u 38), .ref (u 39)])), (u 17, .inr (0, [.int 0, .int 0, .int 0, .int 0, .int 0, .int 0, .int 0, .int 0, .int 0, .int 0, .ref (u 18), .ref (u 19), .ref (u 20), .ref (u 21), .ref (u 22), .ref (u 23), .ref (u 24), .ref (u 25), .ref (u 26), .ref (u 27)])), (qm, .inr (12, [.int 0, .ref (v 0), .ref (v 1), .ref (v 2), .ref (v 3), .int 0, .ref (v 4), .int 0, .int 0, .int 0, .int 0, .int 0, .int 0, .int (-1), .ref (v 5), .ref (v 6), .int 0, .int 0, .int 0, .ref (v 7), .ref (v 8), .int 0, .int 0, .ref (v 9), .ref (v 10), .ref (v 11), .ref (v 12), .ref (v 13), .ref (v 14)])), (v 0, .inl (g.2 0, 225, .inl (fun _ => 0)))] := hD.sub [0, 18, 85, 86] (by decide) rfl
  refine lv_aload_n hx hb dL_law_1937 rfl (lv_at hl 2 rfl) ?_
  refine call_V (As := []) (rest := []) (wr := [(qm, .inr (12, [.int 0, .ref (v 0), .ref (v 1), .ref (v 2), .ref (v 3), .int 0, .ref (v 4), .int 0, .int 0, .int 0, .int 0, .int 0, .int 0, .int (-1), .ref (v 5), .ref (v 6), .int 0, .int 0, .int 0, .ref (v 7), .ref (v 8), .int 0, .int 0, .ref (v 9), .ref (v 10), .ref (v 11), .ref (v 12), .ref (v 13), .ref (v 14)])), (v 0, .inl (g.2 0, 225, .inl (fun _ => 0)))]) FC hKn (c_X11_whom l g qx (u 17) (u 0) (u 31) (u 32) (u 33) (u 34) (u 35) (u 36) (u 37) (u 38) (u 39) (u 18) (u 19) (u 20) (u 21) (u 22) (u 23) (u 24) (u 25) (u 26) (u 27)) m_yX11_whom b_594 (ci := 11) rfl rfl rfl hP hD hS hA [0, 1] [2, 3] rfl (by decide) rfl (by decide) (by decide) rfl hl.1 rfl (Nat.le_of_ble_eq_true rfl) dL_law_1938 ⟨(Nat.le_of_ble_eq_true rfl), (Nat.le_of_ble_eq_true rfl)⟩ ⟨(Nat.le_of_ble_eq_true rfl), (Nat.le_of_ble_eq_true rfl)⟩ (fun u1 H locs _ hP hD hS => ?_)
  have hP : va_P g.1 vwCl [(qm, .inr (12, [.int 0, .ref (v 0), .ref (v 1), .ref (v 2), .ref (v 3), .int 0, .ref (v 4), .int 0, .int 0, .int 0, .int 0, .int 0, .int 0, .int (-1), .ref (v 5), .ref (v 6), .int 0, .int 0, .int 0, .ref (v 7), .ref (v 8), .int 0, .int 0, .ref (v 9), .ref (v 10), .ref (v 11), .ref (v 12), .ref (v 13), .ref (v 14)])), (v 0, .inl (g.2 0, 225, .inl (fun _ => 0))), (qx, .inr (11, [.ref (u 0), .ref (u 17), .ref (u 31), .ref (u 32), .ref (u 33), .ref (u 34), .ref (u 35), .ref (u 36), .ref (u 37), .ref (u 38), .ref (u 39)])), (u 17, .inr (0, [.int 0, .int 0, .int 0, .int 0, .int 0, .int 0, .int 0, .int 0, .int 0, .int 0, .ref (u 18), .ref (u 19), .ref (u 20), .ref (u 21), .ref (u 22), .ref (u 23), .ref (u 24), .ref (u 25), .ref (u 26), .ref (u 27)]))] H := hP
  have hD : va_D (lA s) [(qm, .inr (12, [.int 0, .ref (v 0), .ref (v 1), .ref (v 2), .ref (v 3), .int 0, .ref (v 4), .int 0, .int 0, .int 0, .int 0, .int 0, .int 0, .int (-1), .ref (v 5), .ref (v 6), .int 0, .int 0, .int 0, .ref (v 7), .ref (v 8), .int 0, .int 0, .ref (v 9), .ref (v 10), .ref (v 11), .ref (v 12), .ref (v 13), .ref (v 14)])), (v 0, .inl (g.2 0, 225, .inl (fun _ => 0))), (qx, .inr (11, [.ref (u 0), .ref (u 17), .ref (u 31), .ref (u 32), .ref (u 33), .ref (u 34), .ref (u 35), .ref (u 36), .ref (u 37), .ref (u 38), .ref (u 39)])), (u 17, .inr (0, [.int 0, .int 0, .int 0, .int 0, .int 0, .int 0, .int 0, .int 0, .int 0, .int 0, .ref (u 18), .ref (u 19), .ref (u 20), .ref (u 21), .ref (u 22), .ref (u 23), .ref (u 24), .ref (u 25), .ref (u 26), .ref (u 27)]))] := hD
  refine W.eq (g2 := F0 m 1941 ls [.int (-2)]) rfl ?_
  refine lv_aload_n hx hb dL_law_1941 rfl (lv_at hl 1 rfl) ?_
  refine call_V (As := []) (rest := [.int (-2)]) (wr := [(qx, .inr (11, [.ref (u 0), .ref (u 17), .ref (u 31), .ref (u 32), .ref (u 33), .ref (u 34), .ref (u 35), .ref (u 36), .ref (u 37), .ref (u 38), .ref (u 39)])), (u 17, .inr (0, [.int 0, .int 0, .int 0, .int 0, .int 0, .int 0, .int 0, .int 0, .int 0, .int 0, .ref (u 18), .ref (u 19), .ref (u 20), .ref (u 21), .ref (u 22), .ref (u 23), .ref (u 24), .ref (u 25), .ref (u 26), .ref (u 27)]))]) FC hKn (c_X12_whom l g qm (v 0) (v 1) (v 2) (v 3) (v 4) (v 5) (v 6) (v 7) (v 8) (v 9) (v 10) (v 11) (v 12) (v 13) (v 14)) m_yX12_whom b_595 (ci := 12) rfl rfl rfl hP hD hS hA [0, 1] [2, 3] rfl (by decide) rfl (by decide) (by decide) rfl hl.1 rfl (Nat.le_of_ble_eq_true rfl) dL_law_1942 ⟨(Nat.le_of_ble_eq_true rfl), (Nat.le_of_ble_eq_true rfl)⟩ ⟨(Nat.le_of_ble_eq_true rfl), (Nat.le_of_ble_eq_true rfl)⟩ (fun u2 H locs _ hP hD hS => ?_)
  have hP : va_P g.1 vwCl [(qx, .inr (11, [.ref (u 0), .ref (u 17), .ref (u 31), .ref (u 32), .ref (u 33), .ref (u 34), .ref (u 35), .ref (u 36), .ref (u 37), .ref (u 38), .ref (u 39)])), (u 17, .inr (0, [.int 0, .int 0, .int 0, .int 0, .int 0, .int 0, .int 0, .int 0, .int 0, .int 0, .ref (u 18), .ref (u 19), .ref (u 20), .ref (u 21), .ref (u 22), .ref (u 23), .ref (u 24), .ref (u 25), .ref (u 26), .ref (u 27)])), (qm, .inr (12, [.int 0, .ref (v 0), .ref (v 1), .ref (v 2), .ref (v 3), .int 0, .ref (v 4), .int 0, .int 0, .int 0, .int 0, .int 0, .int 0, .int (-1), .ref (v 5), .ref (v 6), .int 0, .int 0, .int 0, .ref (v 7), .ref (v 8), .int 0, .int 0, .ref (v 9), .ref (v 10), .ref (v 11), .ref (v 12), .ref (v 13), .ref (v 14)])), (v 0, .inl (g.2 0, 225, .inl (fun _ => 0)))] H := hP
  have hD : va_D (lA s) [(qx, .inr (11, [.ref (u 0), .ref (u 17), .ref (u 31), .ref (u 32), .ref (u 33), .ref (u 34), .ref (u 35), .ref (u 36), .ref (u 37), .ref (u 38), .ref (u 39)])), (u 17, .inr (0, [.int 0, .int 0, .int 0, .int 0, .int 0, .int 0, .int 0, .int 0, .int 0, .int 0, .ref (u 18), .ref (u 19), .ref (u 20), .ref (u 21), .ref (u 22), .ref (u 23), .ref (u 24), .ref (u 25), .ref (u 26), .ref (u 27)])), (qm, .inr (12, [.int 0, .ref (v 0), .ref (v 1), .ref (v 2), .ref (v 3), .int 0, .ref (v 4), .int 0, .int 0, .int 0, .int 0, .int 0, .int 0, .int (-1), .ref (v 5), .ref (v 6), .int 0, .int 0, .int 0, .ref (v 7), .ref (v 8), .int 0, .int 0, .ref (v 9), .ref (v 10), .ref (v 11), .ref (v 12), .ref (v 13), .ref (v 14)])), (v 0, .inl (g.2 0, 225, .inl (fun _ => 0)))] := hD
  refine W.eq (g2 := F0 m 1945 ls [.int (-2), .int (-2)]) rfl ?_
  refine lv_icmp_eq (tgt := 2465) hx hb dL_law_1945 (by decide) (fun _ => ?_) (fun h => absurd rfl h)
  exact law_end C0 hS (lv_sub hl [0, 1, 2, 3] rfl) (Nat.le_of_ble_eq_true rfl) (Nat.le_of_ble_eq_true rfl)
set_option maxRecDepth 100000 in
set_option maxHeartbeats 4000000 in
/-- first -/
theorem law_56 {p : Program} {e : Env} {s : State} {m : MethodId} {below : List Frame} {meth : Method} {c : Code} {l : Launch} {g : GG} {b : Nat} {xs : Nat → Int32} (C0 : lw_At p s m meth c b 6 xs) (hKn : Kn g s) {H : Heap} {locs : List Loc} {ls : Array Slot} {qx qm : Nat} {u v : Nat → Nat} (hP : va_P g.1 vwCl (WX g qx u ++ WM g qm v) H) (hD : va_D (lA s) (WX g qx u ++ WM g qm v)) (hS : va_S (lA s) s.heap H locs) (hl : lv_has ls 4 [(3, .int 0), (2, .ref qm), (1, .ref qx), (0, .ref b)]) : W p l e room_1 s m #[Value.ref b] below meth c H locs 122 12079 (lw_Z below #[Value.ref b] s) (F0 m 1950 ls []) := by
  obtain ⟨hx, hb, hr, hml, hown, hts, hX, hbl, hlocks, hgv⟩ := id C0
  have hA : ∀ q : Nat, s.heap.size ≤ q → lA s q := fun _ h => h
  have hbA : ¬ lA s b := Nat.not_le.mpr hbl
  have hB : ∀ w ∈ BIG, w.before #[Value.ref b] s = true := fun w h => hts w (big_in w h)
  have FC : CallFix p m c cL_law 4 s #[Value.ref b] BIG RL := ⟨hx, hb, hml, hown, hB⟩
  have hP : va_P g.1 vwCl [(qx, .inr (11, [.ref (u 0), .ref (u 17), .ref (u 31), .ref (u 32), .ref (u 33), .ref (u 34), .ref (u 35), .ref (u 36), .ref (u 37), .ref (u 38), .ref (u 39)])), (u 17, .inr (0, [.int 0, .int 0, .int 0, .int 0, .int 0, .int 0, .int 0, .int 0, .int 0, .int 0, .ref (u 18), .ref (u 19), .ref (u 20), .ref (u 21), .ref (u 22), .ref (u 23), .ref (u 24), .ref (u 25), .ref (u 26), .ref (u 27)])), (qm, .inr (12, [.int 0, .ref (v 0), .ref (v 1), .ref (v 2), .ref (v 3), .int 0, .ref (v 4), .int 0, .int 0, .int 0, .int 0, .int 0, .int 0, .int (-1), .ref (v 5), .ref (v 6), .int 0, .int 0, .int 0, .ref (v 7), .ref (v 8), .int 0, .int 0, .ref (v 9), .ref (v 10), .ref (v 11), .ref (v 12), .ref (v 13), .ref (v 14)])), (v 0, .inl (g.2 0, 225, .inl (fun _ => 0)))] H := hP.sub [0, 18, 85, 86] rfl
  have hD : va_D (lA s) [(qx, .inr (11, [.ref (u 0), .ref (u 17), .ref (u 31), .ref (u 32), .ref (u 33), .ref (u 34), .ref (u 35), .ref (u 36), .ref (u 37), .ref (u 38), .ref (u 39)])), (u 17, .inr (0, [.int 0, .int 0, .int 0, .int 0, .int 0, .int 0, .int 0, .int 0, .int 0, .int 0, .ref (u 18), .ref (u 19), .ref (u 20), .ref (u 21), .ref (u 22), .ref (u 23), .ref (u 24), .ref (u 25), .ref (u 26), .ref (u 27)])), (qm, .inr (12, [.int 0, .ref (v 0), .ref (v 1), .ref (v 2), .ref (v 3), .int 0, .ref (v 4), .int 0, .int 0, .int 0, .int 0, .int 0, .int 0, .int (-1), .ref (v 5), .ref (v 6), .int 0, .int 0, .int 0, .ref (v 7), .ref (v 8), .int 0, .int 0, .ref (v 9), .ref (v 10), .ref (v 11), .ref (v 12), .ref (v 13), .ref (v 14)])), (v 0, .inl (g.2 0, 225, .inl (fun _ => 0)))] := hD.sub [0, 18, 85, 86] (by decide) rfl
  refine lv_aload_n hx hb dL_law_1950 rfl (lv_at hl 2 rfl) ?_
  refine call_V (As := []) (rest := []) (wr := [(qm, .inr (12, [.int 0, .ref (v 0), .ref (v 1), .ref (v 2), .ref (v 3), .int 0, .ref (v 4), .int 0, .int 0, .int 0, .int 0, .int 0, .int 0, .int (-1), .ref (v 5), .ref (v 6), .int 0, .int 0, .int 0, .ref (v 7), .ref (v 8), .int 0, .int 0, .ref (v 9), .ref (v 10), .ref (v 11), .ref (v 12), .ref (v 13), .ref (v 14)])), (v 0, .inl (g.2 0, 225, .inl (fun _ => 0)))]) FC hKn (c_X11_first l g qx (u 17) (u 0) (u 31) (u 32) (u 33) (u 34) (u 35) (u 36) (u 37) (u 38) (u 39) (u 18) (u 19) (u 20) (u 21) (u 22) (u 23) (u 24) (u 25) (u 26) (u 27)) m_yX11_first b_596 (ci := 11) rfl rfl rfl hP hD hS hA [0, 1] [2, 3] rfl (by decide) rfl (by decide) (by decide) rfl hl.1 rfl (Nat.le_of_ble_eq_true rfl) dL_law_1951 ⟨(Nat.le_of_ble_eq_true rfl), (Nat.le_of_ble_eq_true rfl)⟩ ⟨(Nat.le_of_ble_eq_true rfl), (Nat.le_of_ble_eq_true rfl)⟩ (fun u1 H locs _ hP hD hS => ?_)
  have hP : va_P g.1 vwCl [(qm, .inr (12, [.int 0, .ref (v 0), .ref (v 1), .ref (v 2), .ref (v 3), .int 0, .ref (v 4), .int 0, .int 0, .int 0, .int 0, .int 0, .int 0, .int (-1), .ref (v 5), .ref (v 6), .int 0, .int 0, .int 0, .ref (v 7), .ref (v 8), .int 0, .int 0, .ref (v 9), .ref (v 10), .ref (v 11), .ref (v 12), .ref (v 13), .ref (v 14)])), (v 0, .inl (g.2 0, 225, .inl (fun _ => 0))), (qx, .inr (11, [.ref (u 0), .ref (u 17), .ref (u 31), .ref (u 32), .ref (u 33), .ref (u 34), .ref (u 35), .ref (u 36), .ref (u 37), .ref (u 38), .ref (u 39)])), (u 17, .inr (0, [.int 0, .int 0, .int 0, .int 0, .int 0, .int 0, .int 0, .int 0, .int 0, .int 0, .ref (u 18), .ref (u 19), .ref (u 20), .ref (u 21), .ref (u 22), .ref (u 23), .ref (u 24), .ref (u 25), .ref (u 26), .ref (u 27)]))] H := hP
  have hD : va_D (lA s) [(qm, .inr (12, [.int 0, .ref (v 0), .ref (v 1), .ref (v 2), .ref (v 3), .int 0, .ref (v 4), .int 0, .int 0, .int 0, .int 0, .int 0, .int 0, .int (-1), .ref (v 5), .ref (v 6), .int 0, .int 0, .int 0, .ref (v 7), .ref (v 8), .int 0, .int 0, .ref (v 9), .ref (v 10), .ref (v 11), .ref (v 12), .ref (v 13), .ref (v 14)])), (v 0, .inl (g.2 0, 225, .inl (fun _ => 0))), (qx, .inr (11, [.ref (u 0), .ref (u 17), .ref (u 31), .ref (u 32), .ref (u 33), .ref (u 34), .ref (u 35), .ref (u 36), .ref (u 37), .ref (u 38), .ref (u 39)])), (u 17, .inr (0, [.int 0, .int 0, .int 0, .int 0, .int 0, .int 0, .int 0, .int 0, .int 0, .int 0, .ref (u 18), .ref (u 19), .ref (u 20), .ref (u 21), .ref (u 22), .ref (u 23), .ref (u 24), .ref (u 25), .ref (u 26), .ref (u 27)]))] := hD
  refine W.eq (g2 := F0 m 1954 ls [.int (-2)]) rfl ?_
  refine lv_aload_n hx hb dL_law_1954 rfl (lv_at hl 1 rfl) ?_
  refine call_V (As := []) (rest := [.int (-2)]) (wr := [(qx, .inr (11, [.ref (u 0), .ref (u 17), .ref (u 31), .ref (u 32), .ref (u 33), .ref (u 34), .ref (u 35), .ref (u 36), .ref (u 37), .ref (u 38), .ref (u 39)])), (u 17, .inr (0, [.int 0, .int 0, .int 0, .int 0, .int 0, .int 0, .int 0, .int 0, .int 0, .int 0, .ref (u 18), .ref (u 19), .ref (u 20), .ref (u 21), .ref (u 22), .ref (u 23), .ref (u 24), .ref (u 25), .ref (u 26), .ref (u 27)]))]) FC hKn (c_X12_first l g qm (v 0) (v 1) (v 2) (v 3) (v 4) (v 5) (v 6) (v 7) (v 8) (v 9) (v 10) (v 11) (v 12) (v 13) (v 14)) m_yX12_first b_597 (ci := 12) rfl rfl rfl hP hD hS hA [0, 1] [2, 3] rfl (by decide) rfl (by decide) (by decide) rfl hl.1 rfl (Nat.le_of_ble_eq_true rfl) dL_law_1955 ⟨(Nat.le_of_ble_eq_true rfl), (Nat.le_of_ble_eq_true rfl)⟩ ⟨(Nat.le_of_ble_eq_true rfl), (Nat.le_of_ble_eq_true rfl)⟩ (fun u2 H locs _ hP hD hS => ?_)
  have hP : va_P g.1 vwCl [(qx, .inr (11, [.ref (u 0), .ref (u 17), .ref (u 31), .ref (u 32), .ref (u 33), .ref (u 34), .ref (u 35), .ref (u 36), .ref (u 37), .ref (u 38), .ref (u 39)])), (u 17, .inr (0, [.int 0, .int 0, .int 0, .int 0, .int 0, .int 0, .int 0, .int 0, .int 0, .int 0, .ref (u 18), .ref (u 19), .ref (u 20), .ref (u 21), .ref (u 22), .ref (u 23), .ref (u 24), .ref (u 25), .ref (u 26), .ref (u 27)])), (qm, .inr (12, [.int 0, .ref (v 0), .ref (v 1), .ref (v 2), .ref (v 3), .int 0, .ref (v 4), .int 0, .int 0, .int 0, .int 0, .int 0, .int 0, .int (-1), .ref (v 5), .ref (v 6), .int 0, .int 0, .int 0, .ref (v 7), .ref (v 8), .int 0, .int 0, .ref (v 9), .ref (v 10), .ref (v 11), .ref (v 12), .ref (v 13), .ref (v 14)])), (v 0, .inl (g.2 0, 225, .inl (fun _ => 0)))] H := hP
  have hD : va_D (lA s) [(qx, .inr (11, [.ref (u 0), .ref (u 17), .ref (u 31), .ref (u 32), .ref (u 33), .ref (u 34), .ref (u 35), .ref (u 36), .ref (u 37), .ref (u 38), .ref (u 39)])), (u 17, .inr (0, [.int 0, .int 0, .int 0, .int 0, .int 0, .int 0, .int 0, .int 0, .int 0, .int 0, .ref (u 18), .ref (u 19), .ref (u 20), .ref (u 21), .ref (u 22), .ref (u 23), .ref (u 24), .ref (u 25), .ref (u 26), .ref (u 27)])), (qm, .inr (12, [.int 0, .ref (v 0), .ref (v 1), .ref (v 2), .ref (v 3), .int 0, .ref (v 4), .int 0, .int 0, .int 0, .int 0, .int 0, .int 0, .int (-1), .ref (v 5), .ref (v 6), .int 0, .int 0, .int 0, .ref (v 7), .ref (v 8), .int 0, .int 0, .ref (v 9), .ref (v 10), .ref (v 11), .ref (v 12), .ref (v 13), .ref (v 14)])), (v 0, .inl (g.2 0, 225, .inl (fun _ => 0)))] := hD
  refine W.eq (g2 := F0 m 1958 ls [.int (-2), .int (-2)]) rfl ?_
  refine lv_icmp_eq (tgt := 2465) hx hb dL_law_1958 (by decide) (fun _ => ?_) (fun h => absurd rfl h)
  exact law_end C0 hS (lv_sub hl [0, 1, 2, 3] rfl) (Nat.le_of_ble_eq_true rfl) (Nat.le_of_ble_eq_true rfl)
set_option maxRecDepth 100000 in
set_option maxHeartbeats 4000000 in
/-- read -/
theorem law_57 {p : Program} {e : Env} {s : State} {m : MethodId} {below : List Frame} {meth : Method} {c : Code} {l : Launch} {g : GG} {b : Nat} {xs : Nat → Int32} (C0 : lw_At p s m meth c b 6 xs) (hKn : Kn g s) {H : Heap} {locs : List Loc} {ls : Array Slot} {qx qm : Nat} {u v : Nat → Nat} (hP : va_P g.1 vwCl (WX g qx u ++ WM g qm v) H) (hD : va_D (lA s) (WX g qx u ++ WM g qm v)) (hS : va_S (lA s) s.heap H locs) (hl : lv_has ls 4 [(3, .int 0), (2, .ref qm), (1, .ref qx), (0, .ref b)]) : W p l e room_1 s m #[Value.ref b] below meth c H locs 122 12079 (lw_Z below #[Value.ref b] s) (F0 m 1963 ls []) := by
  obtain ⟨hx, hb, hr, hml, hown, hts, hX, hbl, hlocks, hgv⟩ := id C0
  have hA : ∀ q : Nat, s.heap.size ≤ q → lA s q := fun _ h => h
  have hbA : ¬ lA s b := Nat.not_le.mpr hbl
  have hB : ∀ w ∈ BIG, w.before #[Value.ref b] s = true := fun w h => hts w (big_in w h)
  have FC : CallFix p m c cL_law 4 s #[Value.ref b] BIG RL := ⟨hx, hb, hml, hown, hB⟩
  have hP : va_P g.1 vwCl [(qx, .inr (11, [.ref (u 0), .ref (u 17), .ref (u 31), .ref (u 32), .ref (u 33), .ref (u 34), .ref (u 35), .ref (u 36), .ref (u 37), .ref (u 38), .ref (u 39)])), (u 17, .inr (0, [.int 0, .int 0, .int 0, .int 0, .int 0, .int 0, .int 0, .int 0, .int 0, .int 0, .ref (u 18), .ref (u 19), .ref (u 20), .ref (u 21), .ref (u 22), .ref (u 23), .ref (u 24), .ref (u 25), .ref (u 26), .ref (u 27)])), (qm, .inr (12, [.int 0, .ref (v 0), .ref (v 1), .ref (v 2), .ref (v 3), .int 0, .ref (v 4), .int 0, .int 0, .int 0, .int 0, .int 0, .int 0, .int (-1), .ref (v 5), .ref (v 6), .int 0, .int 0, .int 0, .ref (v 7), .ref (v 8), .int 0, .int 0, .ref (v 9), .ref (v 10), .ref (v 11), .ref (v 12), .ref (v 13), .ref (v 14)])), (v 0, .inl (g.2 0, 225, .inl (fun _ => 0)))] H := hP.sub [0, 18, 85, 86] rfl
  have hD : va_D (lA s) [(qx, .inr (11, [.ref (u 0), .ref (u 17), .ref (u 31), .ref (u 32), .ref (u 33), .ref (u 34), .ref (u 35), .ref (u 36), .ref (u 37), .ref (u 38), .ref (u 39)])), (u 17, .inr (0, [.int 0, .int 0, .int 0, .int 0, .int 0, .int 0, .int 0, .int 0, .int 0, .int 0, .ref (u 18), .ref (u 19), .ref (u 20), .ref (u 21), .ref (u 22), .ref (u 23), .ref (u 24), .ref (u 25), .ref (u 26), .ref (u 27)])), (qm, .inr (12, [.int 0, .ref (v 0), .ref (v 1), .ref (v 2), .ref (v 3), .int 0, .ref (v 4), .int 0, .int 0, .int 0, .int 0, .int 0, .int 0, .int (-1), .ref (v 5), .ref (v 6), .int 0, .int 0, .int 0, .ref (v 7), .ref (v 8), .int 0, .int 0, .ref (v 9), .ref (v 10), .ref (v 11), .ref (v 12), .ref (v 13), .ref (v 14)])), (v 0, .inl (g.2 0, 225, .inl (fun _ => 0)))] := hD.sub [0, 18, 85, 86] (by decide) rfl
  refine lv_aload_n hx hb dL_law_1963 rfl (lv_at hl 2 rfl) ?_
  refine lv_aload_n hx hb dL_law_1964 rfl (lv_at hl 3 rfl) ?_
  refine lv_iload_n hx hb dL_law_1965 rfl (lv_at hl 0 rfl) ?_
  refine lv_iconst (v := 1) hx hb dL_law_1966 (by decide) ?_
  refine lv_iadd hx hb dL_law_1967 ?_
  refine tp_i (v := 1) (by decide) ?_
  refine va_sld hx hb hX hbl hbA hS (by unfold vp_in; decide) dL_law_1968 ?_
  refine tp_i (v := xs 1) rfl ?_
  refine call_V (As := [.int (xs 1)]) (rest := []) (wr := [(qm, .inr (12, [.int 0, .ref (v 0), .ref (v 1), .ref (v 2), .ref (v 3), .int 0, .ref (v 4), .int 0, .int 0, .int 0, .int 0, .int 0, .int 0, .int (-1), .ref (v 5), .ref (v 6), .int 0, .int 0, .int 0, .ref (v 7), .ref (v 8), .int 0, .int 0, .ref (v 9), .ref (v 10), .ref (v 11), .ref (v 12), .ref (v 13), .ref (v 14)])), (v 0, .inl (g.2 0, 225, .inl (fun _ => 0)))]) FC hKn (c_X11_read l g qx (u 17) (u 0) (u 31) (u 32) (u 33) (u 34) (u 35) (u 36) (u 37) (u 38) (u 39) (u 18) (u 19) (u 20) (u 21) (u 22) (u 23) (u 24) (u 25) (u 26) (u 27) (xs 1)) m_yX11_read b_598 (ci := 11) rfl rfl rfl hP hD hS hA [0, 1] [2, 3] rfl (by decide) rfl (by decide) (by decide) rfl hl.1 rfl (Nat.le_of_ble_eq_true rfl) dL_law_1969 ⟨(Nat.le_of_ble_eq_true rfl), (Nat.le_of_ble_eq_true rfl)⟩ ⟨(Nat.le_of_ble_eq_true rfl), (Nat.le_of_ble_eq_true rfl)⟩ (fun u1 H locs _ hP hD hS => ?_)
  have hP : va_P g.1 vwCl [(qm, .inr (12, [.int 0, .ref (v 0), .ref (v 1), .ref (v 2), .ref (v 3), .int 0, .ref (v 4), .int 0, .int 0, .int 0, .int 0, .int 0, .int 0, .int (-1), .ref (v 5), .ref (v 6), .int 0, .int 0, .int 0, .ref (v 7), .ref (v 8), .int 0, .int 0, .ref (v 9), .ref (v 10), .ref (v 11), .ref (v 12), .ref (v 13), .ref (v 14)])), (v 0, .inl (g.2 0, 225, .inl (fun _ => 0))), (qx, .inr (11, [.ref (u 0), .ref (u 17), .ref (u 31), .ref (u 32), .ref (u 33), .ref (u 34), .ref (u 35), .ref (u 36), .ref (u 37), .ref (u 38), .ref (u 39)])), (u 17, .inr (0, [.int 0, .int 0, .int 0, .int 0, .int 0, .int 0, .int 0, .int 0, .int 0, .int 0, .ref (u 18), .ref (u 19), .ref (u 20), .ref (u 21), .ref (u 22), .ref (u 23), .ref (u 24), .ref (u 25), .ref (u 26), .ref (u 27)]))] H := hP
  have hD : va_D (lA s) [(qm, .inr (12, [.int 0, .ref (v 0), .ref (v 1), .ref (v 2), .ref (v 3), .int 0, .ref (v 4), .int 0, .int 0, .int 0, .int 0, .int 0, .int 0, .int (-1), .ref (v 5), .ref (v 6), .int 0, .int 0, .int 0, .ref (v 7), .ref (v 8), .int 0, .int 0, .ref (v 9), .ref (v 10), .ref (v 11), .ref (v 12), .ref (v 13), .ref (v 14)])), (v 0, .inl (g.2 0, 225, .inl (fun _ => 0))), (qx, .inr (11, [.ref (u 0), .ref (u 17), .ref (u 31), .ref (u 32), .ref (u 33), .ref (u 34), .ref (u 35), .ref (u 36), .ref (u 37), .ref (u 38), .ref (u 39)])), (u 17, .inr (0, [.int 0, .int 0, .int 0, .int 0, .int 0, .int 0, .int 0, .int 0, .int 0, .int 0, .ref (u 18), .ref (u 19), .ref (u 20), .ref (u 21), .ref (u 22), .ref (u 23), .ref (u 24), .ref (u 25), .ref (u 26), .ref (u 27)]))] := hD
  refine W.eq (g2 := F0 m 1972 ls [.int (-2)]) rfl ?_
  refine lv_aload_n hx hb dL_law_1972 rfl (lv_at hl 1 rfl) ?_
  refine lv_aload_n hx hb dL_law_1973 rfl (lv_at hl 3 rfl) ?_
  refine lv_iload_n hx hb dL_law_1974 rfl (lv_at hl 0 rfl) ?_
  refine lv_iconst (v := 1) hx hb dL_law_1975 (by decide) ?_
  refine lv_iadd hx hb dL_law_1976 ?_
  refine tp_i (v := 1) (by decide) ?_
  refine va_sld hx hb hX hbl hbA hS (by unfold vp_in; decide) dL_law_1977 ?_
  refine tp_i (v := xs 1) rfl ?_
  refine call_V (As := [.int (xs 1)]) (rest := [.int (-2)]) (wr := [(qx, .inr (11, [.ref (u 0), .ref (u 17), .ref (u 31), .ref (u 32), .ref (u 33), .ref (u 34), .ref (u 35), .ref (u 36), .ref (u 37), .ref (u 38), .ref (u 39)])), (u 17, .inr (0, [.int 0, .int 0, .int 0, .int 0, .int 0, .int 0, .int 0, .int 0, .int 0, .int 0, .ref (u 18), .ref (u 19), .ref (u 20), .ref (u 21), .ref (u 22), .ref (u 23), .ref (u 24), .ref (u 25), .ref (u 26), .ref (u 27)]))]) FC hKn (c_X12_read l g qm (v 0) (v 1) (v 2) (v 3) (v 4) (v 5) (v 6) (v 7) (v 8) (v 9) (v 10) (v 11) (v 12) (v 13) (v 14) (xs 1)) m_yX12_read b_599 (ci := 12) rfl rfl rfl hP hD hS hA [0, 1] [2, 3] rfl (by decide) rfl (by decide) (by decide) rfl hl.1 rfl (Nat.le_of_ble_eq_true rfl) dL_law_1978 ⟨(Nat.le_of_ble_eq_true rfl), (Nat.le_of_ble_eq_true rfl)⟩ ⟨(Nat.le_of_ble_eq_true rfl), (Nat.le_of_ble_eq_true rfl)⟩ (fun u2 H locs _ hP hD hS => ?_)
  have hP : va_P g.1 vwCl [(qx, .inr (11, [.ref (u 0), .ref (u 17), .ref (u 31), .ref (u 32), .ref (u 33), .ref (u 34), .ref (u 35), .ref (u 36), .ref (u 37), .ref (u 38), .ref (u 39)])), (u 17, .inr (0, [.int 0, .int 0, .int 0, .int 0, .int 0, .int 0, .int 0, .int 0, .int 0, .int 0, .ref (u 18), .ref (u 19), .ref (u 20), .ref (u 21), .ref (u 22), .ref (u 23), .ref (u 24), .ref (u 25), .ref (u 26), .ref (u 27)])), (qm, .inr (12, [.int 0, .ref (v 0), .ref (v 1), .ref (v 2), .ref (v 3), .int 0, .ref (v 4), .int 0, .int 0, .int 0, .int 0, .int 0, .int 0, .int (-1), .ref (v 5), .ref (v 6), .int 0, .int 0, .int 0, .ref (v 7), .ref (v 8), .int 0, .int 0, .ref (v 9), .ref (v 10), .ref (v 11), .ref (v 12), .ref (v 13), .ref (v 14)])), (v 0, .inl (g.2 0, 225, .inl (fun _ => 0)))] H := hP
  have hD : va_D (lA s) [(qx, .inr (11, [.ref (u 0), .ref (u 17), .ref (u 31), .ref (u 32), .ref (u 33), .ref (u 34), .ref (u 35), .ref (u 36), .ref (u 37), .ref (u 38), .ref (u 39)])), (u 17, .inr (0, [.int 0, .int 0, .int 0, .int 0, .int 0, .int 0, .int 0, .int 0, .int 0, .int 0, .ref (u 18), .ref (u 19), .ref (u 20), .ref (u 21), .ref (u 22), .ref (u 23), .ref (u 24), .ref (u 25), .ref (u 26), .ref (u 27)])), (qm, .inr (12, [.int 0, .ref (v 0), .ref (v 1), .ref (v 2), .ref (v 3), .int 0, .ref (v 4), .int 0, .int 0, .int 0, .int 0, .int 0, .int 0, .int (-1), .ref (v 5), .ref (v 6), .int 0, .int 0, .int 0, .ref (v 7), .ref (v 8), .int 0, .int 0, .ref (v 9), .ref (v 10), .ref (v 11), .ref (v 12), .ref (v 13), .ref (v 14)])), (v 0, .inl (g.2 0, 225, .inl (fun _ => 0)))] := hD
  refine W.eq (g2 := F0 m 1981 ls [.int (-2), .int (-2)]) rfl ?_
  refine lv_icmp_eq (tgt := 2465) hx hb dL_law_1981 (by decide) (fun _ => ?_) (fun h => absurd rfl h)
  exact law_end C0 hS (lv_sub hl [0, 1, 2, 3] rfl) (Nat.le_of_ble_eq_true rfl) (Nat.le_of_ble_eq_true rfl)
set_option maxRecDepth 100000 in
set_option maxHeartbeats 4000000 in
/-- guess -/
theorem law_58 {p : Program} {e : Env} {s : State} {m : MethodId} {below : List Frame} {meth : Method} {c : Code} {l : Launch} {g : GG} {b : Nat} {xs : Nat → Int32} (C0 : lw_At p s m meth c b 6 xs) (hKn : Kn g s) {H : Heap} {locs : List Loc} {ls : Array Slot} {qx qm : Nat} {u v : Nat → Nat} (hP : va_P g.1 vwCl (WX g qx u ++ WM g qm v) H) (hD : va_D (lA s) (WX g qx u ++ WM g qm v)) (hS : va_S (lA s) s.heap H locs) (hl : lv_has ls 4 [(3, .int 0), (2, .ref qm), (1, .ref qx), (0, .ref b)]) : W p l e room_1 s m #[Value.ref b] below meth c H locs 122 12079 (lw_Z below #[Value.ref b] s) (F0 m 1986 ls []) := by
  obtain ⟨hx, hb, hr, hml, hown, hts, hX, hbl, hlocks, hgv⟩ := id C0
  have hA : ∀ q : Nat, s.heap.size ≤ q → lA s q := fun _ h => h
  have hbA : ¬ lA s b := Nat.not_le.mpr hbl
  have hB : ∀ w ∈ BIG, w.before #[Value.ref b] s = true := fun w h => hts w (big_in w h)
  have FC : CallFix p m c cL_law 4 s #[Value.ref b] BIG RL := ⟨hx, hb, hml, hown, hB⟩
  have hP : va_P g.1 vwCl [(qx, .inr (11, [.ref (u 0), .ref (u 17), .ref (u 31), .ref (u 32), .ref (u 33), .ref (u 34), .ref (u 35), .ref (u 36), .ref (u 37), .ref (u 38), .ref (u 39)])), (u 17, .inr (0, [.int 0, .int 0, .int 0, .int 0, .int 0, .int 0, .int 0, .int 0, .int 0, .int 0, .ref (u 18), .ref (u 19), .ref (u 20), .ref (u 21), .ref (u 22), .ref (u 23), .ref (u 24), .ref (u 25), .ref (u 26), .ref (u 27)])), (qm, .inr (12, [.int 0, .ref (v 0), .ref (v 1), .ref (v 2), .ref (v 3), .int 0, .ref (v 4), .int 0, .int 0, .int 0, .int 0, .int 0, .int 0, .int (-1), .ref (v 5), .ref (v 6), .int 0, .int 0, .int 0, .ref (v 7), .ref (v 8), .int 0, .int 0, .ref (v 9), .ref (v 10), .ref (v 11), .ref (v 12), .ref (v 13), .ref (v 14)])), (v 0, .inl (g.2 0, 225, .inl (fun _ => 0)))] H := hP.sub [0, 18, 85, 86] rfl
  have hD : va_D (lA s) [(qx, .inr (11, [.ref (u 0), .ref (u 17), .ref (u 31), .ref (u 32), .ref (u 33), .ref (u 34), .ref (u 35), .ref (u 36), .ref (u 37), .ref (u 38), .ref (u 39)])), (u 17, .inr (0, [.int 0, .int 0, .int 0, .int 0, .int 0, .int 0, .int 0, .int 0, .int 0, .int 0, .ref (u 18), .ref (u 19), .ref (u 20), .ref (u 21), .ref (u 22), .ref (u 23), .ref (u 24), .ref (u 25), .ref (u 26), .ref (u 27)])), (qm, .inr (12, [.int 0, .ref (v 0), .ref (v 1), .ref (v 2), .ref (v 3), .int 0, .ref (v 4), .int 0, .int 0, .int 0, .int 0, .int 0, .int 0, .int (-1), .ref (v 5), .ref (v 6), .int 0, .int 0, .int 0, .ref (v 7), .ref (v 8), .int 0, .int 0, .ref (v 9), .ref (v 10), .ref (v 11), .ref (v 12), .ref (v 13), .ref (v 14)])), (v 0, .inl (g.2 0, 225, .inl (fun _ => 0)))] := hD.sub [0, 18, 85, 86] (by decide) rfl
  refine lv_aload_n hx hb dL_law_1986 rfl (lv_at hl 2 rfl) ?_
  refine lv_aload_n hx hb dL_law_1987 rfl (lv_at hl 3 rfl) ?_
  refine lv_iload_n hx hb dL_law_1988 rfl (lv_at hl 0 rfl) ?_
  refine lv_iconst (v := 1) hx hb dL_law_1989 (by decide) ?_
  refine lv_iadd hx hb dL_law_1990 ?_
  refine tp_i (v := 1) (by decide) ?_
  refine va_sld hx hb hX hbl hbA hS (by unfold vp_in; decide) dL_law_1991 ?_
  refine tp_i (v := xs 1) rfl ?_
  refine lv_aload_n hx hb dL_law_1992 rfl (lv_at hl 3 rfl) ?_
  refine lv_iload_n hx hb dL_law_1993 rfl (lv_at hl 0 rfl) ?_
  refine lv_iconst (v := 2) hx hb dL_law_1994 (by decide) ?_
  refine lv_iadd hx hb dL_law_1995 ?_
  refine tp_i (v := 2) (by decide) ?_
  refine va_sld hx hb hX hbl hbA hS (by unfold vp_in; decide) dL_law_1996 ?_
  refine tp_i (v := xs 2) rfl ?_
  refine call_V (As := [.int (xs 1), .int (xs 2)]) (rest := []) (wr := [(qm, .inr (12, [.int 0, .ref (v 0), .ref (v 1), .ref (v 2), .ref (v 3), .int 0, .ref (v 4), .int 0, .int 0, .int 0, .int 0, .int 0, .int 0, .int (-1), .ref (v 5), .ref (v 6), .int 0, .int 0, .int 0, .ref (v 7), .ref (v 8), .int 0, .int 0, .ref (v 9), .ref (v 10), .ref (v 11), .ref (v 12), .ref (v 13), .ref (v 14)])), (v 0, .inl (g.2 0, 225, .inl (fun _ => 0)))]) FC hKn (c_X11_guess l g qx (u 17) (u 0) (u 31) (u 32) (u 33) (u 34) (u 35) (u 36) (u 37) (u 38) (u 39) (u 18) (u 19) (u 20) (u 21) (u 22) (u 23) (u 24) (u 25) (u 26) (u 27) (xs 1) (xs 2)) m_yX11_guess b_600 (ci := 11) rfl rfl rfl hP hD hS hA [0, 1] [2, 3] rfl (by decide) rfl (by decide) (by decide) rfl hl.1 rfl (Nat.le_of_ble_eq_true rfl) dL_law_1997 ⟨(Nat.le_of_ble_eq_true rfl), (Nat.le_of_ble_eq_true rfl)⟩ ⟨(Nat.le_of_ble_eq_true rfl), (Nat.le_of_ble_eq_true rfl)⟩ (fun u1 H locs _ hP hD hS => ?_)
  have hP : va_P g.1 vwCl [(qm, .inr (12, [.int 0, .ref (v 0), .ref (v 1), .ref (v 2), .ref (v 3), .int 0, .ref (v 4), .int 0, .int 0, .int 0, .int 0, .int 0, .int 0, .int (-1), .ref (v 5), .ref (v 6), .int 0, .int 0, .int 0, .ref (v 7), .ref (v 8), .int 0, .int 0, .ref (v 9), .ref (v 10), .ref (v 11), .ref (v 12), .ref (v 13), .ref (v 14)])), (v 0, .inl (g.2 0, 225, .inl (fun _ => 0))), (qx, .inr (11, [.ref (u 0), .ref (u 17), .ref (u 31), .ref (u 32), .ref (u 33), .ref (u 34), .ref (u 35), .ref (u 36), .ref (u 37), .ref (u 38), .ref (u 39)])), (u 17, .inr (0, [.int 0, .int 0, .int 0, .int 0, .int 0, .int 0, .int 0, .int 0, .int 0, .int 0, .ref (u 18), .ref (u 19), .ref (u 20), .ref (u 21), .ref (u 22), .ref (u 23), .ref (u 24), .ref (u 25), .ref (u 26), .ref (u 27)]))] H := hP
  have hD : va_D (lA s) [(qm, .inr (12, [.int 0, .ref (v 0), .ref (v 1), .ref (v 2), .ref (v 3), .int 0, .ref (v 4), .int 0, .int 0, .int 0, .int 0, .int 0, .int 0, .int (-1), .ref (v 5), .ref (v 6), .int 0, .int 0, .int 0, .ref (v 7), .ref (v 8), .int 0, .int 0, .ref (v 9), .ref (v 10), .ref (v 11), .ref (v 12), .ref (v 13), .ref (v 14)])), (v 0, .inl (g.2 0, 225, .inl (fun _ => 0))), (qx, .inr (11, [.ref (u 0), .ref (u 17), .ref (u 31), .ref (u 32), .ref (u 33), .ref (u 34), .ref (u 35), .ref (u 36), .ref (u 37), .ref (u 38), .ref (u 39)])), (u 17, .inr (0, [.int 0, .int 0, .int 0, .int 0, .int 0, .int 0, .int 0, .int 0, .int 0, .int 0, .ref (u 18), .ref (u 19), .ref (u 20), .ref (u 21), .ref (u 22), .ref (u 23), .ref (u 24), .ref (u 25), .ref (u 26), .ref (u 27)]))] := hD
  refine W.eq (g2 := F0 m 2000 ls [.int (-2)]) rfl ?_
  refine lv_aload_n hx hb dL_law_2000 rfl (lv_at hl 1 rfl) ?_
  refine lv_aload_n hx hb dL_law_2001 rfl (lv_at hl 3 rfl) ?_
  refine lv_iload_n hx hb dL_law_2002 rfl (lv_at hl 0 rfl) ?_
  refine lv_iconst (v := 1) hx hb dL_law_2003 (by decide) ?_
  refine lv_iadd hx hb dL_law_2004 ?_
  refine tp_i (v := 1) (by decide) ?_
  refine va_sld hx hb hX hbl hbA hS (by unfold vp_in; decide) dL_law_2005 ?_
  refine tp_i (v := xs 1) rfl ?_
  refine lv_aload_n hx hb dL_law_2006 rfl (lv_at hl 3 rfl) ?_
  refine lv_iload_n hx hb dL_law_2007 rfl (lv_at hl 0 rfl) ?_
  refine lv_iconst (v := 2) hx hb dL_law_2008 (by decide) ?_
  refine lv_iadd hx hb dL_law_2009 ?_
  refine tp_i (v := 2) (by decide) ?_
  refine va_sld hx hb hX hbl hbA hS (by unfold vp_in; decide) dL_law_2010 ?_
  refine tp_i (v := xs 2) rfl ?_
  refine call_V (As := [.int (xs 1), .int (xs 2)]) (rest := [.int (-2)]) (wr := [(qx, .inr (11, [.ref (u 0), .ref (u 17), .ref (u 31), .ref (u 32), .ref (u 33), .ref (u 34), .ref (u 35), .ref (u 36), .ref (u 37), .ref (u 38), .ref (u 39)])), (u 17, .inr (0, [.int 0, .int 0, .int 0, .int 0, .int 0, .int 0, .int 0, .int 0, .int 0, .int 0, .ref (u 18), .ref (u 19), .ref (u 20), .ref (u 21), .ref (u 22), .ref (u 23), .ref (u 24), .ref (u 25), .ref (u 26), .ref (u 27)]))]) FC hKn (c_X12_guess l g qm (v 0) (v 1) (v 2) (v 3) (v 4) (v 5) (v 6) (v 7) (v 8) (v 9) (v 10) (v 11) (v 12) (v 13) (v 14) (xs 1) (xs 2)) m_yX12_guess b_601 (ci := 12) rfl rfl rfl hP hD hS hA [0, 1] [2, 3] rfl (by decide) rfl (by decide) (by decide) rfl hl.1 rfl (Nat.le_of_ble_eq_true rfl) dL_law_2011 ⟨(Nat.le_of_ble_eq_true rfl), (Nat.le_of_ble_eq_true rfl)⟩ ⟨(Nat.le_of_ble_eq_true rfl), (Nat.le_of_ble_eq_true rfl)⟩ (fun u2 H locs _ hP hD hS => ?_)
  have hP : va_P g.1 vwCl [(qx, .inr (11, [.ref (u 0), .ref (u 17), .ref (u 31), .ref (u 32), .ref (u 33), .ref (u 34), .ref (u 35), .ref (u 36), .ref (u 37), .ref (u 38), .ref (u 39)])), (u 17, .inr (0, [.int 0, .int 0, .int 0, .int 0, .int 0, .int 0, .int 0, .int 0, .int 0, .int 0, .ref (u 18), .ref (u 19), .ref (u 20), .ref (u 21), .ref (u 22), .ref (u 23), .ref (u 24), .ref (u 25), .ref (u 26), .ref (u 27)])), (qm, .inr (12, [.int 0, .ref (v 0), .ref (v 1), .ref (v 2), .ref (v 3), .int 0, .ref (v 4), .int 0, .int 0, .int 0, .int 0, .int 0, .int 0, .int (-1), .ref (v 5), .ref (v 6), .int 0, .int 0, .int 0, .ref (v 7), .ref (v 8), .int 0, .int 0, .ref (v 9), .ref (v 10), .ref (v 11), .ref (v 12), .ref (v 13), .ref (v 14)])), (v 0, .inl (g.2 0, 225, .inl (fun _ => 0)))] H := hP
  have hD : va_D (lA s) [(qx, .inr (11, [.ref (u 0), .ref (u 17), .ref (u 31), .ref (u 32), .ref (u 33), .ref (u 34), .ref (u 35), .ref (u 36), .ref (u 37), .ref (u 38), .ref (u 39)])), (u 17, .inr (0, [.int 0, .int 0, .int 0, .int 0, .int 0, .int 0, .int 0, .int 0, .int 0, .int 0, .ref (u 18), .ref (u 19), .ref (u 20), .ref (u 21), .ref (u 22), .ref (u 23), .ref (u 24), .ref (u 25), .ref (u 26), .ref (u 27)])), (qm, .inr (12, [.int 0, .ref (v 0), .ref (v 1), .ref (v 2), .ref (v 3), .int 0, .ref (v 4), .int 0, .int 0, .int 0, .int 0, .int 0, .int 0, .int (-1), .ref (v 5), .ref (v 6), .int 0, .int 0, .int 0, .ref (v 7), .ref (v 8), .int 0, .int 0, .ref (v 9), .ref (v 10), .ref (v 11), .ref (v 12), .ref (v 13), .ref (v 14)])), (v 0, .inl (g.2 0, 225, .inl (fun _ => 0)))] := hD
  refine W.eq (g2 := F0 m 2014 ls [.int (-2), .int (-2)]) rfl ?_
  refine lv_icmp_eq (tgt := 2465) hx hb dL_law_2014 (by decide) (fun _ => ?_) (fun h => absurd rfl h)
  exact law_end C0 hS (lv_sub hl [0, 1, 2, 3] rfl) (Nat.le_of_ble_eq_true rfl) (Nat.le_of_ble_eq_true rfl)
set_option maxRecDepth 100000 in
set_option maxHeartbeats 4000000 in
/-- worsen -/
theorem law_59 {p : Program} {e : Env} {s : State} {m : MethodId} {below : List Frame} {meth : Method} {c : Code} {l : Launch} {g : GG} {b : Nat} {xs : Nat → Int32} (C0 : lw_At p s m meth c b 6 xs) (hKn : Kn g s) {H : Heap} {locs : List Loc} {ls : Array Slot} {qx qm : Nat} {u v : Nat → Nat} (hP : va_P g.1 vwCl (WX g qx u ++ WM g qm v) H) (hD : va_D (lA s) (WX g qx u ++ WM g qm v)) (hS : va_S (lA s) s.heap H locs) (hl : lv_has ls 4 [(3, .int 0), (2, .ref qm), (1, .ref qx), (0, .ref b)]) : W p l e room_1 s m #[Value.ref b] below meth c H locs 122 12079 (lw_Z below #[Value.ref b] s) (F0 m 2019 ls []) := by
  obtain ⟨hx, hb, hr, hml, hown, hts, hX, hbl, hlocks, hgv⟩ := id C0
  have hA : ∀ q : Nat, s.heap.size ≤ q → lA s q := fun _ h => h
  have hbA : ¬ lA s b := Nat.not_le.mpr hbl
  have hB : ∀ w ∈ BIG, w.before #[Value.ref b] s = true := fun w h => hts w (big_in w h)
  have FC : CallFix p m c cL_law 4 s #[Value.ref b] BIG RL := ⟨hx, hb, hml, hown, hB⟩
  have hP : va_P g.1 vwCl [(qx, .inr (11, [.ref (u 0), .ref (u 17), .ref (u 31), .ref (u 32), .ref (u 33), .ref (u 34), .ref (u 35), .ref (u 36), .ref (u 37), .ref (u 38), .ref (u 39)])), (u 17, .inr (0, [.int 0, .int 0, .int 0, .int 0, .int 0, .int 0, .int 0, .int 0, .int 0, .int 0, .ref (u 18), .ref (u 19), .ref (u 20), .ref (u 21), .ref (u 22), .ref (u 23), .ref (u 24), .ref (u 25), .ref (u 26), .ref (u 27)])), (qm, .inr (12, [.int 0, .ref (v 0), .ref (v 1), .ref (v 2), .ref (v 3), .int 0, .ref (v 4), .int 0, .int 0, .int 0, .int 0, .int 0, .int 0, .int (-1), .ref (v 5), .ref (v 6), .int 0, .int 0, .int 0, .ref (v 7), .ref (v 8), .int 0, .int 0, .ref (v 9), .ref (v 10), .ref (v 11), .ref (v 12), .ref (v 13), .ref (v 14)])), (v 0, .inl (g.2 0, 225, .inl (fun _ => 0)))] H := hP.sub [0, 18, 85, 86] rfl
  have hD : va_D (lA s) [(qx, .inr (11, [.ref (u 0), .ref (u 17), .ref (u 31), .ref (u 32), .ref (u 33), .ref (u 34), .ref (u 35), .ref (u 36), .ref (u 37), .ref (u 38), .ref (u 39)])), (u 17, .inr (0, [.int 0, .int 0, .int 0, .int 0, .int 0, .int 0, .int 0, .int 0, .int 0, .int 0, .ref (u 18), .ref (u 19), .ref (u 20), .ref (u 21), .ref (u 22), .ref (u 23), .ref (u 24), .ref (u 25), .ref (u 26), .ref (u 27)])), (qm, .inr (12, [.int 0, .ref (v 0), .ref (v 1), .ref (v 2), .ref (v 3), .int 0, .ref (v 4), .int 0, .int 0, .int 0, .int 0, .int 0, .int 0, .int (-1), .ref (v 5), .ref (v 6), .int 0, .int 0, .int 0, .ref (v 7), .ref (v 8), .int 0, .int 0, .ref (v 9), .ref (v 10), .ref (v 11), .ref (v 12), .ref (v 13), .ref (v 14)])), (v 0, .inl (g.2 0, 225, .inl (fun _ => 0)))] := hD.sub [0, 18, 85, 86] (by decide) rfl
  refine lv_aload_n hx hb dL_law_2019 rfl (lv_at hl 2 rfl) ?_
  refine lv_aload_n hx hb dL_law_2020 rfl (lv_at hl 3 rfl) ?_
  refine lv_iload_n hx hb dL_law_2021 rfl (lv_at hl 0 rfl) ?_
  refine lv_iconst (v := 1) hx hb dL_law_2022 (by decide) ?_
  refine lv_iadd hx hb dL_law_2023 ?_
  refine tp_i (v := 1) (by decide) ?_
  refine va_sld hx hb hX hbl hbA hS (by unfold vp_in; decide) dL_law_2024 ?_
  refine tp_i (v := xs 1) rfl ?_
  refine lv_aload_n hx hb dL_law_2025 rfl (lv_at hl 3 rfl) ?_
  refine lv_iload_n hx hb dL_law_2026 rfl (lv_at hl 0 rfl) ?_
  refine lv_iconst (v := 2) hx hb dL_law_2027 (by decide) ?_
  refine lv_iadd hx hb dL_law_2028 ?_
  refine tp_i (v := 2) (by decide) ?_
  refine va_sld hx hb hX hbl hbA hS (by unfold vp_in; decide) dL_law_2029 ?_
  refine tp_i (v := xs 2) rfl ?_
  refine call_V (As := [.int (xs 1), .int (xs 2)]) (rest := []) (wr := [(qm, .inr (12, [.int 0, .ref (v 0), .ref (v 1), .ref (v 2), .ref (v 3), .int 0, .ref (v 4), .int 0, .int 0, .int 0, .int 0, .int 0, .int 0, .int (-1), .ref (v 5), .ref (v 6), .int 0, .int 0, .int 0, .ref (v 7), .ref (v 8), .int 0, .int 0, .ref (v 9), .ref (v 10), .ref (v 11), .ref (v 12), .ref (v 13), .ref (v 14)])), (v 0, .inl (g.2 0, 225, .inl (fun _ => 0)))]) FC hKn (c_X11_worsen l g qx (u 17) (u 0) (u 31) (u 32) (u 33) (u 34) (u 35) (u 36) (u 37) (u 38) (u 39) (u 18) (u 19) (u 20) (u 21) (u 22) (u 23) (u 24) (u 25) (u 26) (u 27) (xs 1) (xs 2)) m_yX11_worsen b_602 (ci := 11) rfl rfl rfl hP hD hS hA [0, 1] [2, 3] rfl (by decide) rfl (by decide) (by decide) rfl hl.1 rfl (Nat.le_of_ble_eq_true rfl) dL_law_2030 ⟨(Nat.le_of_ble_eq_true rfl), (Nat.le_of_ble_eq_true rfl)⟩ ⟨(Nat.le_of_ble_eq_true rfl), (Nat.le_of_ble_eq_true rfl)⟩ (fun u1 H locs _ hP hD hS => ?_)
  have hP : va_P g.1 vwCl [(qm, .inr (12, [.int 0, .ref (v 0), .ref (v 1), .ref (v 2), .ref (v 3), .int 0, .ref (v 4), .int 0, .int 0, .int 0, .int 0, .int 0, .int 0, .int (-1), .ref (v 5), .ref (v 6), .int 0, .int 0, .int 0, .ref (v 7), .ref (v 8), .int 0, .int 0, .ref (v 9), .ref (v 10), .ref (v 11), .ref (v 12), .ref (v 13), .ref (v 14)])), (v 0, .inl (g.2 0, 225, .inl (fun _ => 0))), (qx, .inr (11, [.ref (u 0), .ref (u 17), .ref (u 31), .ref (u 32), .ref (u 33), .ref (u 34), .ref (u 35), .ref (u 36), .ref (u 37), .ref (u 38), .ref (u 39)])), (u 17, .inr (0, [.int 0, .int 0, .int 0, .int 0, .int 0, .int 0, .int 0, .int 0, .int 0, .int 0, .ref (u 18), .ref (u 19), .ref (u 20), .ref (u 21), .ref (u 22), .ref (u 23), .ref (u 24), .ref (u 25), .ref (u 26), .ref (u 27)]))] H := hP
  have hD : va_D (lA s) [(qm, .inr (12, [.int 0, .ref (v 0), .ref (v 1), .ref (v 2), .ref (v 3), .int 0, .ref (v 4), .int 0, .int 0, .int 0, .int 0, .int 0, .int 0, .int (-1), .ref (v 5), .ref (v 6), .int 0, .int 0, .int 0, .ref (v 7), .ref (v 8), .int 0, .int 0, .ref (v 9), .ref (v 10), .ref (v 11), .ref (v 12), .ref (v 13), .ref (v 14)])), (v 0, .inl (g.2 0, 225, .inl (fun _ => 0))), (qx, .inr (11, [.ref (u 0), .ref (u 17), .ref (u 31), .ref (u 32), .ref (u 33), .ref (u 34), .ref (u 35), .ref (u 36), .ref (u 37), .ref (u 38), .ref (u 39)])), (u 17, .inr (0, [.int 0, .int 0, .int 0, .int 0, .int 0, .int 0, .int 0, .int 0, .int 0, .int 0, .ref (u 18), .ref (u 19), .ref (u 20), .ref (u 21), .ref (u 22), .ref (u 23), .ref (u 24), .ref (u 25), .ref (u 26), .ref (u 27)]))] := hD
  refine W.eq (g2 := F0 m 2033 ls [.int (-2)]) rfl ?_
  refine lv_aload_n hx hb dL_law_2033 rfl (lv_at hl 1 rfl) ?_
  refine lv_aload_n hx hb dL_law_2034 rfl (lv_at hl 3 rfl) ?_
  refine lv_iload_n hx hb dL_law_2035 rfl (lv_at hl 0 rfl) ?_
  refine lv_iconst (v := 1) hx hb dL_law_2036 (by decide) ?_
  refine lv_iadd hx hb dL_law_2037 ?_
  refine tp_i (v := 1) (by decide) ?_
  refine va_sld hx hb hX hbl hbA hS (by unfold vp_in; decide) dL_law_2038 ?_
  refine tp_i (v := xs 1) rfl ?_
  refine lv_aload_n hx hb dL_law_2039 rfl (lv_at hl 3 rfl) ?_
  refine lv_iload_n hx hb dL_law_2040 rfl (lv_at hl 0 rfl) ?_
  refine lv_iconst (v := 2) hx hb dL_law_2041 (by decide) ?_
  refine lv_iadd hx hb dL_law_2042 ?_
  refine tp_i (v := 2) (by decide) ?_
  refine va_sld hx hb hX hbl hbA hS (by unfold vp_in; decide) dL_law_2043 ?_
  refine tp_i (v := xs 2) rfl ?_
  refine call_V (As := [.int (xs 1), .int (xs 2)]) (rest := [.int (-2)]) (wr := [(qx, .inr (11, [.ref (u 0), .ref (u 17), .ref (u 31), .ref (u 32), .ref (u 33), .ref (u 34), .ref (u 35), .ref (u 36), .ref (u 37), .ref (u 38), .ref (u 39)])), (u 17, .inr (0, [.int 0, .int 0, .int 0, .int 0, .int 0, .int 0, .int 0, .int 0, .int 0, .int 0, .ref (u 18), .ref (u 19), .ref (u 20), .ref (u 21), .ref (u 22), .ref (u 23), .ref (u 24), .ref (u 25), .ref (u 26), .ref (u 27)]))]) FC hKn (c_X12_worsen l g qm (v 0) (v 1) (v 2) (v 3) (v 4) (v 5) (v 6) (v 7) (v 8) (v 9) (v 10) (v 11) (v 12) (v 13) (v 14) (xs 1) (xs 2)) m_yX12_worsen b_603 (ci := 12) rfl rfl rfl hP hD hS hA [0, 1] [2, 3] rfl (by decide) rfl (by decide) (by decide) rfl hl.1 rfl (Nat.le_of_ble_eq_true rfl) dL_law_2044 ⟨(Nat.le_of_ble_eq_true rfl), (Nat.le_of_ble_eq_true rfl)⟩ ⟨(Nat.le_of_ble_eq_true rfl), (Nat.le_of_ble_eq_true rfl)⟩ (fun u2 H locs _ hP hD hS => ?_)
  have hP : va_P g.1 vwCl [(qx, .inr (11, [.ref (u 0), .ref (u 17), .ref (u 31), .ref (u 32), .ref (u 33), .ref (u 34), .ref (u 35), .ref (u 36), .ref (u 37), .ref (u 38), .ref (u 39)])), (u 17, .inr (0, [.int 0, .int 0, .int 0, .int 0, .int 0, .int 0, .int 0, .int 0, .int 0, .int 0, .ref (u 18), .ref (u 19), .ref (u 20), .ref (u 21), .ref (u 22), .ref (u 23), .ref (u 24), .ref (u 25), .ref (u 26), .ref (u 27)])), (qm, .inr (12, [.int 0, .ref (v 0), .ref (v 1), .ref (v 2), .ref (v 3), .int 0, .ref (v 4), .int 0, .int 0, .int 0, .int 0, .int 0, .int 0, .int (-1), .ref (v 5), .ref (v 6), .int 0, .int 0, .int 0, .ref (v 7), .ref (v 8), .int 0, .int 0, .ref (v 9), .ref (v 10), .ref (v 11), .ref (v 12), .ref (v 13), .ref (v 14)])), (v 0, .inl (g.2 0, 225, .inl (fun _ => 0)))] H := hP
  have hD : va_D (lA s) [(qx, .inr (11, [.ref (u 0), .ref (u 17), .ref (u 31), .ref (u 32), .ref (u 33), .ref (u 34), .ref (u 35), .ref (u 36), .ref (u 37), .ref (u 38), .ref (u 39)])), (u 17, .inr (0, [.int 0, .int 0, .int 0, .int 0, .int 0, .int 0, .int 0, .int 0, .int 0, .int 0, .ref (u 18), .ref (u 19), .ref (u 20), .ref (u 21), .ref (u 22), .ref (u 23), .ref (u 24), .ref (u 25), .ref (u 26), .ref (u 27)])), (qm, .inr (12, [.int 0, .ref (v 0), .ref (v 1), .ref (v 2), .ref (v 3), .int 0, .ref (v 4), .int 0, .int 0, .int 0, .int 0, .int 0, .int 0, .int (-1), .ref (v 5), .ref (v 6), .int 0, .int 0, .int 0, .ref (v 7), .ref (v 8), .int 0, .int 0, .ref (v 9), .ref (v 10), .ref (v 11), .ref (v 12), .ref (v 13), .ref (v 14)])), (v 0, .inl (g.2 0, 225, .inl (fun _ => 0)))] := hD
  refine W.eq (g2 := F0 m 2047 ls [.int (-2), .int (-2)]) rfl ?_
  refine lv_icmp_eq (tgt := 2465) hx hb dL_law_2047 (by decide) (fun _ => ?_) (fun h => absurd rfl h)
  exact law_end C0 hS (lv_sub hl [0, 1, 2, 3] rfl) (Nat.le_of_ble_eq_true rfl) (Nat.le_of_ble_eq_true rfl)
set_option maxRecDepth 100000 in
set_option maxHeartbeats 4000000 in
/-- really -/
theorem law_60 {p : Program} {e : Env} {s : State} {m : MethodId} {below : List Frame} {meth : Method} {c : Code} {l : Launch} {g : GG} {b : Nat} {xs : Nat → Int32} (C0 : lw_At p s m meth c b 6 xs) (hKn : Kn g s) {H : Heap} {locs : List Loc} {ls : Array Slot} {qx qm : Nat} {u v : Nat → Nat} (hP : va_P g.1 vwCl (WX g qx u ++ WM g qm v) H) (hD : va_D (lA s) (WX g qx u ++ WM g qm v)) (hS : va_S (lA s) s.heap H locs) (hl : lv_has ls 4 [(3, .int 0), (2, .ref qm), (1, .ref qx), (0, .ref b)]) : W p l e room_1 s m #[Value.ref b] below meth c H locs 122 12079 (lw_Z below #[Value.ref b] s) (F0 m 2052 ls []) := by
  obtain ⟨hx, hb, hr, hml, hown, hts, hX, hbl, hlocks, hgv⟩ := id C0
  have hA : ∀ q : Nat, s.heap.size ≤ q → lA s q := fun _ h => h
  have hbA : ¬ lA s b := Nat.not_le.mpr hbl
  have hB : ∀ w ∈ BIG, w.before #[Value.ref b] s = true := fun w h => hts w (big_in w h)
  have FC : CallFix p m c cL_law 4 s #[Value.ref b] BIG RL := ⟨hx, hb, hml, hown, hB⟩
  have hP : va_P g.1 vwCl [(qx, .inr (11, [.ref (u 0), .ref (u 17), .ref (u 31), .ref (u 32), .ref (u 33), .ref (u 34), .ref (u 35), .ref (u 36), .ref (u 37), .ref (u 38), .ref (u 39)])), (u 17, .inr (0, [.int 0, .int 0, .int 0, .int 0, .int 0, .int 0, .int 0, .int 0, .int 0, .int 0, .ref (u 18), .ref (u 19), .ref (u 20), .ref (u 21), .ref (u 22), .ref (u 23), .ref (u 24), .ref (u 25), .ref (u 26), .ref (u 27)])), (qm, .inr (12, [.int 0, .ref (v 0), .ref (v 1), .ref (v 2), .ref (v 3), .int 0, .ref (v 4), .int 0, .int 0, .int 0, .int 0, .int 0, .int 0, .int (-1), .ref (v 5), .ref (v 6), .int 0, .int 0, .int 0, .ref (v 7), .ref (v 8), .int 0, .int 0, .ref (v 9), .ref (v 10), .ref (v 11), .ref (v 12), .ref (v 13), .ref (v 14)])), (v 0, .inl (g.2 0, 225, .inl (fun _ => 0)))] H := hP.sub [0, 18, 85, 86] rfl
  have hD : va_D (lA s) [(qx, .inr (11, [.ref (u 0), .ref (u 17), .ref (u 31), .ref (u 32), .ref (u 33), .ref (u 34), .ref (u 35), .ref (u 36), .ref (u 37), .ref (u 38), .ref (u 39)])), (u 17, .inr (0, [.int 0, .int 0, .int 0, .int 0, .int 0, .int 0, .int 0, .int 0, .int 0, .int 0, .ref (u 18), .ref (u 19), .ref (u 20), .ref (u 21), .ref (u 22), .ref (u 23), .ref (u 24), .ref (u 25), .ref (u 26), .ref (u 27)])), (qm, .inr (12, [.int 0, .ref (v 0), .ref (v 1), .ref (v 2), .ref (v 3), .int 0, .ref (v 4), .int 0, .int 0, .int 0, .int 0, .int 0, .int 0, .int (-1), .ref (v 5), .ref (v 6), .int 0, .int 0, .int 0, .ref (v 7), .ref (v 8), .int 0, .int 0, .ref (v 9), .ref (v 10), .ref (v 11), .ref (v 12), .ref (v 13), .ref (v 14)])), (v 0, .inl (g.2 0, 225, .inl (fun _ => 0)))] := hD.sub [0, 18, 85, 86] (by decide) rfl
  refine lv_aload_n hx hb dL_law_2052 rfl (lv_at hl 2 rfl) ?_
  refine lv_aload_n hx hb dL_law_2053 rfl (lv_at hl 3 rfl) ?_
  refine lv_iload_n hx hb dL_law_2054 rfl (lv_at hl 0 rfl) ?_
  refine lv_iconst (v := 1) hx hb dL_law_2055 (by decide) ?_
  refine lv_iadd hx hb dL_law_2056 ?_
  refine tp_i (v := 1) (by decide) ?_
  refine va_sld hx hb hX hbl hbA hS (by unfold vp_in; decide) dL_law_2057 ?_
  refine tp_i (v := xs 1) rfl ?_
  refine call_V (As := [.int (xs 1)]) (rest := []) (wr := [(qm, .inr (12, [.int 0, .ref (v 0), .ref (v 1), .ref (v 2), .ref (v 3), .int 0, .ref (v 4), .int 0, .int 0, .int 0, .int 0, .int 0, .int 0, .int (-1), .ref (v 5), .ref (v 6), .int 0, .int 0, .int 0, .ref (v 7), .ref (v 8), .int 0, .int 0, .ref (v 9), .ref (v 10), .ref (v 11), .ref (v 12), .ref (v 13), .ref (v 14)])), (v 0, .inl (g.2 0, 225, .inl (fun _ => 0)))]) FC hKn (c_X11_really l g qx (u 17) (u 0) (u 31) (u 32) (u 33) (u 34) (u 35) (u 36) (u 37) (u 38) (u 39) (u 18) (u 19) (u 20) (u 21) (u 22) (u 23) (u 24) (u 25) (u 26) (u 27) (xs 1)) m_yX11_really b_604 (ci := 11) rfl rfl rfl hP hD hS hA [0, 1] [2, 3] rfl (by decide) rfl (by decide) (by decide) rfl hl.1 rfl (Nat.le_of_ble_eq_true rfl) dL_law_2058 ⟨(Nat.le_of_ble_eq_true rfl), (Nat.le_of_ble_eq_true rfl)⟩ ⟨(Nat.le_of_ble_eq_true rfl), (Nat.le_of_ble_eq_true rfl)⟩ (fun u1 H locs _ hP hD hS => ?_)
  have hP : va_P g.1 vwCl [(qm, .inr (12, [.int 0, .ref (v 0), .ref (v 1), .ref (v 2), .ref (v 3), .int 0, .ref (v 4), .int 0, .int 0, .int 0, .int 0, .int 0, .int 0, .int (-1), .ref (v 5), .ref (v 6), .int 0, .int 0, .int 0, .ref (v 7), .ref (v 8), .int 0, .int 0, .ref (v 9), .ref (v 10), .ref (v 11), .ref (v 12), .ref (v 13), .ref (v 14)])), (v 0, .inl (g.2 0, 225, .inl (fun _ => 0))), (qx, .inr (11, [.ref (u 0), .ref (u 17), .ref (u 31), .ref (u 32), .ref (u 33), .ref (u 34), .ref (u 35), .ref (u 36), .ref (u 37), .ref (u 38), .ref (u 39)])), (u 17, .inr (0, [.int 0, .int 0, .int 0, .int 0, .int 0, .int 0, .int 0, .int 0, .int 0, .int 0, .ref (u 18), .ref (u 19), .ref (u 20), .ref (u 21), .ref (u 22), .ref (u 23), .ref (u 24), .ref (u 25), .ref (u 26), .ref (u 27)]))] H := hP
  have hD : va_D (lA s) [(qm, .inr (12, [.int 0, .ref (v 0), .ref (v 1), .ref (v 2), .ref (v 3), .int 0, .ref (v 4), .int 0, .int 0, .int 0, .int 0, .int 0, .int 0, .int (-1), .ref (v 5), .ref (v 6), .int 0, .int 0, .int 0, .ref (v 7), .ref (v 8), .int 0, .int 0, .ref (v 9), .ref (v 10), .ref (v 11), .ref (v 12), .ref (v 13), .ref (v 14)])), (v 0, .inl (g.2 0, 225, .inl (fun _ => 0))), (qx, .inr (11, [.ref (u 0), .ref (u 17), .ref (u 31), .ref (u 32), .ref (u 33), .ref (u 34), .ref (u 35), .ref (u 36), .ref (u 37), .ref (u 38), .ref (u 39)])), (u 17, .inr (0, [.int 0, .int 0, .int 0, .int 0, .int 0, .int 0, .int 0, .int 0, .int 0, .int 0, .ref (u 18), .ref (u 19), .ref (u 20), .ref (u 21), .ref (u 22), .ref (u 23), .ref (u 24), .ref (u 25), .ref (u 26), .ref (u 27)]))] := hD
  refine W.eq (g2 := F0 m 2061 ls [.int (-2)]) rfl ?_
  refine lv_aload_n hx hb dL_law_2061 rfl (lv_at hl 1 rfl) ?_
  refine lv_aload_n hx hb dL_law_2062 rfl (lv_at hl 3 rfl) ?_
  refine lv_iload_n hx hb dL_law_2063 rfl (lv_at hl 0 rfl) ?_
  refine lv_iconst (v := 1) hx hb dL_law_2064 (by decide) ?_
  refine lv_iadd hx hb dL_law_2065 ?_
  refine tp_i (v := 1) (by decide) ?_
  refine va_sld hx hb hX hbl hbA hS (by unfold vp_in; decide) dL_law_2066 ?_
  refine tp_i (v := xs 1) rfl ?_
  refine call_V (As := [.int (xs 1)]) (rest := [.int (-2)]) (wr := [(qx, .inr (11, [.ref (u 0), .ref (u 17), .ref (u 31), .ref (u 32), .ref (u 33), .ref (u 34), .ref (u 35), .ref (u 36), .ref (u 37), .ref (u 38), .ref (u 39)])), (u 17, .inr (0, [.int 0, .int 0, .int 0, .int 0, .int 0, .int 0, .int 0, .int 0, .int 0, .int 0, .ref (u 18), .ref (u 19), .ref (u 20), .ref (u 21), .ref (u 22), .ref (u 23), .ref (u 24), .ref (u 25), .ref (u 26), .ref (u 27)]))]) FC hKn (c_X12_really l g qm (v 0) (v 1) (v 2) (v 3) (v 4) (v 5) (v 6) (v 7) (v 8) (v 9) (v 10) (v 11) (v 12) (v 13) (v 14) (xs 1)) m_yX12_really b_605 (ci := 12) rfl rfl rfl hP hD hS hA [0, 1] [2, 3] rfl (by decide) rfl (by decide) (by decide) rfl hl.1 rfl (Nat.le_of_ble_eq_true rfl) dL_law_2067 ⟨(Nat.le_of_ble_eq_true rfl), (Nat.le_of_ble_eq_true rfl)⟩ ⟨(Nat.le_of_ble_eq_true rfl), (Nat.le_of_ble_eq_true rfl)⟩ (fun u2 H locs _ hP hD hS => ?_)
  have hP : va_P g.1 vwCl [(qx, .inr (11, [.ref (u 0), .ref (u 17), .ref (u 31), .ref (u 32), .ref (u 33), .ref (u 34), .ref (u 35), .ref (u 36), .ref (u 37), .ref (u 38), .ref (u 39)])), (u 17, .inr (0, [.int 0, .int 0, .int 0, .int 0, .int 0, .int 0, .int 0, .int 0, .int 0, .int 0, .ref (u 18), .ref (u 19), .ref (u 20), .ref (u 21), .ref (u 22), .ref (u 23), .ref (u 24), .ref (u 25), .ref (u 26), .ref (u 27)])), (qm, .inr (12, [.int 0, .ref (v 0), .ref (v 1), .ref (v 2), .ref (v 3), .int 0, .ref (v 4), .int 0, .int 0, .int 0, .int 0, .int 0, .int 0, .int (-1), .ref (v 5), .ref (v 6), .int 0, .int 0, .int 0, .ref (v 7), .ref (v 8), .int 0, .int 0, .ref (v 9), .ref (v 10), .ref (v 11), .ref (v 12), .ref (v 13), .ref (v 14)])), (v 0, .inl (g.2 0, 225, .inl (fun _ => 0)))] H := hP
  have hD : va_D (lA s) [(qx, .inr (11, [.ref (u 0), .ref (u 17), .ref (u 31), .ref (u 32), .ref (u 33), .ref (u 34), .ref (u 35), .ref (u 36), .ref (u 37), .ref (u 38), .ref (u 39)])), (u 17, .inr (0, [.int 0, .int 0, .int 0, .int 0, .int 0, .int 0, .int 0, .int 0, .int 0, .int 0, .ref (u 18), .ref (u 19), .ref (u 20), .ref (u 21), .ref (u 22), .ref (u 23), .ref (u 24), .ref (u 25), .ref (u 26), .ref (u 27)])), (qm, .inr (12, [.int 0, .ref (v 0), .ref (v 1), .ref (v 2), .ref (v 3), .int 0, .ref (v 4), .int 0, .int 0, .int 0, .int 0, .int 0, .int 0, .int (-1), .ref (v 5), .ref (v 6), .int 0, .int 0, .int 0, .ref (v 7), .ref (v 8), .int 0, .int 0, .ref (v 9), .ref (v 10), .ref (v 11), .ref (v 12), .ref (v 13), .ref (v 14)])), (v 0, .inl (g.2 0, 225, .inl (fun _ => 0)))] := hD
  refine W.eq (g2 := F0 m 2070 ls [.int (-2), .int (-2)]) rfl ?_
  refine lv_icmp_eq (tgt := 2465) hx hb dL_law_2070 (by decide) (fun _ => ?_) (fun h => absurd rfl h)
  exact law_end C0 hS (lv_sub hl [0, 1, 2, 3] rfl) (Nat.le_of_ble_eq_true rfl) (Nat.le_of_ble_eq_true rfl)
set_option maxRecDepth 100000 in
set_option maxHeartbeats 4000000 in
/-- doubt -/
theorem law_61 {p : Program} {e : Env} {s : State} {m : MethodId} {below : List Frame} {meth : Method} {c : Code} {l : Launch} {g : GG} {b : Nat} {xs : Nat → Int32} (C0 : lw_At p s m meth c b 6 xs) (hKn : Kn g s) {H : Heap} {locs : List Loc} {ls : Array Slot} {qx qm : Nat} {u v : Nat → Nat} (hP : va_P g.1 vwCl (WX g qx u ++ WM g qm v) H) (hD : va_D (lA s) (WX g qx u ++ WM g qm v)) (hS : va_S (lA s) s.heap H locs) (hl : lv_has ls 4 [(3, .int 0), (2, .ref qm), (1, .ref qx), (0, .ref b)]) : W p l e room_1 s m #[Value.ref b] below meth c H locs 122 12079 (lw_Z below #[Value.ref b] s) (F0 m 2075 ls []) := by
  obtain ⟨hx, hb, hr, hml, hown, hts, hX, hbl, hlocks, hgv⟩ := id C0
  have hA : ∀ q : Nat, s.heap.size ≤ q → lA s q := fun _ h => h
  have hbA : ¬ lA s b := Nat.not_le.mpr hbl
  have hB : ∀ w ∈ BIG, w.before #[Value.ref b] s = true := fun w h => hts w (big_in w h)
  have FC : CallFix p m c cL_law 4 s #[Value.ref b] BIG RL := ⟨hx, hb, hml, hown, hB⟩
  have hP : va_P g.1 vwCl [(qx, .inr (11, [.ref (u 0), .ref (u 17), .ref (u 31), .ref (u 32), .ref (u 33), .ref (u 34), .ref (u 35), .ref (u 36), .ref (u 37), .ref (u 38), .ref (u 39)])), (u 17, .inr (0, [.int 0, .int 0, .int 0, .int 0, .int 0, .int 0, .int 0, .int 0, .int 0, .int 0, .ref (u 18), .ref (u 19), .ref (u 20), .ref (u 21), .ref (u 22), .ref (u 23), .ref (u 24), .ref (u 25), .ref (u 26), .ref (u 27)])), (qm, .inr (12, [.int 0, .ref (v 0), .ref (v 1), .ref (v 2), .ref (v 3), .int 0, .ref (v 4), .int 0, .int 0, .int 0, .int 0, .int 0, .int 0, .int (-1), .ref (v 5), .ref (v 6), .int 0, .int 0, .int 0, .ref (v 7), .ref (v 8), .int 0, .int 0, .ref (v 9), .ref (v 10), .ref (v 11), .ref (v 12), .ref (v 13), .ref (v 14)])), (v 0, .inl (g.2 0, 225, .inl (fun _ => 0)))] H := hP.sub [0, 18, 85, 86] rfl
  have hD : va_D (lA s) [(qx, .inr (11, [.ref (u 0), .ref (u 17), .ref (u 31), .ref (u 32), .ref (u 33), .ref (u 34), .ref (u 35), .ref (u 36), .ref (u 37), .ref (u 38), .ref (u 39)])), (u 17, .inr (0, [.int 0, .int 0, .int 0, .int 0, .int 0, .int 0, .int 0, .int 0, .int 0, .int 0, .ref (u 18), .ref (u 19), .ref (u 20), .ref (u 21), .ref (u 22), .ref (u 23), .ref (u 24), .ref (u 25), .ref (u 26), .ref (u 27)])), (qm, .inr (12, [.int 0, .ref (v 0), .ref (v 1), .ref (v 2), .ref (v 3), .int 0, .ref (v 4), .int 0, .int 0, .int 0, .int 0, .int 0, .int 0, .int (-1), .ref (v 5), .ref (v 6), .int 0, .int 0, .int 0, .ref (v 7), .ref (v 8), .int 0, .int 0, .ref (v 9), .ref (v 10), .ref (v 11), .ref (v 12), .ref (v 13), .ref (v 14)])), (v 0, .inl (g.2 0, 225, .inl (fun _ => 0)))] := hD.sub [0, 18, 85, 86] (by decide) rfl
  refine lv_aload_n hx hb dL_law_2075 rfl (lv_at hl 2 rfl) ?_
  refine lv_aload_n hx hb dL_law_2076 rfl (lv_at hl 3 rfl) ?_
  refine lv_iload_n hx hb dL_law_2077 rfl (lv_at hl 0 rfl) ?_
  refine lv_iconst (v := 1) hx hb dL_law_2078 (by decide) ?_
  refine lv_iadd hx hb dL_law_2079 ?_
  refine tp_i (v := 1) (by decide) ?_
  refine va_sld hx hb hX hbl hbA hS (by unfold vp_in; decide) dL_law_2080 ?_
  refine tp_i (v := xs 1) rfl ?_
  refine lv_aload_n hx hb dL_law_2081 rfl (lv_at hl 3 rfl) ?_
  refine lv_iload_n hx hb dL_law_2082 rfl (lv_at hl 0 rfl) ?_
  refine lv_iconst (v := 2) hx hb dL_law_2083 (by decide) ?_
  refine lv_iadd hx hb dL_law_2084 ?_
  refine tp_i (v := 2) (by decide) ?_
  refine va_sld hx hb hX hbl hbA hS (by unfold vp_in; decide) dL_law_2085 ?_
  refine tp_i (v := xs 2) rfl ?_
  refine lv_aload_n hx hb dL_law_2086 rfl (lv_at hl 3 rfl) ?_
  refine lv_iload_n hx hb dL_law_2087 rfl (lv_at hl 0 rfl) ?_
  refine lv_iconst (v := 3) hx hb dL_law_2088 (by decide) ?_
  refine lv_iadd hx hb dL_law_2089 ?_
  refine tp_i (v := 3) (by decide) ?_
  refine va_sld hx hb hX hbl hbA hS (by unfold vp_in; decide) dL_law_2090 ?_
  refine tp_i (v := xs 3) rfl ?_
  refine call_V (As := [.int (xs 1), .int (xs 2), .int (xs 3)]) (rest := []) (wr := [(qm, .inr (12, [.int 0, .ref (v 0), .ref (v 1), .ref (v 2), .ref (v 3), .int 0, .ref (v 4), .int 0, .int 0, .int 0, .int 0, .int 0, .int 0, .int (-1), .ref (v 5), .ref (v 6), .int 0, .int 0, .int 0, .ref (v 7), .ref (v 8), .int 0, .int 0, .ref (v 9), .ref (v 10), .ref (v 11), .ref (v 12), .ref (v 13), .ref (v 14)])), (v 0, .inl (g.2 0, 225, .inl (fun _ => 0)))]) FC hKn (c_X11_doubt l g qx (u 17) (u 0) (u 31) (u 32) (u 33) (u 34) (u 35) (u 36) (u 37) (u 38) (u 39) (u 18) (u 19) (u 20) (u 21) (u 22) (u 23) (u 24) (u 25) (u 26) (u 27) (xs 1) (xs 2) (xs 3)) m_yX11_doubt b_606 (ci := 11) rfl rfl rfl hP hD hS hA [0, 1] [2, 3] rfl (by decide) rfl (by decide) (by decide) rfl hl.1 rfl (Nat.le_of_ble_eq_true rfl) dL_law_2091 ⟨(Nat.le_of_ble_eq_true rfl), (Nat.le_of_ble_eq_true rfl)⟩ ⟨(Nat.le_of_ble_eq_true rfl), (Nat.le_of_ble_eq_true rfl)⟩ (fun u1 H locs _ hP hD hS => ?_)
  have hP : va_P g.1 vwCl [(qm, .inr (12, [.int 0, .ref (v 0), .ref (v 1), .ref (v 2), .ref (v 3), .int 0, .ref (v 4), .int 0, .int 0, .int 0, .int 0, .int 0, .int 0, .int (-1), .ref (v 5), .ref (v 6), .int 0, .int 0, .int 0, .ref (v 7), .ref (v 8), .int 0, .int 0, .ref (v 9), .ref (v 10), .ref (v 11), .ref (v 12), .ref (v 13), .ref (v 14)])), (v 0, .inl (g.2 0, 225, .inl (fun _ => 0))), (qx, .inr (11, [.ref (u 0), .ref (u 17), .ref (u 31), .ref (u 32), .ref (u 33), .ref (u 34), .ref (u 35), .ref (u 36), .ref (u 37), .ref (u 38), .ref (u 39)])), (u 17, .inr (0, [.int 0, .int 0, .int 0, .int 0, .int 0, .int 0, .int 0, .int 0, .int 0, .int 0, .ref (u 18), .ref (u 19), .ref (u 20), .ref (u 21), .ref (u 22), .ref (u 23), .ref (u 24), .ref (u 25), .ref (u 26), .ref (u 27)]))] H := hP
  have hD : va_D (lA s) [(qm, .inr (12, [.int 0, .ref (v 0), .ref (v 1), .ref (v 2), .ref (v 3), .int 0, .ref (v 4), .int 0, .int 0, .int 0, .int 0, .int 0, .int 0, .int (-1), .ref (v 5), .ref (v 6), .int 0, .int 0, .int 0, .ref (v 7), .ref (v 8), .int 0, .int 0, .ref (v 9), .ref (v 10), .ref (v 11), .ref (v 12), .ref (v 13), .ref (v 14)])), (v 0, .inl (g.2 0, 225, .inl (fun _ => 0))), (qx, .inr (11, [.ref (u 0), .ref (u 17), .ref (u 31), .ref (u 32), .ref (u 33), .ref (u 34), .ref (u 35), .ref (u 36), .ref (u 37), .ref (u 38), .ref (u 39)])), (u 17, .inr (0, [.int 0, .int 0, .int 0, .int 0, .int 0, .int 0, .int 0, .int 0, .int 0, .int 0, .ref (u 18), .ref (u 19), .ref (u 20), .ref (u 21), .ref (u 22), .ref (u 23), .ref (u 24), .ref (u 25), .ref (u 26), .ref (u 27)]))] := hD
  refine W.eq (g2 := F0 m 2094 ls [.int (-2)]) rfl ?_
  refine lv_aload_n hx hb dL_law_2094 rfl (lv_at hl 1 rfl) ?_
  refine lv_aload_n hx hb dL_law_2095 rfl (lv_at hl 3 rfl) ?_
  refine lv_iload_n hx hb dL_law_2096 rfl (lv_at hl 0 rfl) ?_
  refine lv_iconst (v := 1) hx hb dL_law_2097 (by decide) ?_
  refine lv_iadd hx hb dL_law_2098 ?_
  refine tp_i (v := 1) (by decide) ?_
  refine va_sld hx hb hX hbl hbA hS (by unfold vp_in; decide) dL_law_2099 ?_
  refine tp_i (v := xs 1) rfl ?_
  refine lv_aload_n hx hb dL_law_2100 rfl (lv_at hl 3 rfl) ?_
  refine lv_iload_n hx hb dL_law_2101 rfl (lv_at hl 0 rfl) ?_
  refine lv_iconst (v := 2) hx hb dL_law_2102 (by decide) ?_
  refine lv_iadd hx hb dL_law_2103 ?_
  refine tp_i (v := 2) (by decide) ?_
  refine va_sld hx hb hX hbl hbA hS (by unfold vp_in; decide) dL_law_2104 ?_
  refine tp_i (v := xs 2) rfl ?_
  refine lv_aload_n hx hb dL_law_2105 rfl (lv_at hl 3 rfl) ?_
  refine lv_iload_n hx hb dL_law_2106 rfl (lv_at hl 0 rfl) ?_
  refine lv_iconst (v := 3) hx hb dL_law_2107 (by decide) ?_
  refine lv_iadd hx hb dL_law_2108 ?_
  refine tp_i (v := 3) (by decide) ?_
  refine va_sld hx hb hX hbl hbA hS (by unfold vp_in; decide) dL_law_2109 ?_
  refine tp_i (v := xs 3) rfl ?_
  refine call_V (As := [.int (xs 1), .int (xs 2), .int (xs 3)]) (rest := [.int (-2)]) (wr := [(qx, .inr (11, [.ref (u 0), .ref (u 17), .ref (u 31), .ref (u 32), .ref (u 33), .ref (u 34), .ref (u 35), .ref (u 36), .ref (u 37), .ref (u 38), .ref (u 39)])), (u 17, .inr (0, [.int 0, .int 0, .int 0, .int 0, .int 0, .int 0, .int 0, .int 0, .int 0, .int 0, .ref (u 18), .ref (u 19), .ref (u 20), .ref (u 21), .ref (u 22), .ref (u 23), .ref (u 24), .ref (u 25), .ref (u 26), .ref (u 27)]))]) FC hKn (c_X12_doubt l g qm (v 0) (v 1) (v 2) (v 3) (v 4) (v 5) (v 6) (v 7) (v 8) (v 9) (v 10) (v 11) (v 12) (v 13) (v 14) (xs 1) (xs 2) (xs 3)) m_yX12_doubt b_607 (ci := 12) rfl rfl rfl hP hD hS hA [0, 1] [2, 3] rfl (by decide) rfl (by decide) (by decide) rfl hl.1 rfl (Nat.le_of_ble_eq_true rfl) dL_law_2110 ⟨(Nat.le_of_ble_eq_true rfl), (Nat.le_of_ble_eq_true rfl)⟩ ⟨(Nat.le_of_ble_eq_true rfl), (Nat.le_of_ble_eq_true rfl)⟩ (fun u2 H locs _ hP hD hS => ?_)
  have hP : va_P g.1 vwCl [(qx, .inr (11, [.ref (u 0), .ref (u 17), .ref (u 31), .ref (u 32), .ref (u 33), .ref (u 34), .ref (u 35), .ref (u 36), .ref (u 37), .ref (u 38), .ref (u 39)])), (u 17, .inr (0, [.int 0, .int 0, .int 0, .int 0, .int 0, .int 0, .int 0, .int 0, .int 0, .int 0, .ref (u 18), .ref (u 19), .ref (u 20), .ref (u 21), .ref (u 22), .ref (u 23), .ref (u 24), .ref (u 25), .ref (u 26), .ref (u 27)])), (qm, .inr (12, [.int 0, .ref (v 0), .ref (v 1), .ref (v 2), .ref (v 3), .int 0, .ref (v 4), .int 0, .int 0, .int 0, .int 0, .int 0, .int 0, .int (-1), .ref (v 5), .ref (v 6), .int 0, .int 0, .int 0, .ref (v 7), .ref (v 8), .int 0, .int 0, .ref (v 9), .ref (v 10), .ref (v 11), .ref (v 12), .ref (v 13), .ref (v 14)])), (v 0, .inl (g.2 0, 225, .inl (fun _ => 0)))] H := hP
  have hD : va_D (lA s) [(qx, .inr (11, [.ref (u 0), .ref (u 17), .ref (u 31), .ref (u 32), .ref (u 33), .ref (u 34), .ref (u 35), .ref (u 36), .ref (u 37), .ref (u 38), .ref (u 39)])), (u 17, .inr (0, [.int 0, .int 0, .int 0, .int 0, .int 0, .int 0, .int 0, .int 0, .int 0, .int 0, .ref (u 18), .ref (u 19), .ref (u 20), .ref (u 21), .ref (u 22), .ref (u 23), .ref (u 24), .ref (u 25), .ref (u 26), .ref (u 27)])), (qm, .inr (12, [.int 0, .ref (v 0), .ref (v 1), .ref (v 2), .ref (v 3), .int 0, .ref (v 4), .int 0, .int 0, .int 0, .int 0, .int 0, .int 0, .int (-1), .ref (v 5), .ref (v 6), .int 0, .int 0, .int 0, .ref (v 7), .ref (v 8), .int 0, .int 0, .ref (v 9), .ref (v 10), .ref (v 11), .ref (v 12), .ref (v 13), .ref (v 14)])), (v 0, .inl (g.2 0, 225, .inl (fun _ => 0)))] := hD
  refine W.eq (g2 := F0 m 2113 ls [.int (-2), .int (-2)]) rfl ?_
  refine lv_icmp_eq (tgt := 2465) hx hb dL_law_2113 (by decide) (fun _ => ?_) (fun h => absurd rfl h)
  exact law_end C0 hS (lv_sub hl [0, 1, 2, 3] rfl) (Nat.le_of_ble_eq_true rfl) (Nat.le_of_ble_eq_true rfl)
set_option maxRecDepth 100000 in
set_option maxHeartbeats 4000000 in
/-- undo -/
theorem law_62 {p : Program} {e : Env} {s : State} {m : MethodId} {below : List Frame} {meth : Method} {c : Code} {l : Launch} {g : GG} {b : Nat} {xs : Nat → Int32} (C0 : lw_At p s m meth c b 6 xs) (hKn : Kn g s) {H : Heap} {locs : List Loc} {ls : Array Slot} {qx qm : Nat} {u v : Nat → Nat} (hP : va_P g.1 vwCl (WX g qx u ++ WM g qm v) H) (hD : va_D (lA s) (WX g qx u ++ WM g qm v)) (hS : va_S (lA s) s.heap H locs) (hl : lv_has ls 4 [(3, .int 0), (2, .ref qm), (1, .ref qx), (0, .ref b)]) : W p l e room_1 s m #[Value.ref b] below meth c H locs 122 12079 (lw_Z below #[Value.ref b] s) (F0 m 2118 ls []) := by
  obtain ⟨hx, hb, hr, hml, hown, hts, hX, hbl, hlocks, hgv⟩ := id C0
  have hA : ∀ q : Nat, s.heap.size ≤ q → lA s q := fun _ h => h
  have hbA : ¬ lA s b := Nat.not_le.mpr hbl
  have hB : ∀ w ∈ BIG, w.before #[Value.ref b] s = true := fun w h => hts w (big_in w h)
  have FC : CallFix p m c cL_law 4 s #[Value.ref b] BIG RL := ⟨hx, hb, hml, hown, hB⟩
  have hP : va_P g.1 vwCl [(qx, .inr (11, [.ref (u 0), .ref (u 17), .ref (u 31), .ref (u 32), .ref (u 33), .ref (u 34), .ref (u 35), .ref (u 36), .ref (u 37), .ref (u 38), .ref (u 39)])), (u 17, .inr (0, [.int 0, .int 0, .int 0, .int 0, .int 0, .int 0, .int 0, .int 0, .int 0, .int 0, .ref (u 18), .ref (u 19), .ref (u 20), .ref (u 21), .ref (u 22), .ref (u 23), .ref (u 24), .ref (u 25), .ref (u 26), .ref (u 27)])), (qm, .inr (12, [.int 0, .ref (v 0), .ref (v 1), .ref (v 2), .ref (v 3), .int 0, .ref (v 4), .int 0, .int 0, .int 0, .int 0, .int 0, .int 0, .int (-1), .ref (v 5), .ref (v 6), .int 0, .int 0, .int 0, .ref (v 7), .ref (v 8), .int 0, .int 0, .ref (v 9), .ref (v 10), .ref (v 11), .ref (v 12), .ref (v 13), .ref (v 14)])), (v 0, .inl (g.2 0, 225, .inl (fun _ => 0)))] H := hP.sub [0, 18, 85, 86] rfl
  have hD : va_D (lA s) [(qx, .inr (11, [.ref (u 0), .ref (u 17), .ref (u 31), .ref (u 32), .ref (u 33), .ref (u 34), .ref (u 35), .ref (u 36), .ref (u 37), .ref (u 38), .ref (u 39)])), (u 17, .inr (0, [.int 0, .int 0, .int 0, .int 0, .int 0, .int 0, .int 0, .int 0, .int 0, .int 0, .ref (u 18), .ref (u 19), .ref (u 20), .ref (u 21), .ref (u 22), .ref (u 23), .ref (u 24), .ref (u 25), .ref (u 26), .ref (u 27)])), (qm, .inr (12, [.int 0, .ref (v 0), .ref (v 1), .ref (v 2), .ref (v 3), .int 0, .ref (v 4), .int 0, .int 0, .int 0, .int 0, .int 0, .int 0, .int (-1), .ref (v 5), .ref (v 6), .int 0, .int 0, .int 0, .ref (v 7), .ref (v 8), .int 0, .int 0, .ref (v 9), .ref (v 10), .ref (v 11), .ref (v 12), .ref (v 13), .ref (v 14)])), (v 0, .inl (g.2 0, 225, .inl (fun _ => 0)))] := hD.sub [0, 18, 85, 86] (by decide) rfl
  refine lv_aload_n hx hb dL_law_2118 rfl (lv_at hl 2 rfl) ?_
  refine call_V (As := []) (rest := []) (wr := [(qm, .inr (12, [.int 0, .ref (v 0), .ref (v 1), .ref (v 2), .ref (v 3), .int 0, .ref (v 4), .int 0, .int 0, .int 0, .int 0, .int 0, .int 0, .int (-1), .ref (v 5), .ref (v 6), .int 0, .int 0, .int 0, .ref (v 7), .ref (v 8), .int 0, .int 0, .ref (v 9), .ref (v 10), .ref (v 11), .ref (v 12), .ref (v 13), .ref (v 14)])), (v 0, .inl (g.2 0, 225, .inl (fun _ => 0)))]) FC hKn (c_X11_undo l g qx (u 17) (u 0) (u 31) (u 32) (u 33) (u 34) (u 35) (u 36) (u 37) (u 38) (u 39) (u 18) (u 19) (u 20) (u 21) (u 22) (u 23) (u 24) (u 25) (u 26) (u 27)) m_yX11_undo b_608 (ci := 11) rfl rfl rfl hP hD hS hA [0, 1] [2, 3] rfl (by decide) rfl (by decide) (by decide) rfl hl.1 rfl (Nat.le_of_ble_eq_true rfl) dL_law_2119 ⟨(Nat.le_of_ble_eq_true rfl), (Nat.le_of_ble_eq_true rfl)⟩ ⟨(Nat.le_of_ble_eq_true rfl), (Nat.le_of_ble_eq_true rfl)⟩ (fun u1 H locs _ hP hD hS => ?_)
  have hP : va_P g.1 vwCl [(qm, .inr (12, [.int 0, .ref (v 0), .ref (v 1), .ref (v 2), .ref (v 3), .int 0, .ref (v 4), .int 0, .int 0, .int 0, .int 0, .int 0, .int 0, .int (-1), .ref (v 5), .ref (v 6), .int 0, .int 0, .int 0, .ref (v 7), .ref (v 8), .int 0, .int 0, .ref (v 9), .ref (v 10), .ref (v 11), .ref (v 12), .ref (v 13), .ref (v 14)])), (v 0, .inl (g.2 0, 225, .inl (fun _ => 0))), (qx, .inr (11, [.ref (u 0), .ref (u 17), .ref (u 31), .ref (u 32), .ref (u 33), .ref (u 34), .ref (u 35), .ref (u 36), .ref (u 37), .ref (u 38), .ref (u 39)])), (u 17, .inr (0, [.int 0, .int 0, .int 0, .int 0, .int 0, .int 0, .int 0, .int 0, .int 0, .int 0, .ref (u 18), .ref (u 19), .ref (u 20), .ref (u 21), .ref (u 22), .ref (u 23), .ref (u 24), .ref (u 25), .ref (u 26), .ref (u 27)]))] H := hP
  have hD : va_D (lA s) [(qm, .inr (12, [.int 0, .ref (v 0), .ref (v 1), .ref (v 2), .ref (v 3), .int 0, .ref (v 4), .int 0, .int 0, .int 0, .int 0, .int 0, .int 0, .int (-1), .ref (v 5), .ref (v 6), .int 0, .int 0, .int 0, .ref (v 7), .ref (v 8), .int 0, .int 0, .ref (v 9), .ref (v 10), .ref (v 11), .ref (v 12), .ref (v 13), .ref (v 14)])), (v 0, .inl (g.2 0, 225, .inl (fun _ => 0))), (qx, .inr (11, [.ref (u 0), .ref (u 17), .ref (u 31), .ref (u 32), .ref (u 33), .ref (u 34), .ref (u 35), .ref (u 36), .ref (u 37), .ref (u 38), .ref (u 39)])), (u 17, .inr (0, [.int 0, .int 0, .int 0, .int 0, .int 0, .int 0, .int 0, .int 0, .int 0, .int 0, .ref (u 18), .ref (u 19), .ref (u 20), .ref (u 21), .ref (u 22), .ref (u 23), .ref (u 24), .ref (u 25), .ref (u 26), .ref (u 27)]))] := hD
  refine W.eq (g2 := F0 m 2122 ls [.int (-2)]) rfl ?_
  refine lv_aload_n hx hb dL_law_2122 rfl (lv_at hl 1 rfl) ?_
  refine call_V (As := []) (rest := [.int (-2)]) (wr := [(qx, .inr (11, [.ref (u 0), .ref (u 17), .ref (u 31), .ref (u 32), .ref (u 33), .ref (u 34), .ref (u 35), .ref (u 36), .ref (u 37), .ref (u 38), .ref (u 39)])), (u 17, .inr (0, [.int 0, .int 0, .int 0, .int 0, .int 0, .int 0, .int 0, .int 0, .int 0, .int 0, .ref (u 18), .ref (u 19), .ref (u 20), .ref (u 21), .ref (u 22), .ref (u 23), .ref (u 24), .ref (u 25), .ref (u 26), .ref (u 27)]))]) FC hKn (c_X12_undo l g qm (v 0) (v 1) (v 2) (v 3) (v 4) (v 5) (v 6) (v 7) (v 8) (v 9) (v 10) (v 11) (v 12) (v 13) (v 14)) m_yX12_undo b_609 (ci := 12) rfl rfl rfl hP hD hS hA [0, 1] [2, 3] rfl (by decide) rfl (by decide) (by decide) rfl hl.1 rfl (Nat.le_of_ble_eq_true rfl) dL_law_2123 ⟨(Nat.le_of_ble_eq_true rfl), (Nat.le_of_ble_eq_true rfl)⟩ ⟨(Nat.le_of_ble_eq_true rfl), (Nat.le_of_ble_eq_true rfl)⟩ (fun u2 H locs _ hP hD hS => ?_)
  have hP : va_P g.1 vwCl [(qx, .inr (11, [.ref (u 0), .ref (u 17), .ref (u 31), .ref (u 32), .ref (u 33), .ref (u 34), .ref (u 35), .ref (u 36), .ref (u 37), .ref (u 38), .ref (u 39)])), (u 17, .inr (0, [.int 0, .int 0, .int 0, .int 0, .int 0, .int 0, .int 0, .int 0, .int 0, .int 0, .ref (u 18), .ref (u 19), .ref (u 20), .ref (u 21), .ref (u 22), .ref (u 23), .ref (u 24), .ref (u 25), .ref (u 26), .ref (u 27)])), (qm, .inr (12, [.int 0, .ref (v 0), .ref (v 1), .ref (v 2), .ref (v 3), .int 0, .ref (v 4), .int 0, .int 0, .int 0, .int 0, .int 0, .int 0, .int (-1), .ref (v 5), .ref (v 6), .int 0, .int 0, .int 0, .ref (v 7), .ref (v 8), .int 0, .int 0, .ref (v 9), .ref (v 10), .ref (v 11), .ref (v 12), .ref (v 13), .ref (v 14)])), (v 0, .inl (g.2 0, 225, .inl (fun _ => 0)))] H := hP
  have hD : va_D (lA s) [(qx, .inr (11, [.ref (u 0), .ref (u 17), .ref (u 31), .ref (u 32), .ref (u 33), .ref (u 34), .ref (u 35), .ref (u 36), .ref (u 37), .ref (u 38), .ref (u 39)])), (u 17, .inr (0, [.int 0, .int 0, .int 0, .int 0, .int 0, .int 0, .int 0, .int 0, .int 0, .int 0, .ref (u 18), .ref (u 19), .ref (u 20), .ref (u 21), .ref (u 22), .ref (u 23), .ref (u 24), .ref (u 25), .ref (u 26), .ref (u 27)])), (qm, .inr (12, [.int 0, .ref (v 0), .ref (v 1), .ref (v 2), .ref (v 3), .int 0, .ref (v 4), .int 0, .int 0, .int 0, .int 0, .int 0, .int 0, .int (-1), .ref (v 5), .ref (v 6), .int 0, .int 0, .int 0, .ref (v 7), .ref (v 8), .int 0, .int 0, .ref (v 9), .ref (v 10), .ref (v 11), .ref (v 12), .ref (v 13), .ref (v 14)])), (v 0, .inl (g.2 0, 225, .inl (fun _ => 0)))] := hD
  refine W.eq (g2 := F0 m 2126 ls [.int (-2), .int (-2)]) rfl ?_
  refine lv_icmp_eq (tgt := 2465) hx hb dL_law_2126 (by decide) (fun _ => ?_) (fun h => absurd rfl h)
  exact law_end C0 hS (lv_sub hl [0, 1, 2, 3] rfl) (Nat.le_of_ble_eq_true rfl) (Nat.le_of_ble_eq_true rfl)
set_option maxRecDepth 100000 in
set_option maxHeartbeats 4000000 in
/-- drawn -/
theorem law_63 {p : Program} {e : Env} {s : State} {m : MethodId} {below : List Frame} {meth : Method} {c : Code} {l : Launch} {g : GG} {b : Nat} {xs : Nat → Int32} (C0 : lw_At p s m meth c b 6 xs) (hKn : Kn g s) {H : Heap} {locs : List Loc} {ls : Array Slot} {qx qm : Nat} {u v : Nat → Nat} (hP : va_P g.1 vwCl (WX g qx u ++ WM g qm v) H) (hD : va_D (lA s) (WX g qx u ++ WM g qm v)) (hS : va_S (lA s) s.heap H locs) (hl : lv_has ls 4 [(3, .int 0), (2, .ref qm), (1, .ref qx), (0, .ref b)]) : W p l e room_1 s m #[Value.ref b] below meth c H locs 122 12079 (lw_Z below #[Value.ref b] s) (F0 m 2131 ls []) := by
  obtain ⟨hx, hb, hr, hml, hown, hts, hX, hbl, hlocks, hgv⟩ := id C0
  have hA : ∀ q : Nat, s.heap.size ≤ q → lA s q := fun _ h => h
  have hbA : ¬ lA s b := Nat.not_le.mpr hbl
  have hB : ∀ w ∈ BIG, w.before #[Value.ref b] s = true := fun w h => hts w (big_in w h)
  have FC : CallFix p m c cL_law 4 s #[Value.ref b] BIG RL := ⟨hx, hb, hml, hown, hB⟩
  have hP : va_P g.1 vwCl [(qx, .inr (11, [.ref (u 0), .ref (u 17), .ref (u 31), .ref (u 32), .ref (u 33), .ref (u 34), .ref (u 35), .ref (u 36), .ref (u 37), .ref (u 38), .ref (u 39)])), (u 17, .inr (0, [.int 0, .int 0, .int 0, .int 0, .int 0, .int 0, .int 0, .int 0, .int 0, .int 0, .ref (u 18), .ref (u 19), .ref (u 20), .ref (u 21), .ref (u 22), .ref (u 23), .ref (u 24), .ref (u 25), .ref (u 26), .ref (u 27)])), (qm, .inr (12, [.int 0, .ref (v 0), .ref (v 1), .ref (v 2), .ref (v 3), .int 0, .ref (v 4), .int 0, .int 0, .int 0, .int 0, .int 0, .int 0, .int (-1), .ref (v 5), .ref (v 6), .int 0, .int 0, .int 0, .ref (v 7), .ref (v 8), .int 0, .int 0, .ref (v 9), .ref (v 10), .ref (v 11), .ref (v 12), .ref (v 13), .ref (v 14)])), (v 0, .inl (g.2 0, 225, .inl (fun _ => 0)))] H := hP.sub [0, 18, 85, 86] rfl
  have hD : va_D (lA s) [(qx, .inr (11, [.ref (u 0), .ref (u 17), .ref (u 31), .ref (u 32), .ref (u 33), .ref (u 34), .ref (u 35), .ref (u 36), .ref (u 37), .ref (u 38), .ref (u 39)])), (u 17, .inr (0, [.int 0, .int 0, .int 0, .int 0, .int 0, .int 0, .int 0, .int 0, .int 0, .int 0, .ref (u 18), .ref (u 19), .ref (u 20), .ref (u 21), .ref (u 22), .ref (u 23), .ref (u 24), .ref (u 25), .ref (u 26), .ref (u 27)])), (qm, .inr (12, [.int 0, .ref (v 0), .ref (v 1), .ref (v 2), .ref (v 3), .int 0, .ref (v 4), .int 0, .int 0, .int 0, .int 0, .int 0, .int 0, .int (-1), .ref (v 5), .ref (v 6), .int 0, .int 0, .int 0, .ref (v 7), .ref (v 8), .int 0, .int 0, .ref (v 9), .ref (v 10), .ref (v 11), .ref (v 12), .ref (v 13), .ref (v 14)])), (v 0, .inl (g.2 0, 225, .inl (fun _ => 0)))] := hD.sub [0, 18, 85, 86] (by decide) rfl
  refine lv_aload_n hx hb dL_law_2131 rfl (lv_at hl 2 rfl) ?_
  refine lv_aload_n hx hb dL_law_2132 rfl (lv_at hl 3 rfl) ?_
  refine lv_iload_n hx hb dL_law_2133 rfl (lv_at hl 0 rfl) ?_
  refine lv_iconst (v := 1) hx hb dL_law_2134 (by decide) ?_
  refine lv_iadd hx hb dL_law_2135 ?_
  refine tp_i (v := 1) (by decide) ?_
  refine va_sld hx hb hX hbl hbA hS (by unfold vp_in; decide) dL_law_2136 ?_
  refine tp_i (v := xs 1) rfl ?_
  refine lv_aload_n hx hb dL_law_2137 rfl (lv_at hl 3 rfl) ?_
  refine lv_iload_n hx hb dL_law_2138 rfl (lv_at hl 0 rfl) ?_
  refine lv_iconst (v := 2) hx hb dL_law_2139 (by decide) ?_
  refine lv_iadd hx hb dL_law_2140 ?_
  refine tp_i (v := 2) (by decide) ?_
  refine va_sld hx hb hX hbl hbA hS (by unfold vp_in; decide) dL_law_2141 ?_
  refine tp_i (v := xs 2) rfl ?_
  refine lv_aload_n hx hb dL_law_2142 rfl (lv_at hl 3 rfl) ?_
  refine lv_iload_n hx hb dL_law_2143 rfl (lv_at hl 0 rfl) ?_
  refine lv_iconst (v := 3) hx hb dL_law_2144 (by decide) ?_
  refine lv_iadd hx hb dL_law_2145 ?_
  refine tp_i (v := 3) (by decide) ?_
  refine va_sld hx hb hX hbl hbA hS (by unfold vp_in; decide) dL_law_2146 ?_
  refine tp_i (v := xs 3) rfl ?_
  refine lv_aload_n hx hb dL_law_2147 rfl (lv_at hl 3 rfl) ?_
  refine lv_iload_n hx hb dL_law_2148 rfl (lv_at hl 0 rfl) ?_
  refine lv_iconst (v := 4) hx hb dL_law_2149 (by decide) ?_
  refine lv_iadd hx hb dL_law_2150 ?_
  refine tp_i (v := 4) (by decide) ?_
  refine va_sld hx hb hX hbl hbA hS (by unfold vp_in; decide) dL_law_2151 ?_
  refine tp_i (v := xs 4) rfl ?_
  refine call_V (As := [.int (xs 1), .int (xs 2), .int (xs 3), .int (xs 4)]) (rest := []) (wr := [(qm, .inr (12, [.int 0, .ref (v 0), .ref (v 1), .ref (v 2), .ref (v 3), .int 0, .ref (v 4), .int 0, .int 0, .int 0, .int 0, .int 0, .int 0, .int (-1), .ref (v 5), .ref (v 6), .int 0, .int 0, .int 0, .ref (v 7), .ref (v 8), .int 0, .int 0, .ref (v 9), .ref (v 10), .ref (v 11), .ref (v 12), .ref (v 13), .ref (v 14)])), (v 0, .inl (g.2 0, 225, .inl (fun _ => 0)))]) FC hKn (c_X11_drawn l g qx (u 17) (u 0) (u 31) (u 32) (u 33) (u 34) (u 35) (u 36) (u 37) (u 38) (u 39) (u 18) (u 19) (u 20) (u 21) (u 22) (u 23) (u 24) (u 25) (u 26) (u 27) (xs 1) (xs 2) (xs 3) (xs 4)) m_yX11_drawn b_610 (ci := 11) rfl rfl rfl hP hD hS hA [0, 1] [2, 3] rfl (by decide) rfl (by decide) (by decide) rfl hl.1 rfl (Nat.le_of_ble_eq_true rfl) dL_law_2152 ⟨(Nat.le_of_ble_eq_true rfl), (Nat.le_of_ble_eq_true rfl)⟩ ⟨(Nat.le_of_ble_eq_true rfl), (Nat.le_of_ble_eq_true rfl)⟩ (fun u1 H locs _ hP hD hS => ?_)
  have hP : va_P g.1 vwCl [(qm, .inr (12, [.int 0, .ref (v 0), .ref (v 1), .ref (v 2), .ref (v 3), .int 0, .ref (v 4), .int 0, .int 0, .int 0, .int 0, .int 0, .int 0, .int (-1), .ref (v 5), .ref (v 6), .int 0, .int 0, .int 0, .ref (v 7), .ref (v 8), .int 0, .int 0, .ref (v 9), .ref (v 10), .ref (v 11), .ref (v 12), .ref (v 13), .ref (v 14)])), (v 0, .inl (g.2 0, 225, .inl (fun _ => 0))), (qx, .inr (11, [.ref (u 0), .ref (u 17), .ref (u 31), .ref (u 32), .ref (u 33), .ref (u 34), .ref (u 35), .ref (u 36), .ref (u 37), .ref (u 38), .ref (u 39)])), (u 17, .inr (0, [.int 0, .int 0, .int 0, .int 0, .int 0, .int 0, .int 0, .int 0, .int 0, .int 0, .ref (u 18), .ref (u 19), .ref (u 20), .ref (u 21), .ref (u 22), .ref (u 23), .ref (u 24), .ref (u 25), .ref (u 26), .ref (u 27)]))] H := hP
  have hD : va_D (lA s) [(qm, .inr (12, [.int 0, .ref (v 0), .ref (v 1), .ref (v 2), .ref (v 3), .int 0, .ref (v 4), .int 0, .int 0, .int 0, .int 0, .int 0, .int 0, .int (-1), .ref (v 5), .ref (v 6), .int 0, .int 0, .int 0, .ref (v 7), .ref (v 8), .int 0, .int 0, .ref (v 9), .ref (v 10), .ref (v 11), .ref (v 12), .ref (v 13), .ref (v 14)])), (v 0, .inl (g.2 0, 225, .inl (fun _ => 0))), (qx, .inr (11, [.ref (u 0), .ref (u 17), .ref (u 31), .ref (u 32), .ref (u 33), .ref (u 34), .ref (u 35), .ref (u 36), .ref (u 37), .ref (u 38), .ref (u 39)])), (u 17, .inr (0, [.int 0, .int 0, .int 0, .int 0, .int 0, .int 0, .int 0, .int 0, .int 0, .int 0, .ref (u 18), .ref (u 19), .ref (u 20), .ref (u 21), .ref (u 22), .ref (u 23), .ref (u 24), .ref (u 25), .ref (u 26), .ref (u 27)]))] := hD
  refine W.eq (g2 := F0 m 2155 ls [.int (-2)]) rfl ?_
  refine lv_aload_n hx hb dL_law_2155 rfl (lv_at hl 1 rfl) ?_
  refine lv_aload_n hx hb dL_law_2156 rfl (lv_at hl 3 rfl) ?_
  refine lv_iload_n hx hb dL_law_2157 rfl (lv_at hl 0 rfl) ?_
  refine lv_iconst (v := 1) hx hb dL_law_2158 (by decide) ?_
  refine lv_iadd hx hb dL_law_2159 ?_
  refine tp_i (v := 1) (by decide) ?_
  refine va_sld hx hb hX hbl hbA hS (by unfold vp_in; decide) dL_law_2160 ?_
  refine tp_i (v := xs 1) rfl ?_
  refine lv_aload_n hx hb dL_law_2161 rfl (lv_at hl 3 rfl) ?_
  refine lv_iload_n hx hb dL_law_2162 rfl (lv_at hl 0 rfl) ?_
  refine lv_iconst (v := 2) hx hb dL_law_2163 (by decide) ?_
  refine lv_iadd hx hb dL_law_2164 ?_
  refine tp_i (v := 2) (by decide) ?_
  refine va_sld hx hb hX hbl hbA hS (by unfold vp_in; decide) dL_law_2165 ?_
  refine tp_i (v := xs 2) rfl ?_
  refine lv_aload_n hx hb dL_law_2166 rfl (lv_at hl 3 rfl) ?_
  refine lv_iload_n hx hb dL_law_2167 rfl (lv_at hl 0 rfl) ?_
  refine lv_iconst (v := 3) hx hb dL_law_2168 (by decide) ?_
  refine lv_iadd hx hb dL_law_2169 ?_
  refine tp_i (v := 3) (by decide) ?_
  refine va_sld hx hb hX hbl hbA hS (by unfold vp_in; decide) dL_law_2170 ?_
  refine tp_i (v := xs 3) rfl ?_
  refine lv_aload_n hx hb dL_law_2171 rfl (lv_at hl 3 rfl) ?_
  refine lv_iload_n hx hb dL_law_2172 rfl (lv_at hl 0 rfl) ?_
  refine lv_iconst (v := 4) hx hb dL_law_2173 (by decide) ?_
  refine lv_iadd hx hb dL_law_2174 ?_
  refine tp_i (v := 4) (by decide) ?_
  refine va_sld hx hb hX hbl hbA hS (by unfold vp_in; decide) dL_law_2175 ?_
  refine tp_i (v := xs 4) rfl ?_
  refine call_V (As := [.int (xs 1), .int (xs 2), .int (xs 3), .int (xs 4)]) (rest := [.int (-2)]) (wr := [(qx, .inr (11, [.ref (u 0), .ref (u 17), .ref (u 31), .ref (u 32), .ref (u 33), .ref (u 34), .ref (u 35), .ref (u 36), .ref (u 37), .ref (u 38), .ref (u 39)])), (u 17, .inr (0, [.int 0, .int 0, .int 0, .int 0, .int 0, .int 0, .int 0, .int 0, .int 0, .int 0, .ref (u 18), .ref (u 19), .ref (u 20), .ref (u 21), .ref (u 22), .ref (u 23), .ref (u 24), .ref (u 25), .ref (u 26), .ref (u 27)]))]) FC hKn (c_X12_drawn l g qm (v 0) (v 1) (v 2) (v 3) (v 4) (v 5) (v 6) (v 7) (v 8) (v 9) (v 10) (v 11) (v 12) (v 13) (v 14) (xs 1) (xs 2) (xs 3) (xs 4)) m_yX12_drawn b_611 (ci := 12) rfl rfl rfl hP hD hS hA [0, 1] [2, 3] rfl (by decide) rfl (by decide) (by decide) rfl hl.1 rfl (Nat.le_of_ble_eq_true rfl) dL_law_2176 ⟨(Nat.le_of_ble_eq_true rfl), (Nat.le_of_ble_eq_true rfl)⟩ ⟨(Nat.le_of_ble_eq_true rfl), (Nat.le_of_ble_eq_true rfl)⟩ (fun u2 H locs _ hP hD hS => ?_)
  have hP : va_P g.1 vwCl [(qx, .inr (11, [.ref (u 0), .ref (u 17), .ref (u 31), .ref (u 32), .ref (u 33), .ref (u 34), .ref (u 35), .ref (u 36), .ref (u 37), .ref (u 38), .ref (u 39)])), (u 17, .inr (0, [.int 0, .int 0, .int 0, .int 0, .int 0, .int 0, .int 0, .int 0, .int 0, .int 0, .ref (u 18), .ref (u 19), .ref (u 20), .ref (u 21), .ref (u 22), .ref (u 23), .ref (u 24), .ref (u 25), .ref (u 26), .ref (u 27)])), (qm, .inr (12, [.int 0, .ref (v 0), .ref (v 1), .ref (v 2), .ref (v 3), .int 0, .ref (v 4), .int 0, .int 0, .int 0, .int 0, .int 0, .int 0, .int (-1), .ref (v 5), .ref (v 6), .int 0, .int 0, .int 0, .ref (v 7), .ref (v 8), .int 0, .int 0, .ref (v 9), .ref (v 10), .ref (v 11), .ref (v 12), .ref (v 13), .ref (v 14)])), (v 0, .inl (g.2 0, 225, .inl (fun _ => 0)))] H := hP
  have hD : va_D (lA s) [(qx, .inr (11, [.ref (u 0), .ref (u 17), .ref (u 31), .ref (u 32), .ref (u 33), .ref (u 34), .ref (u 35), .ref (u 36), .ref (u 37), .ref (u 38), .ref (u 39)])), (u 17, .inr (0, [.int 0, .int 0, .int 0, .int 0, .int 0, .int 0, .int 0, .int 0, .int 0, .int 0, .ref (u 18), .ref (u 19), .ref (u 20), .ref (u 21), .ref (u 22), .ref (u 23), .ref (u 24), .ref (u 25), .ref (u 26), .ref (u 27)])), (qm, .inr (12, [.int 0, .ref (v 0), .ref (v 1), .ref (v 2), .ref (v 3), .int 0, .ref (v 4), .int 0, .int 0, .int 0, .int 0, .int 0, .int 0, .int (-1), .ref (v 5), .ref (v 6), .int 0, .int 0, .int 0, .ref (v 7), .ref (v 8), .int 0, .int 0, .ref (v 9), .ref (v 10), .ref (v 11), .ref (v 12), .ref (v 13), .ref (v 14)])), (v 0, .inl (g.2 0, 225, .inl (fun _ => 0)))] := hD
  refine W.eq (g2 := F0 m 2179 ls [.int (-2), .int (-2)]) rfl ?_
  refine lv_icmp_eq (tgt := 2465) hx hb dL_law_2179 (by decide) (fun _ => ?_) (fun h => absurd rfl h)
  exact law_end C0 hS (lv_sub hl [0, 1, 2, 3] rfl) (Nat.le_of_ble_eq_true rfl) (Nat.le_of_ble_eq_true rfl)
set_option maxRecDepth 100000 in
set_option maxHeartbeats 4000000 in
/-- leaks -/
theorem law_64 {p : Program} {e : Env} {s : State} {m : MethodId} {below : List Frame} {meth : Method} {c : Code} {l : Launch} {g : GG} {b : Nat} {xs : Nat → Int32} (C0 : lw_At p s m meth c b 6 xs) (hKn : Kn g s) {H : Heap} {locs : List Loc} {ls : Array Slot} {qx qm : Nat} {u v : Nat → Nat} (hP : va_P g.1 vwCl (WX g qx u ++ WM g qm v) H) (hD : va_D (lA s) (WX g qx u ++ WM g qm v)) (hS : va_S (lA s) s.heap H locs) (hl : lv_has ls 4 [(3, .int 0), (2, .ref qm), (1, .ref qx), (0, .ref b)]) : W p l e room_1 s m #[Value.ref b] below meth c H locs 122 12079 (lw_Z below #[Value.ref b] s) (F0 m 2184 ls []) := by
  obtain ⟨hx, hb, hr, hml, hown, hts, hX, hbl, hlocks, hgv⟩ := id C0
  have hA : ∀ q : Nat, s.heap.size ≤ q → lA s q := fun _ h => h
  have hbA : ¬ lA s b := Nat.not_le.mpr hbl
  have hB : ∀ w ∈ BIG, w.before #[Value.ref b] s = true := fun w h => hts w (big_in w h)
  have FC : CallFix p m c cL_law 4 s #[Value.ref b] BIG RL := ⟨hx, hb, hml, hown, hB⟩
  have hP : va_P g.1 vwCl [(qx, .inr (11, [.ref (u 0), .ref (u 17), .ref (u 31), .ref (u 32), .ref (u 33), .ref (u 34), .ref (u 35), .ref (u 36), .ref (u 37), .ref (u 38), .ref (u 39)])), (u 17, .inr (0, [.int 0, .int 0, .int 0, .int 0, .int 0, .int 0, .int 0, .int 0, .int 0, .int 0, .ref (u 18), .ref (u 19), .ref (u 20), .ref (u 21), .ref (u 22), .ref (u 23), .ref (u 24), .ref (u 25), .ref (u 26), .ref (u 27)])), (qm, .inr (12, [.int 0, .ref (v 0), .ref (v 1), .ref (v 2), .ref (v 3), .int 0, .ref (v 4), .int 0, .int 0, .int 0, .int 0, .int 0, .int 0, .int (-1), .ref (v 5), .ref (v 6), .int 0, .int 0, .int 0, .ref (v 7), .ref (v 8), .int 0, .int 0, .ref (v 9), .ref (v 10), .ref (v 11), .ref (v 12), .ref (v 13), .ref (v 14)])), (v 0, .inl (g.2 0, 225, .inl (fun _ => 0)))] H := hP.sub [0, 18, 85, 86] rfl
  have hD : va_D (lA s) [(qx, .inr (11, [.ref (u 0), .ref (u 17), .ref (u 31), .ref (u 32), .ref (u 33), .ref (u 34), .ref (u 35), .ref (u 36), .ref (u 37), .ref (u 38), .ref (u 39)])), (u 17, .inr (0, [.int 0, .int 0, .int 0, .int 0, .int 0, .int 0, .int 0, .int 0, .int 0, .int 0, .ref (u 18), .ref (u 19), .ref (u 20), .ref (u 21), .ref (u 22), .ref (u 23), .ref (u 24), .ref (u 25), .ref (u 26), .ref (u 27)])), (qm, .inr (12, [.int 0, .ref (v 0), .ref (v 1), .ref (v 2), .ref (v 3), .int 0, .ref (v 4), .int 0, .int 0, .int 0, .int 0, .int 0, .int 0, .int (-1), .ref (v 5), .ref (v 6), .int 0, .int 0, .int 0, .ref (v 7), .ref (v 8), .int 0, .int 0, .ref (v 9), .ref (v 10), .ref (v 11), .ref (v 12), .ref (v 13), .ref (v 14)])), (v 0, .inl (g.2 0, 225, .inl (fun _ => 0)))] := hD.sub [0, 18, 85, 86] (by decide) rfl
  refine lv_aload_n hx hb dL_law_2184 rfl (lv_at hl 2 rfl) ?_
  refine lv_aload_n hx hb dL_law_2185 rfl (lv_at hl 3 rfl) ?_
  refine lv_iload_n hx hb dL_law_2186 rfl (lv_at hl 0 rfl) ?_
  refine lv_iconst (v := 1) hx hb dL_law_2187 (by decide) ?_
  refine lv_iadd hx hb dL_law_2188 ?_
  refine tp_i (v := 1) (by decide) ?_
  refine va_sld hx hb hX hbl hbA hS (by unfold vp_in; decide) dL_law_2189 ?_
  refine tp_i (v := xs 1) rfl ?_
  refine lv_aload_n hx hb dL_law_2190 rfl (lv_at hl 3 rfl) ?_
  refine lv_iload_n hx hb dL_law_2191 rfl (lv_at hl 0 rfl) ?_
  refine lv_iconst (v := 2) hx hb dL_law_2192 (by decide) ?_
  refine lv_iadd hx hb dL_law_2193 ?_
  refine tp_i (v := 2) (by decide) ?_
  refine va_sld hx hb hX hbl hbA hS (by unfold vp_in; decide) dL_law_2194 ?_
  refine tp_i (v := xs 2) rfl ?_
  refine call_V (As := [.int (xs 1), .int (xs 2)]) (rest := []) (wr := [(qm, .inr (12, [.int 0, .ref (v 0), .ref (v 1), .ref (v 2), .ref (v 3), .int 0, .ref (v 4), .int 0, .int 0, .int 0, .int 0, .int 0, .int 0, .int (-1), .ref (v 5), .ref (v 6), .int 0, .int 0, .int 0, .ref (v 7), .ref (v 8), .int 0, .int 0, .ref (v 9), .ref (v 10), .ref (v 11), .ref (v 12), .ref (v 13), .ref (v 14)])), (v 0, .inl (g.2 0, 225, .inl (fun _ => 0)))]) FC hKn (c_X11_leaks l g qx (u 17) (u 0) (u 31) (u 32) (u 33) (u 34) (u 35) (u 36) (u 37) (u 38) (u 39) (u 18) (u 19) (u 20) (u 21) (u 22) (u 23) (u 24) (u 25) (u 26) (u 27) (xs 1) (xs 2)) m_yX11_leaks b_612 (ci := 11) rfl rfl rfl hP hD hS hA [0, 1] [2, 3] rfl (by decide) rfl (by decide) (by decide) rfl hl.1 rfl (Nat.le_of_ble_eq_true rfl) dL_law_2195 ⟨(Nat.le_of_ble_eq_true rfl), (Nat.le_of_ble_eq_true rfl)⟩ ⟨(Nat.le_of_ble_eq_true rfl), (Nat.le_of_ble_eq_true rfl)⟩ (fun u1 H locs _ hP hD hS => ?_)
  have hP : va_P g.1 vwCl [(qm, .inr (12, [.int 0, .ref (v 0), .ref (v 1), .ref (v 2), .ref (v 3), .int 0, .ref (v 4), .int 0, .int 0, .int 0, .int 0, .int 0, .int 0, .int (-1), .ref (v 5), .ref (v 6), .int 0, .int 0, .int 0, .ref (v 7), .ref (v 8), .int 0, .int 0, .ref (v 9), .ref (v 10), .ref (v 11), .ref (v 12), .ref (v 13), .ref (v 14)])), (v 0, .inl (g.2 0, 225, .inl (fun _ => 0))), (qx, .inr (11, [.ref (u 0), .ref (u 17), .ref (u 31), .ref (u 32), .ref (u 33), .ref (u 34), .ref (u 35), .ref (u 36), .ref (u 37), .ref (u 38), .ref (u 39)])), (u 17, .inr (0, [.int 0, .int 0, .int 0, .int 0, .int 0, .int 0, .int 0, .int 0, .int 0, .int 0, .ref (u 18), .ref (u 19), .ref (u 20), .ref (u 21), .ref (u 22), .ref (u 23), .ref (u 24), .ref (u 25), .ref (u 26), .ref (u 27)]))] H := hP
  have hD : va_D (lA s) [(qm, .inr (12, [.int 0, .ref (v 0), .ref (v 1), .ref (v 2), .ref (v 3), .int 0, .ref (v 4), .int 0, .int 0, .int 0, .int 0, .int 0, .int 0, .int (-1), .ref (v 5), .ref (v 6), .int 0, .int 0, .int 0, .ref (v 7), .ref (v 8), .int 0, .int 0, .ref (v 9), .ref (v 10), .ref (v 11), .ref (v 12), .ref (v 13), .ref (v 14)])), (v 0, .inl (g.2 0, 225, .inl (fun _ => 0))), (qx, .inr (11, [.ref (u 0), .ref (u 17), .ref (u 31), .ref (u 32), .ref (u 33), .ref (u 34), .ref (u 35), .ref (u 36), .ref (u 37), .ref (u 38), .ref (u 39)])), (u 17, .inr (0, [.int 0, .int 0, .int 0, .int 0, .int 0, .int 0, .int 0, .int 0, .int 0, .int 0, .ref (u 18), .ref (u 19), .ref (u 20), .ref (u 21), .ref (u 22), .ref (u 23), .ref (u 24), .ref (u 25), .ref (u 26), .ref (u 27)]))] := hD
  refine W.eq (g2 := F0 m 2198 ls [.int (-2)]) rfl ?_
  refine lv_aload_n hx hb dL_law_2198 rfl (lv_at hl 1 rfl) ?_
  refine lv_aload_n hx hb dL_law_2199 rfl (lv_at hl 3 rfl) ?_
  refine lv_iload_n hx hb dL_law_2200 rfl (lv_at hl 0 rfl) ?_
  refine lv_iconst (v := 1) hx hb dL_law_2201 (by decide) ?_
  refine lv_iadd hx hb dL_law_2202 ?_
  refine tp_i (v := 1) (by decide) ?_
  refine va_sld hx hb hX hbl hbA hS (by unfold vp_in; decide) dL_law_2203 ?_
  refine tp_i (v := xs 1) rfl ?_
  refine lv_aload_n hx hb dL_law_2204 rfl (lv_at hl 3 rfl) ?_
  refine lv_iload_n hx hb dL_law_2205 rfl (lv_at hl 0 rfl) ?_
  refine lv_iconst (v := 2) hx hb dL_law_2206 (by decide) ?_
  refine lv_iadd hx hb dL_law_2207 ?_
  refine tp_i (v := 2) (by decide) ?_
  refine va_sld hx hb hX hbl hbA hS (by unfold vp_in; decide) dL_law_2208 ?_
  refine tp_i (v := xs 2) rfl ?_
  refine call_V (As := [.int (xs 1), .int (xs 2)]) (rest := [.int (-2)]) (wr := [(qx, .inr (11, [.ref (u 0), .ref (u 17), .ref (u 31), .ref (u 32), .ref (u 33), .ref (u 34), .ref (u 35), .ref (u 36), .ref (u 37), .ref (u 38), .ref (u 39)])), (u 17, .inr (0, [.int 0, .int 0, .int 0, .int 0, .int 0, .int 0, .int 0, .int 0, .int 0, .int 0, .ref (u 18), .ref (u 19), .ref (u 20), .ref (u 21), .ref (u 22), .ref (u 23), .ref (u 24), .ref (u 25), .ref (u 26), .ref (u 27)]))]) FC hKn (c_X12_leaks l g qm (v 0) (v 1) (v 2) (v 3) (v 4) (v 5) (v 6) (v 7) (v 8) (v 9) (v 10) (v 11) (v 12) (v 13) (v 14) (xs 1) (xs 2)) m_yX12_leaks b_613 (ci := 12) rfl rfl rfl hP hD hS hA [0, 1] [2, 3] rfl (by decide) rfl (by decide) (by decide) rfl hl.1 rfl (Nat.le_of_ble_eq_true rfl) dL_law_2209 ⟨(Nat.le_of_ble_eq_true rfl), (Nat.le_of_ble_eq_true rfl)⟩ ⟨(Nat.le_of_ble_eq_true rfl), (Nat.le_of_ble_eq_true rfl)⟩ (fun u2 H locs _ hP hD hS => ?_)
  have hP : va_P g.1 vwCl [(qx, .inr (11, [.ref (u 0), .ref (u 17), .ref (u 31), .ref (u 32), .ref (u 33), .ref (u 34), .ref (u 35), .ref (u 36), .ref (u 37), .ref (u 38), .ref (u 39)])), (u 17, .inr (0, [.int 0, .int 0, .int 0, .int 0, .int 0, .int 0, .int 0, .int 0, .int 0, .int 0, .ref (u 18), .ref (u 19), .ref (u 20), .ref (u 21), .ref (u 22), .ref (u 23), .ref (u 24), .ref (u 25), .ref (u 26), .ref (u 27)])), (qm, .inr (12, [.int 0, .ref (v 0), .ref (v 1), .ref (v 2), .ref (v 3), .int 0, .ref (v 4), .int 0, .int 0, .int 0, .int 0, .int 0, .int 0, .int (-1), .ref (v 5), .ref (v 6), .int 0, .int 0, .int 0, .ref (v 7), .ref (v 8), .int 0, .int 0, .ref (v 9), .ref (v 10), .ref (v 11), .ref (v 12), .ref (v 13), .ref (v 14)])), (v 0, .inl (g.2 0, 225, .inl (fun _ => 0)))] H := hP
  have hD : va_D (lA s) [(qx, .inr (11, [.ref (u 0), .ref (u 17), .ref (u 31), .ref (u 32), .ref (u 33), .ref (u 34), .ref (u 35), .ref (u 36), .ref (u 37), .ref (u 38), .ref (u 39)])), (u 17, .inr (0, [.int 0, .int 0, .int 0, .int 0, .int 0, .int 0, .int 0, .int 0, .int 0, .int 0, .ref (u 18), .ref (u 19), .ref (u 20), .ref (u 21), .ref (u 22), .ref (u 23), .ref (u 24), .ref (u 25), .ref (u 26), .ref (u 27)])), (qm, .inr (12, [.int 0, .ref (v 0), .ref (v 1), .ref (v 2), .ref (v 3), .int 0, .ref (v 4), .int 0, .int 0, .int 0, .int 0, .int 0, .int 0, .int (-1), .ref (v 5), .ref (v 6), .int 0, .int 0, .int 0, .ref (v 7), .ref (v 8), .int 0, .int 0, .ref (v 9), .ref (v 10), .ref (v 11), .ref (v 12), .ref (v 13), .ref (v 14)])), (v 0, .inl (g.2 0, 225, .inl (fun _ => 0)))] := hD
  refine W.eq (g2 := F0 m 2212 ls [.int (-2), .int (-2)]) rfl ?_
  refine lv_icmp_eq (tgt := 2465) hx hb dL_law_2212 (by decide) (fun _ => ?_) (fun h => absurd rfl h)
  exact law_end C0 hS (lv_sub hl [0, 1, 2, 3] rfl) (Nat.le_of_ble_eq_true rfl) (Nat.le_of_ble_eq_true rfl)
set_option maxRecDepth 100000 in
set_option maxHeartbeats 4000000 in
/-- count -/
theorem law_65 {p : Program} {e : Env} {s : State} {m : MethodId} {below : List Frame} {meth : Method} {c : Code} {l : Launch} {g : GG} {b : Nat} {xs : Nat → Int32} (C0 : lw_At p s m meth c b 6 xs) (hKn : Kn g s) {H : Heap} {locs : List Loc} {ls : Array Slot} {qx qm : Nat} {u v : Nat → Nat} (hP : va_P g.1 vwCl (WX g qx u ++ WM g qm v) H) (hD : va_D (lA s) (WX g qx u ++ WM g qm v)) (hS : va_S (lA s) s.heap H locs) (hl : lv_has ls 4 [(3, .int 0), (2, .ref qm), (1, .ref qx), (0, .ref b)]) : W p l e room_1 s m #[Value.ref b] below meth c H locs 122 12079 (lw_Z below #[Value.ref b] s) (F0 m 2217 ls []) := by
  obtain ⟨hx, hb, hr, hml, hown, hts, hX, hbl, hlocks, hgv⟩ := id C0
  have hA : ∀ q : Nat, s.heap.size ≤ q → lA s q := fun _ h => h
  have hbA : ¬ lA s b := Nat.not_le.mpr hbl
  have hB : ∀ w ∈ BIG, w.before #[Value.ref b] s = true := fun w h => hts w (big_in w h)
  have FC : CallFix p m c cL_law 4 s #[Value.ref b] BIG RL := ⟨hx, hb, hml, hown, hB⟩
  have hP : va_P g.1 vwCl [(qx, .inr (11, [.ref (u 0), .ref (u 17), .ref (u 31), .ref (u 32), .ref (u 33), .ref (u 34), .ref (u 35), .ref (u 36), .ref (u 37), .ref (u 38), .ref (u 39)])), (u 0, .inr (1, [.ref (u 1), .ref (u 3), .int 0, .int (-1), .int 0])), (u 1, .inr (9, [.ref (u 2), .int 0, .int 0, .int 0, .int 0, .int 0])), (u 17, .inr (0, [.int 0, .int 0, .int 0, .int 0, .int 0, .int 0, .int 0, .int 0, .int 0, .int 0, .ref (u 18), .ref (u 19), .ref (u 20), .ref (u 21), .ref (u 22), .ref (u 23), .ref (u 24), .ref (u 25), .ref (u 26), .ref (u 27)])), (u 27, .inr (3, [.ref (u 28), .ref (u 29), .ref (u 30), .int 0])), (u 33, .inl (g.2 5, 4, .inr (.inr (.inr (.inr (va_up (va_up (va_up (va_up (fun _ => none) 0 (some (u 82))) 1 (some (u 83))) 2 (some (u 84))) 3 (some (u 85)))))))), (u 82, .inr (8, [.ref (u 86), .int 0, .int 0, .int 0])), (u 83, .inr (8, [.ref (u 87), .int 0, .int 0, .int 0])), (u 84, .inr (8, [.ref (u 88), .int 0, .int 0, .int 0])), (u 85, .inr (8, [.ref (u 89), .int 0, .int 0, .int 0])), (qm, .inr (12, [.int 0, .ref (v 0), .ref (v 1), .ref (v 2), .ref (v 3), .int 0, .ref (v 4), .int 0, .int 0, .int 0, .int 0, .int 0, .int 0, .int (-1), .ref (v 5), .ref (v 6), .int 0, .int 0, .int 0, .ref (v 7), .ref (v 8), .int 0, .int 0, .ref (v 9), .ref (v 10), .ref (v 11), .ref (v 12), .ref (v 13), .ref (v 14)])), (v 0, .inl (g.2 0, 225, .inl (fun _ => 0))), (v 11, .inl (g.2 0, 4, .inl mny))] H := hP.sub [0, 1, 2, 18, 28, 76, 77, 79, 81, 83, 85, 86, 92] rfl
  have hD : va_D (lA s) [(qx, .inr (11, [.ref (u 0), .ref (u 17), .ref (u 31), .ref (u 32), .ref (u 33), .ref (u 34), .ref (u 35), .ref (u 36), .ref (u 37), .ref (u 38), .ref (u 39)])), (u 0, .inr (1, [.ref (u 1), .ref (u 3), .int 0, .int (-1), .int 0])), (u 1, .inr (9, [.ref (u 2), .int 0, .int 0, .int 0, .int 0, .int 0])), (u 17, .inr (0, [.int 0, .int 0, .int 0, .int 0, .int 0, .int 0, .int 0, .int 0, .int 0, .int 0, .ref (u 18), .ref (u 19), .ref (u 20), .ref (u 21), .ref (u 22), .ref (u 23), .ref (u 24), .ref (u 25), .ref (u 26), .ref (u 27)])), (u 27, .inr (3, [.ref (u 28), .ref (u 29), .ref (u 30), .int 0])), (u 33, .inl (g.2 5, 4, .inr (.inr (.inr (.inr (va_up (va_up (va_up (va_up (fun _ => none) 0 (some (u 82))) 1 (some (u 83))) 2 (some (u 84))) 3 (some (u 85)))))))), (u 82, .inr (8, [.ref (u 86), .int 0, .int 0, .int 0])), (u 83, .inr (8, [.ref (u 87), .int 0, .int 0, .int 0])), (u 84, .inr (8, [.ref (u 88), .int 0, .int 0, .int 0])), (u 85, .inr (8, [.ref (u 89), .int 0, .int 0, .int 0])), (qm, .inr (12, [.int 0, .ref (v 0), .ref (v 1), .ref (v 2), .ref (v 3), .int 0, .ref (v 4), .int 0, .int 0, .int 0, .int 0, .int 0, .int 0, .int (-1), .ref (v 5), .ref (v 6), .int 0, .int 0, .int 0, .ref (v 7), .ref (v 8), .int 0, .int 0, .ref (v 9), .ref (v 10), .ref (v 11), .ref (v 12), .ref (v 13), .ref (v 14)])), (v 0, .inl (g.2 0, 225, .inl (fun _ => 0))), (v 11, .inl (g.2 0, 4, .inl mny))] := hD.sub [0, 1, 2, 18, 28, 76, 77, 79, 81, 83, 85, 86, 92] (by decide) rfl
  refine lv_aload_n hx hb dL_law_2217 rfl (lv_at hl 2 rfl) ?_
  refine lv_aload_n hx hb dL_law_2218 rfl (lv_at hl 3 rfl) ?_
  refine lv_iload_n hx hb dL_law_2219 rfl (lv_at hl 0 rfl) ?_
  refine lv_iconst (v := 1) hx hb dL_law_2220 (by decide) ?_
  refine lv_iadd hx hb dL_law_2221 ?_
  refine tp_i (v := 1) (by decide) ?_
  refine va_sld hx hb hX hbl hbA hS (by unfold vp_in; decide) dL_law_2222 ?_
  refine tp_i (v := xs 1) rfl ?_
  refine call_V (As := [.int (xs 1)]) (rest := []) (wr := [(qm, .inr (12, [.int 0, .ref (v 0), .ref (v 1), .ref (v 2), .ref (v 3), .int 0, .ref (v 4), .int 0, .int 0, .int 0, .int 0, .int 0, .int 0, .int (-1), .ref (v 5), .ref (v 6), .int 0, .int 0, .int 0, .ref (v 7), .ref (v 8), .int 0, .int 0, .ref (v 9), .ref (v 10), .ref (v 11), .ref (v 12), .ref (v 13), .ref (v 14)])), (v 0, .inl (g.2 0, 225, .inl (fun _ => 0))), (v 11, .inl (g.2 0, 4, .inl mny))]) FC hKn (c_X11_count l g qx (u 17) (u 0) (u 31) (u 32) (u 33) (u 34) (u 35) (u 36) (u 37) (u 38) (u 39) (u 18) (u 19) (u 20) (u 21) (u 22) (u 23) (u 24) (u 25) (u 26) (u 27) (u 28) (u 29) (u 30) (u 1) (u 3) (u 2) (u 82) (u 83) (u 84) (u 85) (u 86) (u 87) (u 88) (u 89) (xs 1)) m_yX11_count b_614 (ci := 11) rfl rfl rfl hP hD hS hA [0, 3, 4, 1, 2, 5, 6, 7, 8, 9] [10, 11, 12] rfl (by decide) rfl (by decide) (by decide) rfl hl.1 rfl (Nat.le_of_ble_eq_true rfl) dL_law_2223 ⟨(Nat.le_of_ble_eq_true rfl), (Nat.le_of_ble_eq_true rfl)⟩ ⟨(Nat.le_of_ble_eq_true rfl), (Nat.le_of_ble_eq_true rfl)⟩ (fun u1 H locs _ hP hD hS => ?_)
  have hP : va_P g.1 vwCl [(qm, .inr (12, [.int 0, .ref (v 0), .ref (v 1), .ref (v 2), .ref (v 3), .int 0, .ref (v 4), .int 0, .int 0, .int 0, .int 0, .int 0, .int 0, .int (-1), .ref (v 5), .ref (v 6), .int 0, .int 0, .int 0, .ref (v 7), .ref (v 8), .int 0, .int 0, .ref (v 9), .ref (v 10), .ref (v 11), .ref (v 12), .ref (v 13), .ref (v 14)])), (v 0, .inl (g.2 0, 225, .inl (fun _ => 0))), (v 11, .inl (g.2 0, 4, .inl mny))] H := hP
  have hD : va_D (lA s) [(qm, .inr (12, [.int 0, .ref (v 0), .ref (v 1), .ref (v 2), .ref (v 3), .int 0, .ref (v 4), .int 0, .int 0, .int 0, .int 0, .int 0, .int 0, .int (-1), .ref (v 5), .ref (v 6), .int 0, .int 0, .int 0, .ref (v 7), .ref (v 8), .int 0, .int 0, .ref (v 9), .ref (v 10), .ref (v 11), .ref (v 12), .ref (v 13), .ref (v 14)])), (v 0, .inl (g.2 0, 225, .inl (fun _ => 0))), (v 11, .inl (g.2 0, 4, .inl mny))] := hD
  refine W.eq (g2 := F0 m 2226 ls [.int (sp_count (xs 1))]) rfl ?_
  refine lv_aload_n hx hb dL_law_2226 rfl (lv_at hl 1 rfl) ?_
  refine lv_aload_n hx hb dL_law_2227 rfl (lv_at hl 3 rfl) ?_
  refine lv_iload_n hx hb dL_law_2228 rfl (lv_at hl 0 rfl) ?_
  refine lv_iconst (v := 1) hx hb dL_law_2229 (by decide) ?_
  refine lv_iadd hx hb dL_law_2230 ?_
  refine tp_i (v := 1) (by decide) ?_
  refine va_sld hx hb hX hbl hbA hS (by unfold vp_in; decide) dL_law_2231 ?_
  refine tp_i (v := xs 1) rfl ?_
  refine call_V (As := [.int (xs 1)]) (rest := [.int (sp_count (xs 1))]) (wr := []) FC hKn (c_X12_count l g qm (v 0) (v 1) (v 2) (v 3) (v 4) (v 5) (v 6) (v 7) (v 8) (v 9) (v 10) (v 11) (v 12) (v 13) (v 14) (xs 1)) m_yX12_count b_615 (ci := 12) rfl rfl rfl hP hD hS hA [0, 1, 2] [] rfl (by decide) rfl (by decide) (by decide) rfl hl.1 rfl (Nat.le_of_ble_eq_true rfl) dL_law_2232 ⟨(Nat.le_of_ble_eq_true rfl), (Nat.le_of_ble_eq_true rfl)⟩ ⟨(Nat.le_of_ble_eq_true rfl), (Nat.le_of_ble_eq_true rfl)⟩ (fun u2 H locs _ hP hD hS => ?_)
  have hP : va_P g.1 vwCl [] H := hP
  have hD : va_D (lA s) [] := hD
  refine W.eq (g2 := F0 m 2235 ls [.int (sp_count (xs 1)), .int (sp_count (xs 1))]) rfl ?_
  refine lv_icmp_eq (tgt := 2465) hx hb dL_law_2235 (by decide) (fun _ => ?_) (fun h => absurd rfl h)
  exact law_end C0 hS (lv_sub hl [0, 1, 2, 3] rfl) (Nat.le_of_ble_eq_true rfl) (Nat.le_of_ble_eq_true rfl)
set_option maxRecDepth 100000 in
set_option maxHeartbeats 4000000 in
/-- image -/
theorem law_66 {p : Program} {e : Env} {s : State} {m : MethodId} {below : List Frame} {meth : Method} {c : Code} {l : Launch} {g : GG} {b : Nat} {xs : Nat → Int32} (C0 : lw_At p s m meth c b 6 xs) (hKn : Kn g s) {H : Heap} {locs : List Loc} {ls : Array Slot} {qx qm : Nat} {u v : Nat → Nat} (hP : va_P g.1 vwCl (WX g qx u ++ WM g qm v) H) (hD : va_D (lA s) (WX g qx u ++ WM g qm v)) (hS : va_S (lA s) s.heap H locs) (hl : lv_has ls 4 [(3, .int 0), (2, .ref qm), (1, .ref qx), (0, .ref b)]) : W p l e room_1 s m #[Value.ref b] below meth c H locs 122 12079 (lw_Z below #[Value.ref b] s) (F0 m 2240 ls []) := by
  obtain ⟨hx, hb, hr, hml, hown, hts, hX, hbl, hlocks, hgv⟩ := id C0
  have hA : ∀ q : Nat, s.heap.size ≤ q → lA s q := fun _ h => h
  have hbA : ¬ lA s b := Nat.not_le.mpr hbl
  have hB : ∀ w ∈ BIG, w.before #[Value.ref b] s = true := fun w h => hts w (big_in w h)
  have FC : CallFix p m c cL_law 4 s #[Value.ref b] BIG RL := ⟨hx, hb, hml, hown, hB⟩
  have hP : va_P g.1 vwCl [(qx, .inr (11, [.ref (u 0), .ref (u 17), .ref (u 31), .ref (u 32), .ref (u 33), .ref (u 34), .ref (u 35), .ref (u 36), .ref (u 37), .ref (u 38), .ref (u 39)])), (u 17, .inr (0, [.int 0, .int 0, .int 0, .int 0, .int 0, .int 0, .int 0, .int 0, .int 0, .int 0, .ref (u 18), .ref (u 19), .ref (u 20), .ref (u 21), .ref (u 22), .ref (u 23), .ref (u 24), .ref (u 25), .ref (u 26), .ref (u 27)])), (u 18, .inl (g.2 0, 8, .inl (fun _ => 0))), (u 19, .inl (g.2 0, 32, .inl (fun _ => 0))), (u 20, .inl (g.2 0, 4, .inl (fun _ => 0))), (u 21, .inl (g.2 0, 4, .inl (fun _ => 0))), (u 22, .inl (g.2 0, 8, .inl (fun _ => 0))), (u 23, .inl (g.2 0, 8, .inl (fun _ => 0))), (u 24, .inl (g.2 0, 4, .inl (fun _ => 0))), (u 25, .inl (g.2 0, 20, .inl (fun _ => 0))), (u 26, .inl (g.2 0, 6, .inl (fun _ => 0))), (u 27, .inr (3, [.ref (u 28), .ref (u 29), .ref (u 30), .int 0])), (u 28, .inl (g.2 0, 60, .inl (fun _ => 0))), (u 29, .inl (g.2 0, 60, .inl (fun _ => 0))), (u 30, .inl (g.2 0, 60, .inl (fun _ => 0))), (u 31, .inl (g.2 4, 3, .inr (.inr (.inr (.inr (va_up (va_up (va_up (fun _ => none) 0 (some (u 40))) 1 (some (u 54))) 2 (some (u 68)))))))), (u 32, .inl (g.2 2, 3, .inl (fun _ => 0))), (u 40, .inr (0, [.int 0, .int 0, .int 0, .int 0, .int 0, .int 0, .int 0, .int 0, .int 0, .int 0, .ref (u 41), .ref (u 42), .ref (u 43), .ref (u 44), .ref (u 45), .ref (u 46), .ref (u 47), .ref (u 48), .ref (u 49), .ref (u 50)])), (u 41, .inl (g.2 0, 8, .inl (fun _ => 0))), (u 42, .inl (g.2 0, 32, .inl (fun _ => 0))), (u 43, .inl (g.2 0, 4, .inl (fun _ => 0))), (u 44, .inl (g.2 0, 4, .inl (fun _ => 0))), (u 45, .inl (g.2 0, 8, .inl (fun _ => 0))), (u 46, .inl (g.2 0, 8, .inl (fun _ => 0))), (u 47, .inl (g.2 0, 4, .inl (fun _ => 0))), (u 48, .inl (g.2 0, 20, .inl (fun _ => 0))), (u 49, .inl (g.2 0, 6, .inl (fun _ => 0))), (u 50, .inr (3, [.ref (u 51), .ref (u 52), .ref (u 53), .int 0])), (u 51, .inl (g.2 0, 60, .inl (fun _ => 0))), (u 52, .inl (g.2 0, 60, .inl (fun _ => 0))), (u 53, .inl (g.2 0, 60, .inl (fun _ => 0))), (u 54, .inr (0, [.int 0, .int 0, .int 0, .int 0, .int 0, .int 0, .int 0, .int 0, .int 0, .int 0, .ref (u 55), .ref (u 56), .ref (u 57), .ref (u 58), .ref (u 59), .ref (u 60), .ref (u 61), .ref (u 62), .ref (u 63), .ref (u 64)])), (u 55, .inl (g.2 0, 8, .inl (fun _ => 0))), (u 56, .inl (g.2 0, 32, .inl (fun _ => 0))), (u 57, .inl (g.2 0, 4, .inl (fun _ => 0))), (u 58, .inl (g.2 0, 4, .inl (fun _ => 0))), (u 59, .inl (g.2 0, 8, .inl (fun _ => 0))), (u 60, .inl (g.2 0, 8, .inl (fun _ => 0))), (u 61, .inl (g.2 0, 4, .inl (fun _ => 0))), (u 62, .inl (g.2 0, 20, .inl (fun _ => 0))), (u 63, .inl (g.2 0, 6, .inl (fun _ => 0))), (u 64, .inr (3, [.ref (u 65), .ref (u 66), .ref (u 67), .int 0])), (u 65, .inl (g.2 0, 60, .inl (fun _ => 0))), (u 66, .inl (g.2 0, 60, .inl (fun _ => 0))), (u 67, .inl (g.2 0, 60, .inl (fun _ => 0))), (u 68, .inr (0, [.int 0, .int 0, .int 0, .int 0, .int 0, .int 0, .int 0, .int 0, .int 0, .int 0, .ref (u 69), .ref (u 70), .ref (u 71), .ref (u 72), .ref (u 73), .ref (u 74), .ref (u 75), .ref (u 76), .ref (u 77), .ref (u 78)])), (u 69, .inl (g.2 0, 8, .inl (fun _ => 0))), (u 70, .inl (g.2 0, 32, .inl (fun _ => 0))), (u 71, .inl (g.2 0, 4, .inl (fun _ => 0))), (u 72, .inl (g.2 0, 4, .inl (fun _ => 0))), (u 73, .inl (g.2 0, 8, .inl (fun _ => 0))), (u 74, .inl (g.2 0, 8, .inl (fun _ => 0))), (u 75, .inl (g.2 0, 4, .inl (fun _ => 0))), (u 76, .inl (g.2 0, 20, .inl (fun _ => 0))), (u 77, .inl (g.2 0, 6, .inl (fun _ => 0))), (u 78, .inr (3, [.ref (u 79), .ref (u 80), .ref (u 81), .int 0])), (u 79, .inl (g.2 0, 60, .inl (fun _ => 0))), (u 80, .inl (g.2 0, 60, .inl (fun _ => 0))), (u 81, .inl (g.2 0, 60, .inl (fun _ => 0))), (qm, .inr (12, [.int 0, .ref (v 0), .ref (v 1), .ref (v 2), .ref (v 3), .int 0, .ref (v 4), .int 0, .int 0, .int 0, .int 0, .int 0, .int 0, .int (-1), .ref (v 5), .ref (v 6), .int 0, .int 0, .int 0, .ref (v 7), .ref (v 8), .int 0, .int 0, .ref (v 9), .ref (v 10), .ref (v 11), .ref (v 12), .ref (v 13), .ref (v 14)])), (v 0, .inl (g.2 0, 225, .inl (fun _ => 0))), (v 1, .inl (g.2 0, 675, .inl (fun _ => 0))), (v 2, .inl (g.2 2, 3, .inl (fun _ => 0)))] H := hP.sub [0, 18, 19, 20, 21, 22, 23, 24, 25, 26, 27, 28, 29, 30, 31, 32, 33, 34, 35, 36, 37, 38, 39, 40, 41, 42, 43, 44, 45, 46, 47, 48, 49, 50, 51, 52, 53, 54, 55, 56, 57, 58, 59, 60, 61, 62, 63, 64, 65, 66, 67, 68, 69, 70, 71, 72, 73, 74, 75, 85, 86, 87, 88] rfl
  have hD : va_D (lA s) [(qx, .inr (11, [.ref (u 0), .ref (u 17), .ref (u 31), .ref (u 32), .ref (u 33), .ref (u 34), .ref (u 35), .ref (u 36), .ref (u 37), .ref (u 38), .ref (u 39)])), (u 17, .inr (0, [.int 0, .int 0, .int 0, .int 0, .int 0, .int 0, .int 0, .int 0, .int 0, .int 0, .ref (u 18), .ref (u 19), .ref (u 20), .ref (u 21), .ref (u 22), .ref (u 23), .ref (u 24), .ref (u 25), .ref (u 26), .ref (u 27)])), (u 18, .inl (g.2 0, 8, .inl (fun _ => 0))), (u 19, .inl (g.2 0, 32, .inl (fun _ => 0))), (u 20, .inl (g.2 0, 4, .inl (fun _ => 0))), (u 21, .inl (g.2 0, 4, .inl (fun _ => 0))), (u 22, .inl (g.2 0, 8, .inl (fun _ => 0))), (u 23, .inl (g.2 0, 8, .inl (fun _ => 0))), (u 24, .inl (g.2 0, 4, .inl (fun _ => 0))), (u 25, .inl (g.2 0, 20, .inl (fun _ => 0))), (u 26, .inl (g.2 0, 6, .inl (fun _ => 0))), (u 27, .inr (3, [.ref (u 28), .ref (u 29), .ref (u 30), .int 0])), (u 28, .inl (g.2 0, 60, .inl (fun _ => 0))), (u 29, .inl (g.2 0, 60, .inl (fun _ => 0))), (u 30, .inl (g.2 0, 60, .inl (fun _ => 0))), (u 31, .inl (g.2 4, 3, .inr (.inr (.inr (.inr (va_up (va_up (va_up (fun _ => none) 0 (some (u 40))) 1 (some (u 54))) 2 (some (u 68)))))))), (u 32, .inl (g.2 2, 3, .inl (fun _ => 0))), (u 40, .inr (0, [.int 0, .int 0, .int 0, .int 0, .int 0, .int 0, .int 0, .int 0, .int 0, .int 0, .ref (u 41), .ref (u 42), .ref (u 43), .ref (u 44), .ref (u 45), .ref (u 46), .ref (u 47), .ref (u 48), .ref (u 49), .ref (u 50)])), (u 41, .inl (g.2 0, 8, .inl (fun _ => 0))), (u 42, .inl (g.2 0, 32, .inl (fun _ => 0))), (u 43, .inl (g.2 0, 4, .inl (fun _ => 0))), (u 44, .inl (g.2 0, 4, .inl (fun _ => 0))), (u 45, .inl (g.2 0, 8, .inl (fun _ => 0))), (u 46, .inl (g.2 0, 8, .inl (fun _ => 0))), (u 47, .inl (g.2 0, 4, .inl (fun _ => 0))), (u 48, .inl (g.2 0, 20, .inl (fun _ => 0))), (u 49, .inl (g.2 0, 6, .inl (fun _ => 0))), (u 50, .inr (3, [.ref (u 51), .ref (u 52), .ref (u 53), .int 0])), (u 51, .inl (g.2 0, 60, .inl (fun _ => 0))), (u 52, .inl (g.2 0, 60, .inl (fun _ => 0))), (u 53, .inl (g.2 0, 60, .inl (fun _ => 0))), (u 54, .inr (0, [.int 0, .int 0, .int 0, .int 0, .int 0, .int 0, .int 0, .int 0, .int 0, .int 0, .ref (u 55), .ref (u 56), .ref (u 57), .ref (u 58), .ref (u 59), .ref (u 60), .ref (u 61), .ref (u 62), .ref (u 63), .ref (u 64)])), (u 55, .inl (g.2 0, 8, .inl (fun _ => 0))), (u 56, .inl (g.2 0, 32, .inl (fun _ => 0))), (u 57, .inl (g.2 0, 4, .inl (fun _ => 0))), (u 58, .inl (g.2 0, 4, .inl (fun _ => 0))), (u 59, .inl (g.2 0, 8, .inl (fun _ => 0))), (u 60, .inl (g.2 0, 8, .inl (fun _ => 0))), (u 61, .inl (g.2 0, 4, .inl (fun _ => 0))), (u 62, .inl (g.2 0, 20, .inl (fun _ => 0))), (u 63, .inl (g.2 0, 6, .inl (fun _ => 0))), (u 64, .inr (3, [.ref (u 65), .ref (u 66), .ref (u 67), .int 0])), (u 65, .inl (g.2 0, 60, .inl (fun _ => 0))), (u 66, .inl (g.2 0, 60, .inl (fun _ => 0))), (u 67, .inl (g.2 0, 60, .inl (fun _ => 0))), (u 68, .inr (0, [.int 0, .int 0, .int 0, .int 0, .int 0, .int 0, .int 0, .int 0, .int 0, .int 0, .ref (u 69), .ref (u 70), .ref (u 71), .ref (u 72), .ref (u 73), .ref (u 74), .ref (u 75), .ref (u 76), .ref (u 77), .ref (u 78)])), (u 69, .inl (g.2 0, 8, .inl (fun _ => 0))), (u 70, .inl (g.2 0, 32, .inl (fun _ => 0))), (u 71, .inl (g.2 0, 4, .inl (fun _ => 0))), (u 72, .inl (g.2 0, 4, .inl (fun _ => 0))), (u 73, .inl (g.2 0, 8, .inl (fun _ => 0))), (u 74, .inl (g.2 0, 8, .inl (fun _ => 0))), (u 75, .inl (g.2 0, 4, .inl (fun _ => 0))), (u 76, .inl (g.2 0, 20, .inl (fun _ => 0))), (u 77, .inl (g.2 0, 6, .inl (fun _ => 0))), (u 78, .inr (3, [.ref (u 79), .ref (u 80), .ref (u 81), .int 0])), (u 79, .inl (g.2 0, 60, .inl (fun _ => 0))), (u 80, .inl (g.2 0, 60, .inl (fun _ => 0))), (u 81, .inl (g.2 0, 60, .inl (fun _ => 0))), (qm, .inr (12, [.int 0, .ref (v 0), .ref (v 1), .ref (v 2), .ref (v 3), .int 0, .ref (v 4), .int 0, .int 0, .int 0, .int 0, .int 0, .int 0, .int (-1), .ref (v 5), .ref (v 6), .int 0, .int 0, .int 0, .ref (v 7), .ref (v 8), .int 0, .int 0, .ref (v 9), .ref (v 10), .ref (v 11), .ref (v 12), .ref (v 13), .ref (v 14)])), (v 0, .inl (g.2 0, 225, .inl (fun _ => 0))), (v 1, .inl (g.2 0, 675, .inl (fun _ => 0))), (v 2, .inl (g.2 2, 3, .inl (fun _ => 0)))] := hD.sub [0, 18, 19, 20, 21, 22, 23, 24, 25, 26, 27, 28, 29, 30, 31, 32, 33, 34, 35, 36, 37, 38, 39, 40, 41, 42, 43, 44, 45, 46, 47, 48, 49, 50, 51, 52, 53, 54, 55, 56, 57, 58, 59, 60, 61, 62, 63, 64, 65, 66, 67, 68, 69, 70, 71, 72, 73, 74, 75, 85, 86, 87, 88] (by decide) rfl
  refine lv_aload_n hx hb dL_law_2240 rfl (lv_at hl 2 rfl) ?_
  refine lv_aload_n hx hb dL_law_2241 rfl (lv_at hl 3 rfl) ?_
  refine lv_iload_n hx hb dL_law_2242 rfl (lv_at hl 0 rfl) ?_
  refine lv_iconst (v := 1) hx hb dL_law_2243 (by decide) ?_
  refine lv_iadd hx hb dL_law_2244 ?_
  refine tp_i (v := 1) (by decide) ?_
  refine va_sld hx hb hX hbl hbA hS (by unfold vp_in; decide) dL_law_2245 ?_
  refine tp_i (v := xs 1) rfl ?_
  refine call_V (As := [.int (xs 1)]) (rest := []) (wr := [(qm, .inr (12, [.int 0, .ref (v 0), .ref (v 1), .ref (v 2), .ref (v 3), .int 0, .ref (v 4), .int 0, .int 0, .int 0, .int 0, .int 0, .int 0, .int (-1), .ref (v 5), .ref (v 6), .int 0, .int 0, .int 0, .ref (v 7), .ref (v 8), .int 0, .int 0, .ref (v 9), .ref (v 10), .ref (v 11), .ref (v 12), .ref (v 13), .ref (v 14)])), (v 0, .inl (g.2 0, 225, .inl (fun _ => 0))), (v 1, .inl (g.2 0, 675, .inl (fun _ => 0))), (v 2, .inl (g.2 2, 3, .inl (fun _ => 0)))]) FC hKn (c_X11_image l g qx (u 0) (u 31) (u 32) (u 33) (u 34) (u 35) (u 36) (u 37) (u 38) (u 39) (u 17) (u 18) (u 19) (u 20) (u 21) (u 22) (u 23) (u 24) (u 25) (u 26) (u 27) (u 28) (u 29) (u 30) (u 40) (u 41) (u 42) (u 43) (u 44) (u 45) (u 46) (u 47) (u 48) (u 49) (u 50) (u 51) (u 52) (u 53) (u 54) (u 55) (u 56) (u 57) (u 58) (u 59) (u 60) (u 61) (u 62) (u 63) (u 64) (u 65) (u 66) (u 67) (u 68) (u 69) (u 70) (u 71) (u 72) (u 73) (u 74) (u 75) (u 76) (u 77) (u 78) (u 79) (u 80) (u 81) (xs 1)) m_yX11_image b_616 (ci := 11) rfl rfl rfl hP hD hS hA [0, 15, 16, 1, 2, 3, 4, 5, 6, 7, 8, 9, 10, 11, 12, 13, 14, 17, 18, 19, 20, 21, 22, 23, 24, 25, 26, 27, 28, 29, 30, 31, 32, 33, 34, 35, 36, 37, 38, 39, 40, 41, 42, 43, 44, 45, 46, 47, 48, 49, 50, 51, 52, 53, 54, 55, 56, 57, 58] [59, 60, 61, 62] rfl (by decide) rfl (by decide) (by decide) rfl hl.1 rfl (Nat.le_of_ble_eq_true rfl) dL_law_2246 ⟨(Nat.le_of_ble_eq_true rfl), (Nat.le_of_ble_eq_true rfl)⟩ ⟨(Nat.le_of_ble_eq_true rfl), (Nat.le_of_ble_eq_true rfl)⟩ (fun u1 H locs _ hP hD hS => ?_)
  have hP : va_P g.1 vwCl [(qm, .inr (12, [.int 0, .ref (v 0), .ref (v 1), .ref (v 2), .ref (v 3), .int 0, .ref (v 4), .int 0, .int 0, .int 0, .int 0, .int 0, .int 0, .int (-1), .ref (v 5), .ref (v 6), .int 0, .int 0, .int 0, .ref (v 7), .ref (v 8), .int 0, .int 0, .ref (v 9), .ref (v 10), .ref (v 11), .ref (v 12), .ref (v 13), .ref (v 14)])), (v 0, .inl (g.2 0, 225, .inl (fun _ => 0))), (v 1, .inl (g.2 0, 675, .inl (fun _ => 0))), (v 2, .inl (g.2 2, 3, .inl (fun _ => 0)))] H := hP
  have hD : va_D (lA s) [(qm, .inr (12, [.int 0, .ref (v 0), .ref (v 1), .ref (v 2), .ref (v 3), .int 0, .ref (v 4), .int 0, .int 0, .int 0, .int 0, .int 0, .int 0, .int (-1), .ref (v 5), .ref (v 6), .int 0, .int 0, .int 0, .ref (v 7), .ref (v 8), .int 0, .int 0, .ref (v 9), .ref (v 10), .ref (v 11), .ref (v 12), .ref (v 13), .ref (v 14)])), (v 0, .inl (g.2 0, 225, .inl (fun _ => 0))), (v 1, .inl (g.2 0, 675, .inl (fun _ => 0))), (v 2, .inl (g.2 2, 3, .inl (fun _ => 0)))] := hD
  refine W.eq (g2 := F0 m 2249 ls [.int (sp_image (xs 1))]) rfl ?_
  refine lv_aload_n hx hb dL_law_2249 rfl (lv_at hl 1 rfl) ?_
  refine lv_aload_n hx hb dL_law_2250 rfl (lv_at hl 3 rfl) ?_
  refine lv_iload_n hx hb dL_law_2251 rfl (lv_at hl 0 rfl) ?_
  refine lv_iconst (v := 1) hx hb dL_law_2252 (by decide) ?_
  refine lv_iadd hx hb dL_law_2253 ?_
  refine tp_i (v := 1) (by decide) ?_
  refine va_sld hx hb hX hbl hbA hS (by unfold vp_in; decide) dL_law_2254 ?_
  refine tp_i (v := xs 1) rfl ?_
  refine call_V (As := [.int (xs 1)]) (rest := [.int (sp_image (xs 1))]) (wr := []) FC hKn (c_X12_image l g qm (v 0) (v 1) (v 2) (v 3) (v 4) (v 5) (v 6) (v 7) (v 8) (v 9) (v 10) (v 11) (v 12) (v 13) (v 14) (xs 1)) m_yX12_image b_617 (ci := 12) rfl rfl rfl hP hD hS hA [0, 1, 2, 3] [] rfl (by decide) rfl (by decide) (by decide) rfl hl.1 rfl (Nat.le_of_ble_eq_true rfl) dL_law_2255 ⟨(Nat.le_of_ble_eq_true rfl), (Nat.le_of_ble_eq_true rfl)⟩ ⟨(Nat.le_of_ble_eq_true rfl), (Nat.le_of_ble_eq_true rfl)⟩ (fun u2 H locs _ hP hD hS => ?_)
  have hP : va_P g.1 vwCl [] H := hP
  have hD : va_D (lA s) [] := hD
  refine W.eq (g2 := F0 m 2258 ls [.int (sp_image (xs 1)), .int (sp_image (xs 1))]) rfl ?_
  refine lv_icmp_eq (tgt := 2465) hx hb dL_law_2258 (by decide) (fun _ => ?_) (fun h => absurd rfl h)
  exact law_end C0 hS (lv_sub hl [0, 1, 2, 3] rfl) (Nat.le_of_ble_eq_true rfl) (Nat.le_of_ble_eq_true rfl)
set_option maxRecDepth 100000 in
set_option maxHeartbeats 4000000 in
/-- back -/
theorem law_67 {p : Program} {e : Env} {s : State} {m : MethodId} {below : List Frame} {meth : Method} {c : Code} {l : Launch} {g : GG} {b : Nat} {xs : Nat → Int32} (C0 : lw_At p s m meth c b 6 xs) (hKn : Kn g s) {H : Heap} {locs : List Loc} {ls : Array Slot} {qx qm : Nat} {u v : Nat → Nat} (hP : va_P g.1 vwCl (WX g qx u ++ WM g qm v) H) (hD : va_D (lA s) (WX g qx u ++ WM g qm v)) (hS : va_S (lA s) s.heap H locs) (hl : lv_has ls 4 [(3, .int 0), (2, .ref qm), (1, .ref qx), (0, .ref b)]) : W p l e room_1 s m #[Value.ref b] below meth c H locs 122 12079 (lw_Z below #[Value.ref b] s) (F0 m 2263 ls []) := by
  obtain ⟨hx, hb, hr, hml, hown, hts, hX, hbl, hlocks, hgv⟩ := id C0
  have hA : ∀ q : Nat, s.heap.size ≤ q → lA s q := fun _ h => h
  have hbA : ¬ lA s b := Nat.not_le.mpr hbl
  have hB : ∀ w ∈ BIG, w.before #[Value.ref b] s = true := fun w h => hts w (big_in w h)
  have FC : CallFix p m c cL_law 4 s #[Value.ref b] BIG RL := ⟨hx, hb, hml, hown, hB⟩
  have hP : va_P g.1 vwCl [(qx, .inr (11, [.ref (u 0), .ref (u 17), .ref (u 31), .ref (u 32), .ref (u 33), .ref (u 34), .ref (u 35), .ref (u 36), .ref (u 37), .ref (u 38), .ref (u 39)])), (u 31, .inl (g.2 4, 3, .inr (.inr (.inr (.inr (va_up (va_up (va_up (fun _ => none) 0 (some (u 40))) 1 (some (u 54))) 2 (some (u 68)))))))), (u 32, .inl (g.2 2, 3, .inl (fun _ => 0))), (qm, .inr (12, [.int 0, .ref (v 0), .ref (v 1), .ref (v 2), .ref (v 3), .int 0, .ref (v 4), .int 0, .int 0, .int 0, .int 0, .int 0, .int 0, .int (-1), .ref (v 5), .ref (v 6), .int 0, .int 0, .int 0, .ref (v 7), .ref (v 8), .int 0, .int 0, .ref (v 9), .ref (v 10), .ref (v 11), .ref (v 12), .ref (v 13), .ref (v 14)])), (v 2, .inl (g.2 2, 3, .inl (fun _ => 0)))] H := hP.sub [0, 32, 33, 85, 88] rfl
  have hD : va_D (lA s) [(qx, .inr (11, [.ref (u 0), .ref (u 17), .ref (u 31), .ref (u 32), .ref (u 33), .ref (u 34), .ref (u 35), .ref (u 36), .ref (u 37), .ref (u 38), .ref (u 39)])), (u 31, .inl (g.2 4, 3, .inr (.inr (.inr (.inr (va_up (va_up (va_up (fun _ => none) 0 (some (u 40))) 1 (some (u 54))) 2 (some (u 68)))))))), (u 32, .inl (g.2 2, 3, .inl (fun _ => 0))), (qm, .inr (12, [.int 0, .ref (v 0), .ref (v 1), .ref (v 2), .ref (v 3), .int 0, .ref (v 4), .int 0, .int 0, .int 0, .int 0, .int 0, .int 0, .int (-1), .ref (v 5), .ref (v 6), .int 0, .int 0, .int 0, .ref (v 7), .ref (v 8), .int 0, .int 0, .ref (v 9), .ref (v 10), .ref (v 11), .ref (v 12), .ref (v 13), .ref (v 14)])), (v 2, .inl (g.2 2, 3, .inl (fun _ => 0)))] := hD.sub [0, 32, 33, 85, 88] (by decide) rfl
  refine lv_aload_n hx hb dL_law_2263 rfl (lv_at hl 2 rfl) ?_
  refine lv_aload_n hx hb dL_law_2264 rfl (lv_at hl 3 rfl) ?_
  refine lv_iload_n hx hb dL_law_2265 rfl (lv_at hl 0 rfl) ?_
  refine lv_iconst (v := 1) hx hb dL_law_2266 (by decide) ?_
  refine lv_iadd hx hb dL_law_2267 ?_
  refine tp_i (v := 1) (by decide) ?_
  refine va_sld hx hb hX hbl hbA hS (by unfold vp_in; decide) dL_law_2268 ?_
  refine tp_i (v := xs 1) rfl ?_
  refine call_V (As := [.int (xs 1)]) (rest := []) (wr := [(qm, .inr (12, [.int 0, .ref (v 0), .ref (v 1), .ref (v 2), .ref (v 3), .int 0, .ref (v 4), .int 0, .int 0, .int 0, .int 0, .int 0, .int 0, .int (-1), .ref (v 5), .ref (v 6), .int 0, .int 0, .int 0, .ref (v 7), .ref (v 8), .int 0, .int 0, .ref (v 9), .ref (v 10), .ref (v 11), .ref (v 12), .ref (v 13), .ref (v 14)])), (v 2, .inl (g.2 2, 3, .inl (fun _ => 0)))]) FC hKn (c_X11_back l g qx (u 17) (u 0) (u 31) (u 32) (u 33) (u 34) (u 35) (u 36) (u 37) (u 38) (u 39) (u 40) (u 54) (u 68) (xs 1)) m_yX11_back b_618 (ci := 11) rfl rfl rfl hP hD hS hA [0, 1, 2] [3, 4] rfl (by decide) rfl (by decide) (by decide) rfl hl.1 rfl (Nat.le_of_ble_eq_true rfl) dL_law_2269 ⟨(Nat.le_of_ble_eq_true rfl), (Nat.le_of_ble_eq_true rfl)⟩ ⟨(Nat.le_of_ble_eq_true rfl), (Nat.le_of_ble_eq_true rfl)⟩ (fun u1 H locs _ hP hD hS => ?_)
  have hP : va_P g.1 vwCl [(qm, .inr (12, [.int 0, .ref (v 0), .ref (v 1), .ref (v 2), .ref (v 3), .int 0, .ref (v 4), .int 0, .int 0, .int 0, .int 0, .int 0, .int 0, .int (-1), .ref (v 5), .ref (v 6), .int 0, .int 0, .int 0, .ref (v 7), .ref (v 8), .int 0, .int 0, .ref (v 9), .ref (v 10), .ref (v 11), .ref (v 12), .ref (v 13), .ref (v 14)])), (v 2, .inl (g.2 2, 3, .inl (fun _ => 0)))] H := hP
  have hD : va_D (lA s) [(qm, .inr (12, [.int 0, .ref (v 0), .ref (v 1), .ref (v 2), .ref (v 3), .int 0, .ref (v 4), .int 0, .int 0, .int 0, .int 0, .int 0, .int 0, .int (-1), .ref (v 5), .ref (v 6), .int 0, .int 0, .int 0, .ref (v 7), .ref (v 8), .int 0, .int 0, .ref (v 9), .ref (v 10), .ref (v 11), .ref (v 12), .ref (v 13), .ref (v 14)])), (v 2, .inl (g.2 2, 3, .inl (fun _ => 0)))] := hD
  refine W.eq (g2 := F0 m 2272 ls [.int (sp_back (xs 1))]) rfl ?_
  refine lv_aload_n hx hb dL_law_2272 rfl (lv_at hl 1 rfl) ?_
  refine lv_aload_n hx hb dL_law_2273 rfl (lv_at hl 3 rfl) ?_
  refine lv_iload_n hx hb dL_law_2274 rfl (lv_at hl 0 rfl) ?_
  refine lv_iconst (v := 1) hx hb dL_law_2275 (by decide) ?_
  refine lv_iadd hx hb dL_law_2276 ?_
  refine tp_i (v := 1) (by decide) ?_
  refine va_sld hx hb hX hbl hbA hS (by unfold vp_in; decide) dL_law_2277 ?_
  refine tp_i (v := xs 1) rfl ?_
  refine call_V (As := [.int (xs 1)]) (rest := [.int (sp_back (xs 1))]) (wr := []) FC hKn (c_X12_back l g qm (v 0) (v 1) (v 2) (v 3) (v 4) (v 5) (v 6) (v 7) (v 8) (v 9) (v 10) (v 11) (v 12) (v 13) (v 14) (xs 1)) m_yX12_back b_619 (ci := 12) rfl rfl rfl hP hD hS hA [0, 1] [] rfl (by decide) rfl (by decide) (by decide) rfl hl.1 rfl (Nat.le_of_ble_eq_true rfl) dL_law_2278 ⟨(Nat.le_of_ble_eq_true rfl), (Nat.le_of_ble_eq_true rfl)⟩ ⟨(Nat.le_of_ble_eq_true rfl), (Nat.le_of_ble_eq_true rfl)⟩ (fun u2 H locs _ hP hD hS => ?_)
  have hP : va_P g.1 vwCl [] H := hP
  have hD : va_D (lA s) [] := hD
  refine W.eq (g2 := F0 m 2281 ls [.int (sp_back (xs 1)), .int (sp_back (xs 1))]) rfl ?_
  refine lv_icmp_eq (tgt := 2465) hx hb dL_law_2281 (by decide) (fun _ => ?_) (fun h => absurd rfl h)
  exact law_end C0 hS (lv_sub hl [0, 1, 2, 3] rfl) (Nat.le_of_ble_eq_true rfl) (Nat.le_of_ble_eq_true rfl)
set_option maxRecDepth 100000 in
set_option maxHeartbeats 4000000 in
/-- row -/
theorem law_68 {p : Program} {e : Env} {s : State} {m : MethodId} {below : List Frame} {meth : Method} {c : Code} {l : Launch} {g : GG} {b : Nat} {xs : Nat → Int32} (C0 : lw_At p s m meth c b 6 xs) (hKn : Kn g s) {H : Heap} {locs : List Loc} {ls : Array Slot} {qx qm : Nat} {u v : Nat → Nat} (hP : va_P g.1 vwCl (WX g qx u ++ WM g qm v) H) (hD : va_D (lA s) (WX g qx u ++ WM g qm v)) (hS : va_S (lA s) s.heap H locs) (hl : lv_has ls 4 [(3, .int 0), (2, .ref qm), (1, .ref qx), (0, .ref b)]) : W p l e room_1 s m #[Value.ref b] below meth c H locs 122 12079 (lw_Z below #[Value.ref b] s) (F0 m 2286 ls []) := by
  obtain ⟨hx, hb, hr, hml, hown, hts, hX, hbl, hlocks, hgv⟩ := id C0
  have hA : ∀ q : Nat, s.heap.size ≤ q → lA s q := fun _ h => h
  have hbA : ¬ lA s b := Nat.not_le.mpr hbl
  have hB : ∀ w ∈ BIG, w.before #[Value.ref b] s = true := fun w h => hts w (big_in w h)
  have FC : CallFix p m c cL_law 4 s #[Value.ref b] BIG RL := ⟨hx, hb, hml, hown, hB⟩
  have hP : va_P g.1 vwCl [(qx, .inr (11, [.ref (u 0), .ref (u 17), .ref (u 31), .ref (u 32), .ref (u 33), .ref (u 34), .ref (u 35), .ref (u 36), .ref (u 37), .ref (u 38), .ref (u 39)])), (u 33, .inl (g.2 5, 4, .inr (.inr (.inr (.inr (va_up (va_up (va_up (va_up (fun _ => none) 0 (some (u 82))) 1 (some (u 83))) 2 (some (u 84))) 3 (some (u 85)))))))), (u 82, .inr (8, [.ref (u 86), .int 0, .int 0, .int 0])), (u 86, .inl (g.2 3, 60, .inr (.inl (fun _ => 0)))), (u 83, .inr (8, [.ref (u 87), .int 0, .int 0, .int 0])), (u 87, .inl (g.2 3, 60, .inr (.inl (fun _ => 0)))), (u 84, .inr (8, [.ref (u 88), .int 0, .int 0, .int 0])), (u 88, .inl (g.2 3, 60, .inr (.inl (fun _ => 0)))), (u 85, .inr (8, [.ref (u 89), .int 0, .int 0, .int 0])), (u 89, .inl (g.2 3, 60, .inr (.inl (fun _ => 0)))), (qm, .inr (12, [.int 0, .ref (v 0), .ref (v 1), .ref (v 2), .ref (v 3), .int 0, .ref (v 4), .int 0, .int 0, .int 0, .int 0, .int 0, .int 0, .int (-1), .ref (v 5), .ref (v 6), .int 0, .int 0, .int 0, .ref (v 7), .ref (v 8), .int 0, .int 0, .ref (v 9), .ref (v 10), .ref (v 11), .ref (v 12), .ref (v 13), .ref (v 14)])), (v 11, .inl (g.2 0, 4, .inl mny)), (v 12, .inl (g.2 0, 4, .inl (fun _ => 0))), (v 13, .inl (g.2 3, 240, .inr (.inl (fun _ => 0))))] H := hP.sub [0, 76, 77, 78, 79, 80, 81, 82, 83, 84, 85, 92, 93, 94] rfl
  have hD : va_D (lA s) [(qx, .inr (11, [.ref (u 0), .ref (u 17), .ref (u 31), .ref (u 32), .ref (u 33), .ref (u 34), .ref (u 35), .ref (u 36), .ref (u 37), .ref (u 38), .ref (u 39)])), (u 33, .inl (g.2 5, 4, .inr (.inr (.inr (.inr (va_up (va_up (va_up (va_up (fun _ => none) 0 (some (u 82))) 1 (some (u 83))) 2 (some (u 84))) 3 (some (u 85)))))))), (u 82, .inr (8, [.ref (u 86), .int 0, .int 0, .int 0])), (u 86, .inl (g.2 3, 60, .inr (.inl (fun _ => 0)))), (u 83, .inr (8, [.ref (u 87), .int 0, .int 0, .int 0])), (u 87, .inl (g.2 3, 60, .inr (.inl (fun _ => 0)))), (u 84, .inr (8, [.ref (u 88), .int 0, .int 0, .int 0])), (u 88, .inl (g.2 3, 60, .inr (.inl (fun _ => 0)))), (u 85, .inr (8, [.ref (u 89), .int 0, .int 0, .int 0])), (u 89, .inl (g.2 3, 60, .inr (.inl (fun _ => 0)))), (qm, .inr (12, [.int 0, .ref (v 0), .ref (v 1), .ref (v 2), .ref (v 3), .int 0, .ref (v 4), .int 0, .int 0, .int 0, .int 0, .int 0, .int 0, .int (-1), .ref (v 5), .ref (v 6), .int 0, .int 0, .int 0, .ref (v 7), .ref (v 8), .int 0, .int 0, .ref (v 9), .ref (v 10), .ref (v 11), .ref (v 12), .ref (v 13), .ref (v 14)])), (v 11, .inl (g.2 0, 4, .inl mny)), (v 12, .inl (g.2 0, 4, .inl (fun _ => 0))), (v 13, .inl (g.2 3, 240, .inr (.inl (fun _ => 0))))] := hD.sub [0, 76, 77, 78, 79, 80, 81, 82, 83, 84, 85, 92, 93, 94] (by decide) rfl
  refine lv_aload_n hx hb dL_law_2286 rfl (lv_at hl 2 rfl) ?_
  refine lv_aload_n hx hb dL_law_2287 rfl (lv_at hl 3 rfl) ?_
  refine lv_iload_n hx hb dL_law_2288 rfl (lv_at hl 0 rfl) ?_
  refine lv_iconst (v := 1) hx hb dL_law_2289 (by decide) ?_
  refine lv_iadd hx hb dL_law_2290 ?_
  refine tp_i (v := 1) (by decide) ?_
  refine va_sld hx hb hX hbl hbA hS (by unfold vp_in; decide) dL_law_2291 ?_
  refine tp_i (v := xs 1) rfl ?_
  refine lv_aload_n hx hb dL_law_2292 rfl (lv_at hl 3 rfl) ?_
  refine lv_iload_n hx hb dL_law_2293 rfl (lv_at hl 0 rfl) ?_
  refine lv_iconst (v := 2) hx hb dL_law_2294 (by decide) ?_
  refine lv_iadd hx hb dL_law_2295 ?_
  refine tp_i (v := 2) (by decide) ?_
  refine va_sld hx hb hX hbl hbA hS (by unfold vp_in; decide) dL_law_2296 ?_
  refine tp_i (v := xs 2) rfl ?_
  refine lv_aload_n hx hb dL_law_2297 rfl (lv_at hl 3 rfl) ?_
  refine lv_iload_n hx hb dL_law_2298 rfl (lv_at hl 0 rfl) ?_
  refine lv_iconst (v := 3) hx hb dL_law_2299 (by decide) ?_
  refine lv_iadd hx hb dL_law_2300 ?_
  refine tp_i (v := 3) (by decide) ?_
  refine va_sld hx hb hX hbl hbA hS (by unfold vp_in; decide) dL_law_2301 ?_
  refine tp_i (v := xs 3) rfl ?_
  refine call_V (As := [.int (xs 1), .int (xs 2), .int (xs 3)]) (rest := []) (wr := [(qm, .inr (12, [.int 0, .ref (v 0), .ref (v 1), .ref (v 2), .ref (v 3), .int 0, .ref (v 4), .int 0, .int 0, .int 0, .int 0, .int 0, .int 0, .int (-1), .ref (v 5), .ref (v 6), .int 0, .int 0, .int 0, .ref (v 7), .ref (v 8), .int 0, .int 0, .ref (v 9), .ref (v 10), .ref (v 11), .ref (v 12), .ref (v 13), .ref (v 14)])), (v 11, .inl (g.2 0, 4, .inl mny)), (v 12, .inl (g.2 0, 4, .inl (fun _ => 0))), (v 13, .inl (g.2 3, 240, .inr (.inl (fun _ => 0))))]) FC hKn (c_X11_row l g qx (u 17) (u 0) (u 31) (u 32) (u 33) (u 34) (u 35) (u 36) (u 37) (u 38) (u 39) (u 82) (u 83) (u 84) (u 85) (u 86) (u 87) (u 88) (u 89) (fun _ => 0) (fun _ => 0) (fun _ => 0) (fun _ => 0) (xs 1) (xs 2) (xs 3)) m_yX11_row b_620 (ci := 11) rfl rfl rfl hP hD hS hA [0, 1, 2, 4, 6, 8, 3, 5, 7, 9] [10, 11, 12, 13] rfl (by decide) rfl (by decide) (by decide) rfl hl.1 rfl (Nat.le_of_ble_eq_true rfl) dL_law_2302 ⟨(Nat.le_of_ble_eq_true rfl), (Nat.le_of_ble_eq_true rfl)⟩ ⟨(Nat.le_of_ble_eq_true rfl), (Nat.le_of_ble_eq_true rfl)⟩ (fun u1 H locs _ hP hD hS => ?_)
  have hP : va_P g.1 vwCl [(qm, .inr (12, [.int 0, .ref (v 0), .ref (v 1), .ref (v 2), .ref (v 3), .int 0, .ref (v 4), .int 0, .int 0, .int 0, .int 0, .int 0, .int 0, .int (-1), .ref (v 5), .ref (v 6), .int 0, .int 0, .int 0, .ref (v 7), .ref (v 8), .int 0, .int 0, .ref (v 9), .ref (v 10), .ref (v 11), .ref (v 12), .ref (v 13), .ref (v 14)])), (v 11, .inl (g.2 0, 4, .inl mny)), (v 12, .inl (g.2 0, 4, .inl (fun _ => 0))), (v 13, .inl (g.2 3, 240, .inr (.inl (fun _ => 0))))] H := hP
  have hD : va_D (lA s) [(qm, .inr (12, [.int 0, .ref (v 0), .ref (v 1), .ref (v 2), .ref (v 3), .int 0, .ref (v 4), .int 0, .int 0, .int 0, .int 0, .int 0, .int 0, .int (-1), .ref (v 5), .ref (v 6), .int 0, .int 0, .int 0, .ref (v 7), .ref (v 8), .int 0, .int 0, .ref (v 9), .ref (v 10), .ref (v 11), .ref (v 12), .ref (v 13), .ref (v 14)])), (v 11, .inl (g.2 0, 4, .inl mny)), (v 12, .inl (g.2 0, 4, .inl (fun _ => 0))), (v 13, .inl (g.2 3, 240, .inr (.inl (fun _ => 0))))] := hD
  refine W.eq (g2 := F0 m 2305 ls [.int (sp_row (xs 1) (xs 2) (xs 3))]) rfl ?_
  refine lv_aload_n hx hb dL_law_2305 rfl (lv_at hl 1 rfl) ?_
  refine lv_aload_n hx hb dL_law_2306 rfl (lv_at hl 3 rfl) ?_
  refine lv_iload_n hx hb dL_law_2307 rfl (lv_at hl 0 rfl) ?_
  refine lv_iconst (v := 1) hx hb dL_law_2308 (by decide) ?_
  refine lv_iadd hx hb dL_law_2309 ?_
  refine tp_i (v := 1) (by decide) ?_
  refine va_sld hx hb hX hbl hbA hS (by unfold vp_in; decide) dL_law_2310 ?_
  refine tp_i (v := xs 1) rfl ?_
  refine lv_aload_n hx hb dL_law_2311 rfl (lv_at hl 3 rfl) ?_
  refine lv_iload_n hx hb dL_law_2312 rfl (lv_at hl 0 rfl) ?_
  refine lv_iconst (v := 2) hx hb dL_law_2313 (by decide) ?_
  refine lv_iadd hx hb dL_law_2314 ?_
  refine tp_i (v := 2) (by decide) ?_
  refine va_sld hx hb hX hbl hbA hS (by unfold vp_in; decide) dL_law_2315 ?_
  refine tp_i (v := xs 2) rfl ?_
  refine lv_aload_n hx hb dL_law_2316 rfl (lv_at hl 3 rfl) ?_
  refine lv_iload_n hx hb dL_law_2317 rfl (lv_at hl 0 rfl) ?_
  refine lv_iconst (v := 3) hx hb dL_law_2318 (by decide) ?_
  refine lv_iadd hx hb dL_law_2319 ?_
  refine tp_i (v := 3) (by decide) ?_
  refine va_sld hx hb hX hbl hbA hS (by unfold vp_in; decide) dL_law_2320 ?_
  refine tp_i (v := xs 3) rfl ?_
  refine call_V (As := [.int (xs 1), .int (xs 2), .int (xs 3)]) (rest := [.int (sp_row (xs 1) (xs 2) (xs 3))]) (wr := []) FC hKn (c_X12_row l g qm (v 0) (v 1) (v 2) (v 3) (v 4) (v 5) (v 6) (v 7) (v 8) (v 9) (v 10) (v 11) (v 12) (v 13) (v 14) (xs 1) (xs 2) (xs 3)) m_yX12_row b_621 (ci := 12) rfl rfl rfl hP hD hS hA [0, 1, 2, 3] [] rfl (by decide) rfl (by decide) (by decide) rfl hl.1 rfl (Nat.le_of_ble_eq_true rfl) dL_law_2321 ⟨(Nat.le_of_ble_eq_true rfl), (Nat.le_of_ble_eq_true rfl)⟩ ⟨(Nat.le_of_ble_eq_true rfl), (Nat.le_of_ble_eq_true rfl)⟩ (fun u2 H locs _ hP hD hS => ?_)
  have hP : va_P g.1 vwCl [] H := hP
  have hD : va_D (lA s) [] := hD
  refine W.eq (g2 := F0 m 2324 ls [.int (sp_row (xs 1) (xs 2) (xs 3)), .int (sp_row (xs 1) (xs 2) (xs 3))]) rfl ?_
  refine lv_icmp_eq (tgt := 2465) hx hb dL_law_2324 (by decide) (fun _ => ?_) (fun h => absurd rfl h)
  exact law_end C0 hS (lv_sub hl [0, 1, 2, 3] rfl) (Nat.le_of_ble_eq_true rfl) (Nat.le_of_ble_eq_true rfl)
set_option maxRecDepth 100000 in
set_option maxHeartbeats 4000000 in
/-- write -/
theorem law_69 {p : Program} {e : Env} {s : State} {m : MethodId} {below : List Frame} {meth : Method} {c : Code} {l : Launch} {g : GG} {b : Nat} {xs : Nat → Int32} (C0 : lw_At p s m meth c b 6 xs) (hKn : Kn g s) {H : Heap} {locs : List Loc} {ls : Array Slot} {qx qm : Nat} {u v : Nat → Nat} (hP : va_P g.1 vwCl (WX g qx u ++ WM g qm v) H) (hD : va_D (lA s) (WX g qx u ++ WM g qm v)) (hS : va_S (lA s) s.heap H locs) (hl : lv_has ls 4 [(3, .int 0), (2, .ref qm), (1, .ref qx), (0, .ref b)]) : W p l e room_1 s m #[Value.ref b] below meth c H locs 122 12079 (lw_Z below #[Value.ref b] s) (F0 m 2329 ls []) := by
  obtain ⟨hx, hb, hr, hml, hown, hts, hX, hbl, hlocks, hgv⟩ := id C0
  have hA : ∀ q : Nat, s.heap.size ≤ q → lA s q := fun _ h => h
  have hbA : ¬ lA s b := Nat.not_le.mpr hbl
  have hB : ∀ w ∈ BIG, w.before #[Value.ref b] s = true := fun w h => hts w (big_in w h)
  have FC : CallFix p m c cL_law 4 s #[Value.ref b] BIG RL := ⟨hx, hb, hml, hown, hB⟩
  have hP : va_P g.1 vwCl [(qx, .inr (11, [.ref (u 0), .ref (u 17), .ref (u 31), .ref (u 32), .ref (u 33), .ref (u 34), .ref (u 35), .ref (u 36), .ref (u 37), .ref (u 38), .ref (u 39)])), (u 33, .inl (g.2 5, 4, .inr (.inr (.inr (.inr (va_up (va_up (va_up (va_up (fun _ => none) 0 (some (u 82))) 1 (some (u 83))) 2 (some (u 84))) 3 (some (u 85)))))))), (u 82, .inr (8, [.ref (u 86), .int 0, .int 0, .int 0])), (u 83, .inr (8, [.ref (u 87), .int 0, .int 0, .int 0])), (u 84, .inr (8, [.ref (u 88), .int 0, .int 0, .int 0])), (u 85, .inr (8, [.ref (u 89), .int 0, .int 0, .int 0])), (qm, .inr (12, [.int 0, .ref (v 0), .ref (v 1), .ref (v 2), .ref (v 3), .int 0, .ref (v 4), .int 0, .int 0, .int 0, .int 0, .int 0, .int 0, .int (-1), .ref (v 5), .ref (v 6), .int 0, .int 0, .int 0, .ref (v 7), .ref (v 8), .int 0, .int 0, .ref (v 9), .ref (v 10), .ref (v 11), .ref (v 12), .ref (v 13), .ref (v 14)])), (v 11, .inl (g.2 0, 4, .inl mny))] H := hP.sub [0, 76, 77, 79, 81, 83, 85, 92] rfl
  have hD : va_D (lA s) [(qx, .inr (11, [.ref (u 0), .ref (u 17), .ref (u 31), .ref (u 32), .ref (u 33), .ref (u 34), .ref (u 35), .ref (u 36), .ref (u 37), .ref (u 38), .ref (u 39)])), (u 33, .inl (g.2 5, 4, .inr (.inr (.inr (.inr (va_up (va_up (va_up (va_up (fun _ => none) 0 (some (u 82))) 1 (some (u 83))) 2 (some (u 84))) 3 (some (u 85)))))))), (u 82, .inr (8, [.ref (u 86), .int 0, .int 0, .int 0])), (u 83, .inr (8, [.ref (u 87), .int 0, .int 0, .int 0])), (u 84, .inr (8, [.ref (u 88), .int 0, .int 0, .int 0])), (u 85, .inr (8, [.ref (u 89), .int 0, .int 0, .int 0])), (qm, .inr (12, [.int 0, .ref (v 0), .ref (v 1), .ref (v 2), .ref (v 3), .int 0, .ref (v 4), .int 0, .int 0, .int 0, .int 0, .int 0, .int 0, .int (-1), .ref (v 5), .ref (v 6), .int 0, .int 0, .int 0, .ref (v 7), .ref (v 8), .int 0, .int 0, .ref (v 9), .ref (v 10), .ref (v 11), .ref (v 12), .ref (v 13), .ref (v 14)])), (v 11, .inl (g.2 0, 4, .inl mny))] := hD.sub [0, 76, 77, 79, 81, 83, 85, 92] (by decide) rfl
  refine lv_aload_n hx hb dL_law_2329 rfl (lv_at hl 2 rfl) ?_
  refine lv_aload_n hx hb dL_law_2330 rfl (lv_at hl 3 rfl) ?_
  refine lv_iload_n hx hb dL_law_2331 rfl (lv_at hl 0 rfl) ?_
  refine lv_iconst (v := 1) hx hb dL_law_2332 (by decide) ?_
  refine lv_iadd hx hb dL_law_2333 ?_
  refine tp_i (v := 1) (by decide) ?_
  refine va_sld hx hb hX hbl hbA hS (by unfold vp_in; decide) dL_law_2334 ?_
  refine tp_i (v := xs 1) rfl ?_
  refine lv_aload_n hx hb dL_law_2335 rfl (lv_at hl 3 rfl) ?_
  refine lv_iload_n hx hb dL_law_2336 rfl (lv_at hl 0 rfl) ?_
  refine lv_iconst (v := 2) hx hb dL_law_2337 (by decide) ?_
  refine lv_iadd hx hb dL_law_2338 ?_
  refine tp_i (v := 2) (by decide) ?_
  refine va_sld hx hb hX hbl hbA hS (by unfold vp_in; decide) dL_law_2339 ?_
  refine tp_i (v := xs 2) rfl ?_
  refine lv_aload_n hx hb dL_law_2340 rfl (lv_at hl 3 rfl) ?_
  refine lv_iload_n hx hb dL_law_2341 rfl (lv_at hl 0 rfl) ?_
  refine lv_iconst (v := 3) hx hb dL_law_2342 (by decide) ?_
  refine lv_iadd hx hb dL_law_2343 ?_
  refine tp_i (v := 3) (by decide) ?_
  refine va_sld hx hb hX hbl hbA hS (by unfold vp_in; decide) dL_law_2344 ?_
  refine tp_i (v := xs 3) rfl ?_
  refine lv_i2l (v := (xs 3).toInt64) hx hb dL_law_2345 rfl ?_
  refine lv_bipush (v := 32) hx hb dL_law_2346 (by decide) ?_
  refine lv_lshl hx hb dL_law_2348 rfl ?_
  refine lv_topl (fun z1 e_z1 => ?_)
  refine lv_aload_n hx hb dL_law_2349 rfl (lv_at hl 3 rfl) ?_
  refine lv_iload_n hx hb dL_law_2350 rfl (lv_at hl 0 rfl) ?_
  refine lv_iconst (v := 4) hx hb dL_law_2351 (by decide) ?_
  refine lv_iadd hx hb dL_law_2352 ?_
  refine tp_i (v := 4) (by decide) ?_
  refine va_sld hx hb hX hbl hbA hS (by unfold vp_in; decide) dL_law_2353 ?_
  refine tp_i (v := xs 4) rfl ?_
  refine lv_i2l (v := (xs 4).toInt64) hx hb dL_law_2354 rfl ?_
  refine lv_ldc2 hx hb hown (hB _ b_622) dL_law_2355 ?_
  refine lv_land hx hb dL_law_2358 ?_
  refine lv_topl (fun z2 e_z2 => ?_)
  refine lv_lor hx hb dL_law_2359 ?_
  refine lv_topl (fun z3 e_z3 => ?_)
  refine call_V (As := [.int (xs 1), .int (xs 2), .long z3]) (rest := []) (wr := [(qm, .inr (12, [.int 0, .ref (v 0), .ref (v 1), .ref (v 2), .ref (v 3), .int 0, .ref (v 4), .int 0, .int 0, .int 0, .int 0, .int 0, .int 0, .int (-1), .ref (v 5), .ref (v 6), .int 0, .int 0, .int 0, .ref (v 7), .ref (v 8), .int 0, .int 0, .ref (v 9), .ref (v 10), .ref (v 11), .ref (v 12), .ref (v 13), .ref (v 14)])), (v 11, .inl (g.2 0, 4, .inl mny))]) FC hKn (c_X11_write l g qx (u 17) (u 0) (u 31) (u 32) (u 33) (u 34) (u 35) (u 36) (u 37) (u 38) (u 39) (u 82) (u 83) (u 84) (u 85) (u 86) (u 87) (u 88) (u 89) (xs 1) (xs 2) z3) m_yX11_write b_623 (ci := 11) rfl rfl rfl hP hD hS hA [0, 1, 2, 3, 4, 5] [6, 7] rfl (by decide) rfl (by decide) (by decide) rfl hl.1 rfl (Nat.le_of_ble_eq_true rfl) dL_law_2360 ⟨(Nat.le_of_ble_eq_true rfl), (Nat.le_of_ble_eq_true rfl)⟩ ⟨(Nat.le_of_ble_eq_true rfl), (Nat.le_of_ble_eq_true rfl)⟩ (fun u4 H locs _ hP hD hS => ?_)
  have hP : va_P g.1 vwCl [(qm, .inr (12, [.int 0, .ref (v 0), .ref (v 1), .ref (v 2), .ref (v 3), .int 0, .ref (v 4), .int 0, .int 0, .int 0, .int 0, .int 0, .int 0, .int (-1), .ref (v 5), .ref (v 6), .int 0, .int 0, .int 0, .ref (v 7), .ref (v 8), .int 0, .int 0, .ref (v 9), .ref (v 10), .ref (v 11), .ref (v 12), .ref (v 13), .ref (v 14)])), (v 11, .inl (g.2 0, 4, .inl mny))] H := hP
  have hD : va_D (lA s) [(qm, .inr (12, [.int 0, .ref (v 0), .ref (v 1), .ref (v 2), .ref (v 3), .int 0, .ref (v 4), .int 0, .int 0, .int 0, .int 0, .int 0, .int 0, .int (-1), .ref (v 5), .ref (v 6), .int 0, .int 0, .int 0, .ref (v 7), .ref (v 8), .int 0, .int 0, .ref (v 9), .ref (v 10), .ref (v 11), .ref (v 12), .ref (v 13), .ref (v 14)])), (v 11, .inl (g.2 0, 4, .inl mny))] := hD
  refine W.eq (g2 := F0 m 2363 ls [.int (sp_write (xs 1))]) rfl ?_
  refine lv_aload_n hx hb dL_law_2363 rfl (lv_at hl 1 rfl) ?_
  refine lv_aload_n hx hb dL_law_2364 rfl (lv_at hl 3 rfl) ?_
  refine lv_iload_n hx hb dL_law_2365 rfl (lv_at hl 0 rfl) ?_
  refine lv_iconst (v := 1) hx hb dL_law_2366 (by decide) ?_
  refine lv_iadd hx hb dL_law_2367 ?_
  refine tp_i (v := 1) (by decide) ?_
  refine va_sld hx hb hX hbl hbA hS (by unfold vp_in; decide) dL_law_2368 ?_
  refine tp_i (v := xs 1) rfl ?_
  refine lv_aload_n hx hb dL_law_2369 rfl (lv_at hl 3 rfl) ?_
  refine lv_iload_n hx hb dL_law_2370 rfl (lv_at hl 0 rfl) ?_
  refine lv_iconst (v := 2) hx hb dL_law_2371 (by decide) ?_
  refine lv_iadd hx hb dL_law_2372 ?_
  refine tp_i (v := 2) (by decide) ?_
  refine va_sld hx hb hX hbl hbA hS (by unfold vp_in; decide) dL_law_2373 ?_
  refine tp_i (v := xs 2) rfl ?_
  refine lv_aload_n hx hb dL_law_2374 rfl (lv_at hl 3 rfl) ?_
  refine lv_iload_n hx hb dL_law_2375 rfl (lv_at hl 0 rfl) ?_
  refine lv_iconst (v := 3) hx hb dL_law_2376 (by decide) ?_
  refine lv_iadd hx hb dL_law_2377 ?_
  refine tp_i (v := 3) (by decide) ?_
  refine va_sld hx hb hX hbl hbA hS (by unfold vp_in; decide) dL_law_2378 ?_
  refine tp_i (v := xs 3) rfl ?_
  refine lv_i2l (v := (xs 3).toInt64) hx hb dL_law_2379 rfl ?_
  refine lv_bipush (v := 32) hx hb dL_law_2380 (by decide) ?_
  refine lv_lshl hx hb dL_law_2382 rfl ?_
  refine lv_topl (fun z5 e_z5 => ?_)
  refine lv_aload_n hx hb dL_law_2383 rfl (lv_at hl 3 rfl) ?_
  refine lv_iload_n hx hb dL_law_2384 rfl (lv_at hl 0 rfl) ?_
  refine lv_iconst (v := 4) hx hb dL_law_2385 (by decide) ?_
  refine lv_iadd hx hb dL_law_2386 ?_
  refine tp_i (v := 4) (by decide) ?_
  refine va_sld hx hb hX hbl hbA hS (by unfold vp_in; decide) dL_law_2387 ?_
  refine tp_i (v := xs 4) rfl ?_
  refine lv_i2l (v := (xs 4).toInt64) hx hb dL_law_2388 rfl ?_
  refine lv_ldc2 hx hb hown (hB _ b_622) dL_law_2389 ?_
  refine lv_land hx hb dL_law_2392 ?_
  refine lv_topl (fun z6 e_z6 => ?_)
  refine lv_lor hx hb dL_law_2393 ?_
  refine lv_topl (fun z7 e_z7 => ?_)
  refine call_V (As := [.int (xs 1), .int (xs 2), .long z7]) (rest := [.int (sp_write (xs 1))]) (wr := []) FC hKn (c_X12_write l g qm (v 0) (v 1) (v 2) (v 3) (v 4) (v 5) (v 6) (v 7) (v 8) (v 9) (v 10) (v 11) (v 12) (v 13) (v 14) (xs 1) (xs 2) z7) m_yX12_write b_624 (ci := 12) rfl rfl rfl hP hD hS hA [0, 1] [] rfl (by decide) rfl (by decide) (by decide) rfl hl.1 rfl (Nat.le_of_ble_eq_true rfl) dL_law_2394 ⟨(Nat.le_of_ble_eq_true rfl), (Nat.le_of_ble_eq_true rfl)⟩ ⟨(Nat.le_of_ble_eq_true rfl), (Nat.le_of_ble_eq_true rfl)⟩ (fun u8 H locs _ hP hD hS => ?_)
  have hP : va_P g.1 vwCl [] H := hP
  have hD : va_D (lA s) [] := hD
  refine W.eq (g2 := F0 m 2397 ls [.int (sp_write (xs 1)), .int (sp_write (xs 1))]) rfl ?_
  refine lv_icmp_eq (tgt := 2465) hx hb dL_law_2397 (by decide) (fun _ => ?_) (fun h => absurd rfl h)
  exact law_end C0 hS (lv_sub hl [0, 1, 2, 3] rfl) (Nat.le_of_ble_eq_true rfl) (Nat.le_of_ble_eq_true rfl)
set_option maxRecDepth 100000 in
set_option maxHeartbeats 4000000 in
/-- paste -/
theorem law_70 {p : Program} {e : Env} {s : State} {m : MethodId} {below : List Frame} {meth : Method} {c : Code} {l : Launch} {g : GG} {b : Nat} {xs : Nat → Int32} (C0 : lw_At p s m meth c b 6 xs) (hKn : Kn g s) {H : Heap} {locs : List Loc} {ls : Array Slot} {qx qm : Nat} {u v : Nat → Nat} (hP : va_P g.1 vwCl (WX g qx u ++ WM g qm v) H) (hD : va_D (lA s) (WX g qx u ++ WM g qm v)) (hS : va_S (lA s) s.heap H locs) (hl : lv_has ls 4 [(3, .int 0), (2, .ref qm), (1, .ref qx), (0, .ref b)]) : W p l e room_1 s m #[Value.ref b] below meth c H locs 122 12079 (lw_Z below #[Value.ref b] s) (F0 m 2402 ls []) := by
  obtain ⟨hx, hb, hr, hml, hown, hts, hX, hbl, hlocks, hgv⟩ := id C0
  have hA : ∀ q : Nat, s.heap.size ≤ q → lA s q := fun _ h => h
  have hbA : ¬ lA s b := Nat.not_le.mpr hbl
  have hB : ∀ w ∈ BIG, w.before #[Value.ref b] s = true := fun w h => hts w (big_in w h)
  have FC : CallFix p m c cL_law 4 s #[Value.ref b] BIG RL := ⟨hx, hb, hml, hown, hB⟩
  have hP : va_P g.1 vwCl [(qx, .inr (11, [.ref (u 0), .ref (u 17), .ref (u 31), .ref (u 32), .ref (u 33), .ref (u 34), .ref (u 35), .ref (u 36), .ref (u 37), .ref (u 38), .ref (u 39)])), (u 33, .inl (g.2 5, 4, .inr (.inr (.inr (.inr (va_up (va_up (va_up (va_up (fun _ => none) 0 (some (u 82))) 1 (some (u 83))) 2 (some (u 84))) 3 (some (u 85)))))))), (u 82, .inr (8, [.ref (u 86), .int 0, .int 0, .int 0])), (u 83, .inr (8, [.ref (u 87), .int 0, .int 0, .int 0])), (u 84, .inr (8, [.ref (u 88), .int 0, .int 0, .int 0])), (u 85, .inr (8, [.ref (u 89), .int 0, .int 0, .int 0])), (qm, .inr (12, [.int 0, .ref (v 0), .ref (v 1), .ref (v 2), .ref (v 3), .int 0, .ref (v 4), .int 0, .int 0, .int 0, .int 0, .int 0, .int 0, .int (-1), .ref (v 5), .ref (v 6), .int 0, .int 0, .int 0, .ref (v 7), .ref (v 8), .int 0, .int 0, .ref (v 9), .ref (v 10), .ref (v 11), .ref (v 12), .ref (v 13), .ref (v 14)])), (v 11, .inl (g.2 0, 4, .inl mny))] H := hP.sub [0, 76, 77, 79, 81, 83, 85, 92] rfl
  have hD : va_D (lA s) [(qx, .inr (11, [.ref (u 0), .ref (u 17), .ref (u 31), .ref (u 32), .ref (u 33), .ref (u 34), .ref (u 35), .ref (u 36), .ref (u 37), .ref (u 38), .ref (u 39)])), (u 33, .inl (g.2 5, 4, .inr (.inr (.inr (.inr (va_up (va_up (va_up (va_up (fun _ => none) 0 (some (u 82))) 1 (some (u 83))) 2 (some (u 84))) 3 (some (u 85)))))))), (u 82, .inr (8, [.ref (u 86), .int 0, .int 0, .int 0])), (u 83, .inr (8, [.ref (u 87), .int 0, .int 0, .int 0])), (u 84, .inr (8, [.ref (u 88), .int 0, .int 0, .int 0])), (u 85, .inr (8, [.ref (u 89), .int 0, .int 0, .int 0])), (qm, .inr (12, [.int 0, .ref (v 0), .ref (v 1), .ref (v 2), .ref (v 3), .int 0, .ref (v 4), .int 0, .int 0, .int 0, .int 0, .int 0, .int 0, .int (-1), .ref (v 5), .ref (v 6), .int 0, .int 0, .int 0, .ref (v 7), .ref (v 8), .int 0, .int 0, .ref (v 9), .ref (v 10), .ref (v 11), .ref (v 12), .ref (v 13), .ref (v 14)])), (v 11, .inl (g.2 0, 4, .inl mny))] := hD.sub [0, 76, 77, 79, 81, 83, 85, 92] (by decide) rfl
  refine lv_aload_n hx hb dL_law_2402 rfl (lv_at hl 2 rfl) ?_
  refine lv_aload_n hx hb dL_law_2403 rfl (lv_at hl 3 rfl) ?_
  refine lv_iload_n hx hb dL_law_2404 rfl (lv_at hl 0 rfl) ?_
  refine lv_iconst (v := 1) hx hb dL_law_2405 (by decide) ?_
  refine lv_iadd hx hb dL_law_2406 ?_
  refine tp_i (v := 1) (by decide) ?_
  refine va_sld hx hb hX hbl hbA hS (by unfold vp_in; decide) dL_law_2407 ?_
  refine tp_i (v := xs 1) rfl ?_
  refine lv_aload_n hx hb dL_law_2408 rfl (lv_at hl 3 rfl) ?_
  refine lv_iload_n hx hb dL_law_2409 rfl (lv_at hl 0 rfl) ?_
  refine lv_iconst (v := 2) hx hb dL_law_2410 (by decide) ?_
  refine lv_iadd hx hb dL_law_2411 ?_
  refine tp_i (v := 2) (by decide) ?_
  refine va_sld hx hb hX hbl hbA hS (by unfold vp_in; decide) dL_law_2412 ?_
  refine tp_i (v := xs 2) rfl ?_
  refine lv_aload_n hx hb dL_law_2413 rfl (lv_at hl 3 rfl) ?_
  refine lv_iload_n hx hb dL_law_2414 rfl (lv_at hl 0 rfl) ?_
  refine lv_iconst (v := 3) hx hb dL_law_2415 (by decide) ?_
  refine lv_iadd hx hb dL_law_2416 ?_
  refine tp_i (v := 3) (by decide) ?_
  refine va_sld hx hb hX hbl hbA hS (by unfold vp_in; decide) dL_law_2417 ?_
  refine tp_i (v := xs 3) rfl ?_
  refine lv_aload_n hx hb dL_law_2418 rfl (lv_at hl 3 rfl) ?_
  refine lv_iload_n hx hb dL_law_2419 rfl (lv_at hl 0 rfl) ?_
  refine lv_iconst (v := 4) hx hb dL_law_2420 (by decide) ?_
  refine lv_iadd hx hb dL_law_2421 ?_
  refine tp_i (v := 4) (by decide) ?_
  refine va_sld hx hb hX hbl hbA hS (by unfold vp_in; decide) dL_law_2422 ?_
  refine tp_i (v := xs 4) rfl ?_
  refine lv_aload_n hx hb dL_law_2423 rfl (lv_at hl 3 rfl) ?_
  refine lv_iload_n hx hb dL_law_2424 rfl (lv_at hl 0 rfl) ?_
  refine lv_iconst (v := 5) hx hb dL_law_2425 (by decide) ?_
  refine lv_iadd hx hb dL_law_2426 ?_
  refine tp_i (v := 5) (by decide) ?_
  refine va_sld hx hb hX hbl hbA hS (by unfold vp_in; decide) dL_law_2427 ?_
  refine tp_i (v := xs 5) rfl ?_
  refine call_V (As := [.int (xs 1), .int (xs 2), .int (xs 3), .int (xs 4), .int (xs 5)]) (rest := []) (wr := [(qm, .inr (12, [.int 0, .ref (v 0), .ref (v 1), .ref (v 2), .ref (v 3), .int 0, .ref (v 4), .int 0, .int 0, .int 0, .int 0, .int 0, .int 0, .int (-1), .ref (v 5), .ref (v 6), .int 0, .int 0, .int 0, .ref (v 7), .ref (v 8), .int 0, .int 0, .ref (v 9), .ref (v 10), .ref (v 11), .ref (v 12), .ref (v 13), .ref (v 14)])), (v 11, .inl (g.2 0, 4, .inl mny))]) FC hKn (c_X11_paste l g qx (u 17) (u 0) (u 31) (u 32) (u 33) (u 34) (u 35) (u 36) (u 37) (u 38) (u 39) (u 82) (u 83) (u 84) (u 85) (u 86) (u 87) (u 88) (u 89) (xs 1) (xs 2) (xs 3) (xs 4) (xs 5)) m_yX11_paste b_625 (ci := 11) rfl rfl rfl hP hD hS hA [0, 1, 2, 3, 4, 5] [6, 7] rfl (by decide) rfl (by decide) (by decide) rfl hl.1 rfl (Nat.le_of_ble_eq_true rfl) dL_law_2428 ⟨(Nat.le_of_ble_eq_true rfl), (Nat.le_of_ble_eq_true rfl)⟩ ⟨(Nat.le_of_ble_eq_true rfl), (Nat.le_of_ble_eq_true rfl)⟩ (fun u1 H locs _ hP hD hS => ?_)
  have hP : va_P g.1 vwCl [(qm, .inr (12, [.int 0, .ref (v 0), .ref (v 1), .ref (v 2), .ref (v 3), .int 0, .ref (v 4), .int 0, .int 0, .int 0, .int 0, .int 0, .int 0, .int (-1), .ref (v 5), .ref (v 6), .int 0, .int 0, .int 0, .ref (v 7), .ref (v 8), .int 0, .int 0, .ref (v 9), .ref (v 10), .ref (v 11), .ref (v 12), .ref (v 13), .ref (v 14)])), (v 11, .inl (g.2 0, 4, .inl mny))] H := hP
  have hD : va_D (lA s) [(qm, .inr (12, [.int 0, .ref (v 0), .ref (v 1), .ref (v 2), .ref (v 3), .int 0, .ref (v 4), .int 0, .int 0, .int 0, .int 0, .int 0, .int 0, .int (-1), .ref (v 5), .ref (v 6), .int 0, .int 0, .int 0, .ref (v 7), .ref (v 8), .int 0, .int 0, .ref (v 9), .ref (v 10), .ref (v 11), .ref (v 12), .ref (v 13), .ref (v 14)])), (v 11, .inl (g.2 0, 4, .inl mny))] := hD
  refine W.eq (g2 := F0 m 2431 ls [.int (sp_paste (xs 1) (xs 3))]) rfl ?_
  refine lv_aload_n hx hb dL_law_2431 rfl (lv_at hl 1 rfl) ?_
  refine lv_aload_n hx hb dL_law_2432 rfl (lv_at hl 3 rfl) ?_
  refine lv_iload_n hx hb dL_law_2433 rfl (lv_at hl 0 rfl) ?_
  refine lv_iconst (v := 1) hx hb dL_law_2434 (by decide) ?_
  refine lv_iadd hx hb dL_law_2435 ?_
  refine tp_i (v := 1) (by decide) ?_
  refine va_sld hx hb hX hbl hbA hS (by unfold vp_in; decide) dL_law_2436 ?_
  refine tp_i (v := xs 1) rfl ?_
  refine lv_aload_n hx hb dL_law_2437 rfl (lv_at hl 3 rfl) ?_
  refine lv_iload_n hx hb dL_law_2438 rfl (lv_at hl 0 rfl) ?_
  refine lv_iconst (v := 2) hx hb dL_law_2439 (by decide) ?_
  refine lv_iadd hx hb dL_law_2440 ?_
  refine tp_i (v := 2) (by decide) ?_
  refine va_sld hx hb hX hbl hbA hS (by unfold vp_in; decide) dL_law_2441 ?_
  refine tp_i (v := xs 2) rfl ?_
  refine lv_aload_n hx hb dL_law_2442 rfl (lv_at hl 3 rfl) ?_
  refine lv_iload_n hx hb dL_law_2443 rfl (lv_at hl 0 rfl) ?_
  refine lv_iconst (v := 3) hx hb dL_law_2444 (by decide) ?_
  refine lv_iadd hx hb dL_law_2445 ?_
  refine tp_i (v := 3) (by decide) ?_
  refine va_sld hx hb hX hbl hbA hS (by unfold vp_in; decide) dL_law_2446 ?_
  refine tp_i (v := xs 3) rfl ?_
  refine lv_aload_n hx hb dL_law_2447 rfl (lv_at hl 3 rfl) ?_
  refine lv_iload_n hx hb dL_law_2448 rfl (lv_at hl 0 rfl) ?_
  refine lv_iconst (v := 4) hx hb dL_law_2449 (by decide) ?_
  refine lv_iadd hx hb dL_law_2450 ?_
  refine tp_i (v := 4) (by decide) ?_
  refine va_sld hx hb hX hbl hbA hS (by unfold vp_in; decide) dL_law_2451 ?_
  refine tp_i (v := xs 4) rfl ?_
  refine lv_aload_n hx hb dL_law_2452 rfl (lv_at hl 3 rfl) ?_
  refine lv_iload_n hx hb dL_law_2453 rfl (lv_at hl 0 rfl) ?_
  refine lv_iconst (v := 5) hx hb dL_law_2454 (by decide) ?_
  refine lv_iadd hx hb dL_law_2455 ?_
  refine tp_i (v := 5) (by decide) ?_
  refine va_sld hx hb hX hbl hbA hS (by unfold vp_in; decide) dL_law_2456 ?_
  refine tp_i (v := xs 5) rfl ?_
  refine call_V (As := [.int (xs 1), .int (xs 2), .int (xs 3), .int (xs 4), .int (xs 5)]) (rest := [.int (sp_paste (xs 1) (xs 3))]) (wr := []) FC hKn (c_X12_paste l g qm (v 0) (v 1) (v 2) (v 3) (v 4) (v 5) (v 6) (v 7) (v 8) (v 9) (v 10) (v 11) (v 12) (v 13) (v 14) (xs 1) (xs 2) (xs 3) (xs 4) (xs 5)) m_yX12_paste b_626 (ci := 12) rfl rfl rfl hP hD hS hA [0, 1] [] rfl (by decide) rfl (by decide) (by decide) rfl hl.1 rfl (Nat.le_of_ble_eq_true rfl) dL_law_2457 ⟨(Nat.le_of_ble_eq_true rfl), (Nat.le_of_ble_eq_true rfl)⟩ ⟨(Nat.le_of_ble_eq_true rfl), (Nat.le_of_ble_eq_true rfl)⟩ (fun u2 H locs _ hP hD hS => ?_)
  have hP : va_P g.1 vwCl [] H := hP
  have hD : va_D (lA s) [] := hD
  refine W.eq (g2 := F0 m 2460 ls [.int (sp_paste (xs 1) (xs 3)), .int (sp_paste (xs 1) (xs 3))]) rfl ?_
  refine lv_icmp_eq (tgt := 2465) hx hb dL_law_2460 (by decide) (fun _ => ?_) (fun h => absurd rfl h)
  exact law_end C0 hS (lv_sub hl [0, 1, 2, 3] rfl) (Nat.le_of_ble_eq_true rfl) (Nat.le_of_ble_eq_true rfl)
