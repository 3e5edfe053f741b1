set_option maxRecDepth 100000 in
set_option maxHeartbeats 4000000 in
theorem law_loop {p : Program} {e : Env} {s : State} {m : MethodId} {below : List Frame} {meth : Method} {c : Code} {l : Launch} {g : GG} {b L : Nat} {xs : Nat → Int32} (hL : L ≤ 3072) (C0 : lw_At p s m meth c b L xs) (hKn : Kn g s) (hZ : SZ g (lA s) s) {qx qm : Nat} {u v : Nat → Nat} : ∀ (n : Nat) (x y : XS) (i : Int32) (H : Heap) (locs : List Loc) (ls : Array Slot), ((L : Int) - i.toInt + 6).toNat < n → 0 ≤ i.toInt → i.toInt ≤ L + 6 → OX x → OM y → OR_ x y → va_P g.1 vwCl (WX g qx u x ++ WM g qm v y) H → va_D (lA s) (WX g qx u x ++ WM g qm v y) → va_S (lA s) s.heap H locs → lv_has ls 4 [(3, .int i), (2, .ref qm), (1, .ref qx), (0, .ref b)] → W p l e room_1 s m #[Value.ref b] below meth c H locs 122 12079 (lw_Z below #[Value.ref b] s) (F0 m 18 ls []) := by
  obtain ⟨hx, hb, hr, hml, hown, hts, hX, hbl, hlocks, hgv⟩ := id C0
  have hbA : ¬ lA s b := Nat.not_le.mpr hbl
  intro n
  induction n with
  | zero =>
    intro x y i H locs ls hn
    exact absurd hn (Nat.not_lt_zero _)
  | succ n ih =>
    intro x y i H locs ls hn hi0 hiL hOx hOy hOr hP hD hS hl
    refine lv_iload_n hx hb dL_law_18 rfl (lv_at hl 0 rfl) ?_
    refine lv_aload_n hx hb dL_law_19 rfl (lv_at hl 3 rfl) ?_
    refine va_slen hx hb hX hbl hbA hS dL_law_20 ?_
    refine lv_bipush (v := 6) hx hb dL_law_21 (by decide) ?_
    refine lv_isub hx hb dL_law_23 ?_
    refine lv_topi (fun z e_z => ?_)
    have tL : (Int32.ofNat L).toInt = (L : Int) := nI_toInt (n := L) (by omega)
    have t6 : (6 : Int32).toInt = 6 := by decide
    have t_z : z.toInt = (L : Int) - 6 := by rw [e_z, fb_subI (by omega) (by omega)]; omega
    refine lv_icmp_gt (tgt := 2471) hx hb dL_law_24 (by decide) (fun c1 => ?_) (fun c1 => ?_)
    · refine lv_iconst (v := 1) hx hb dL_law_2471 (by decide) ?_
      refine va_forget (fun q hq => hS.2.2 q hq) ?_
      refine W.widen (k := 600000) (n := 7302250) (Nat.le_of_ble_eq_true rfl) (Nat.le_of_ble_eq_true rfl) ?_
      exact lw_ret hx hb hr hlocks dL_law_2472
    · have c2 := k_nlt (a := z.toInt) (b := i.toInt) rfl rfl c1
      have hi6 : i.toInt + 6 ≤ L := by omega
      refine lv_aload_n hx hb dL_law_27 rfl (lv_at hl 3 rfl) ?_
      refine lv_iload_n hx hb dL_law_28 rfl (lv_at hl 0 rfl) ?_
      refine va_sld hx hb hX hbl hbA hS (vp_in_iff.mpr ⟨by omega, by omega⟩) dL_law_29 ?_
      refine lv_bipush (v := 127) hx hb dL_law_30 (by decide) ?_
      refine lv_iand hx hb dL_law_32 ?_
      obtain ⟨j, hj, ej⟩ := pk_andE (xs i.toNatClampNeg) (m := 127) 7 (by decide)
      refine tp_i (v := nI j) ej ?_
      have kk : ∀ (x y : XS) (H : Heap) (locs : List Loc) (ls : Array Slot), OX x → OM y → OR_ x y → (va_P g.1 vwCl (WX g qx u x ++ WM g qm v y) H ∧ va_D (lA s) (WX g qx u x ++ WM g qm v y)) → va_S (lA s) s.heap H locs → lv_has ls 4 [(3, .int i), (2, .ref qm), (1, .ref qx), (0, .ref b)] → W p l e room_1 s m #[Value.ref b] below meth c H locs 122 12079 (lw_Z below #[Value.ref b] s) (F0 m 2465 ls []) := by
        intro x y H locs ls hOx hOy hOr hPD hS hl
        obtain ⟨hP, hD⟩ := hPD
        obtain ⟨w, e_w⟩ : ∃ w : Int32, w = i + 6 := ⟨_, rfl⟩
        have t_w : w.toInt = i.toInt + 6 := by rw [e_w]; exact addk (by decide) (by omega) (by omega)
        refine lv_iinc (v := w) (lv' := [(3, .int w), (2, .ref qm), (1, .ref qx), (0, .ref b)]) hx hb dL_law_2465 hl (k := 0) rfl (by rw [e_w]; rfl) (by decide) rfl (fun ls hl => ?_)
        refine lv_goto (tgt := 18) hx hb dL_law_2468 (by decide) ?_
        exact ih x y w _ _ ls (by omega) (by omega) (by omega) hOx hOy hOr hP hD hS hl
      rcases Nat.lt_or_ge 70 j with h7 | h7
      · refine lv_tableOut (tgt := 2465) hx hb dL_law_33 (Or.inr (by rw [nI_toInt (by omega)]; omega)) (by decide) ?_
        exact kk x y _ _ ls hOx hOy hOr ⟨hP, hD⟩ hS hl
      · match j, h7 with
        | 0, _ => exact lv_tableIn (tgt := 332) (off := 299) hx hb dL_law_33 (by decide) (by decide) (by decide) (by decide) (law_0 hL C0 hKn hZ hi0 hi6 hOx hOy hOr hP hD hS hl kk)
        | 1, _ => exact lv_tableIn (tgt := 395) (off := 362) hx hb dL_law_33 (by decide) (by decide) (by decide) (by decide) (law_1 hL C0 hKn hZ hi0 hi6 hOx hOy hOr hP hD hS hl kk)
        | 2, _ => exact lv_tableIn (tgt := 418) (off := 385) hx hb dL_law_33 (by decide) (by decide) (by decide) (by decide) (law_2 hL C0 hKn hZ hi0 hi6 hOx hOy hOr hP hD hS hl kk)
        | 3, _ => exact lv_tableIn (tgt := 431) (off := 398) hx hb dL_law_33 (by decide) (by decide) (by decide) (by decide) (law_3 hL C0 hKn hZ hi0 hi6 hOx hOy hOr hP hD hS hl kk)
        | 4, _ => exact lv_tableIn (tgt := 454) (off := 421) hx hb dL_law_33 (by decide) (by decide) (by decide) (by decide) (law_4 hL C0 hKn hZ hi0 hi6 hOx hOy hOr hP hD hS hl kk)
        | 5, _ => exact lv_tableIn (tgt := 477) (off := 444) hx hb dL_law_33 (by decide) (by decide) (by decide) (by decide) (law_5 hL C0 hKn hZ hi0 hi6 hOx hOy hOr hP hD hS hl kk)
        | 6, _ => exact lv_tableIn (tgt := 510) (off := 477) hx hb dL_law_33 (by decide) (by decide) (by decide) (by decide) (law_6 hL C0 hKn hZ hi0 hi6 hOx hOy hOr hP hD hS hl kk)
        | 7, _ => exact lv_tableIn (tgt := 543) (off := 510) hx hb dL_law_33 (by decide) (by decide) (by decide) (by decide) (law_7 hL C0 hKn hZ hi0 hi6 hOx hOy hOr hP hD hS hl kk)
        | 8, _ => exact lv_tableIn (tgt := 576) (off := 543) hx hb dL_law_33 (by decide) (by decide) (by decide) (by decide) (law_8 hL C0 hKn hZ hi0 hi6 hOx hOy hOr hP hD hS hl kk)
        | 9, _ => exact lv_tableIn (tgt := 599) (off := 566) hx hb dL_law_33 (by decide) (by decide) (by decide) (by decide) (law_9 hL C0 hKn hZ hi0 hi6 hOx hOy hOr hP hD hS hl kk)
        | 10, _ => exact lv_tableIn (tgt := 622) (off := 589) hx hb dL_law_33 (by decide) (by decide) (by decide) (by decide) (law_10 hL C0 hKn hZ hi0 hi6 hOx hOy hOr hP hD hS hl kk)
        | 11, _ => exact lv_tableIn (tgt := 655) (off := 622) hx hb dL_law_33 (by decide) (by decide) (by decide) (by decide) (law_11 hL C0 hKn hZ hi0 hi6 hOx hOy hOr hP hD hS hl kk)
        | 12, _ => exact lv_tableIn (tgt := 708) (off := 675) hx hb dL_law_33 (by decide) (by decide) (by decide) (by decide) (law_12 hL C0 hKn hZ hi0 hi6 hOx hOy hOr hP hD hS hl kk)
        | 13, _ => exact lv_tableIn (tgt := 741) (off := 708) hx hb dL_law_33 (by decide) (by decide) (by decide) (by decide) (law_13 hL C0 hKn hZ hi0 hi6 hOx hOy hOr hP hD hS hl kk)
        | 14, _ => exact lv_tableIn (tgt := 784) (off := 751) hx hb dL_law_33 (by decide) (by decide) (by decide) (by decide) (law_14 hL C0 hKn hZ hi0 hi6 hOx hOy hOr hP hD hS hl kk)
        | 15, _ => exact lv_tableIn (tgt := 817) (off := 784) hx hb dL_law_33 (by decide) (by decide) (by decide) (by decide) (law_15 hL C0 hKn hZ hi0 hi6 hOx hOy hOr hP hD hS hl kk)
        | 16, _ => exact lv_tableIn (tgt := 840) (off := 807) hx hb dL_law_33 (by decide) (by decide) (by decide) (by decide) (law_16 hL C0 hKn hZ hi0 hi6 hOx hOy hOr hP hD hS hl kk)
        | 17, _ => exact lv_tableIn (tgt := 873) (off := 840) hx hb dL_law_33 (by decide) (by decide) (by decide) (by decide) (law_17 hL C0 hKn hZ hi0 hi6 hOx hOy hOr hP hD hS hl kk)
        | 18, _ => exact lv_tableIn (tgt := 906) (off := 873) hx hb dL_law_33 (by decide) (by decide) (by decide) (by decide) (law_18 hL C0 hKn hZ hi0 hi6 hOx hOy hOr hP hD hS hl kk)
        | 19, _ => exact lv_tableIn (tgt := 939) (off := 906) hx hb dL_law_33 (by decide) (by decide) (by decide) (by decide) (law_19 hL C0 hKn hZ hi0 hi6 hOx hOy hOr hP hD hS hl kk)
        | 20, _ => exact lv_tableIn (tgt := 962) (off := 929) hx hb dL_law_33 (by decide) (by decide) (by decide) (by decide) (law_20 hL C0 hKn hZ hi0 hi6 hOx hOy hOr hP hD hS hl kk)
        | 21, _ => exact lv_tableIn (tgt := 985) (off := 952) hx hb dL_law_33 (by decide) (by decide) (by decide) (by decide) (law_21 hL C0 hKn hZ hi0 hi6 hOx hOy hOr hP hD hS hl kk)
        | 22, _ => exact lv_tableIn (tgt := 1008) (off := 975) hx hb dL_law_33 (by decide) (by decide) (by decide) (by decide) (law_22 hL C0 hKn hZ hi0 hi6 hOx hOy hOr hP hD hS hl kk)
        | 23, _ => exact lv_tableIn (tgt := 1041) (off := 1008) hx hb dL_law_33 (by decide) (by decide) (by decide) (by decide) (law_23 hL C0 hKn hZ hi0 hi6 hOx hOy hOr hP hD hS hl kk)
        | 24, _ => exact lv_tableIn (tgt := 1084) (off := 1051) hx hb dL_law_33 (by decide) (by decide) (by decide) (by decide) (law_24 hL C0 hKn hZ hi0 hi6 hOx hOy hOr hP hD hS hl kk)
        | 25, _ => exact lv_tableIn (tgt := 1107) (off := 1074) hx hb dL_law_33 (by decide) (by decide) (by decide) (by decide) (law_25 hL C0 hKn hZ hi0 hi6 hOx hOy hOr hP hD hS hl kk)
        | 26, _ => exact lv_tableIn (tgt := 1130) (off := 1097) hx hb dL_law_33 (by decide) (by decide) (by decide) (by decide) (law_26 hL C0 hKn hZ hi0 hi6 hOx hOy hOr hP hD hS hl kk)
        | 27, _ => exact lv_tableIn (tgt := 1163) (off := 1130) hx hb dL_law_33 (by decide) (by decide) (by decide) (by decide) (law_27 hL C0 hKn hZ hi0 hi6 hOx hOy hOr hP hD hS hl kk)
        | 28, _ => exact lv_tableIn (tgt := 1186) (off := 1153) hx hb dL_law_33 (by decide) (by decide) (by decide) (by decide) (law_28 hL C0 hKn hZ hi0 hi6 hOx hOy hOr hP hD hS hl kk)
        | 29, _ => exact lv_tableIn (tgt := 1219) (off := 1186) hx hb dL_law_33 (by decide) (by decide) (by decide) (by decide) (law_29 hL C0 hKn hZ hi0 hi6 hOx hOy hOr hP hD hS hl kk)
        | 30, _ => exact lv_tableIn (tgt := 1242) (off := 1209) hx hb dL_law_33 (by decide) (by decide) (by decide) (by decide) (law_30 hL C0 hKn hZ hi0 hi6 hOx hOy hOr hP hD hS hl kk)
        | 31, _ => exact lv_tableIn (tgt := 1275) (off := 1242) hx hb dL_law_33 (by decide) (by decide) (by decide) (by decide) (law_31 hL C0 hKn hZ hi0 hi6 hOx hOy hOr hP hD hS hl kk)
        | 32, _ => exact lv_tableIn (tgt := 1298) (off := 1265) hx hb dL_law_33 (by decide) (by decide) (by decide) (by decide) (law_32 hL C0 hKn hZ hi0 hi6 hOx hOy hOr hP hD hS hl kk)
        | 33, _ => exact lv_tableIn (tgt := 1331) (off := 1298) hx hb dL_law_33 (by decide) (by decide) (by decide) (by decide) (law_33 hL C0 hKn hZ hi0 hi6 hOx hOy hOr hP hD hS hl kk)
        | 34, _ => exact lv_tableIn (tgt := 1384) (off := 1351) hx hb dL_law_33 (by decide) (by decide) (by decide) (by decide) (law_34 hL C0 hKn hZ hi0 hi6 hOx hOy hOr hP hD hS hl kk)
        | 35, _ => exact lv_tableIn (tgt := 1397) (off := 1364) hx hb dL_law_33 (by decide) (by decide) (by decide) (by decide) (law_35 hL C0 hKn hZ hi0 hi6 hOx hOy hOr hP hD hS hl kk)
        | 36, _ => exact lv_tableIn (tgt := 1420) (off := 1387) hx hb dL_law_33 (by decide) (by decide) (by decide) (by decide) (law_36 hL C0 hKn hZ hi0 hi6 hOx hOy hOr hP hD hS hl kk)
        | 37, _ => exact lv_tableIn (tgt := 1453) (off := 1420) hx hb dL_law_33 (by decide) (by decide) (by decide) (by decide) (law_37 hL C0 hKn hZ hi0 hi6 hOx hOy hOr hP hD hS hl kk)
        | 38, _ => exact lv_tableIn (tgt := 1486) (off := 1453) hx hb dL_law_33 (by decide) (by decide) (by decide) (by decide) (law_38 hL C0 hKn hZ hi0 hi6 hOx hOy hOr hP hD hS hl kk)
        | 39, _ => exact lv_tableIn (tgt := 1509) (off := 1476) hx hb dL_law_33 (by decide) (by decide) (by decide) (by decide) (law_39 hL C0 hKn hZ hi0 hi6 hOx hOy hOr hP hD hS hl kk)
        | 40, _ => exact lv_tableIn (tgt := 1522) (off := 1489) hx hb dL_law_33 (by decide) (by decide) (by decide) (by decide) (law_40 hL C0 hKn hZ hi0 hi6 hOx hOy hOr hP hD hS hl kk)
        | 41, _ => exact lv_tableIn (tgt := 1535) (off := 1502) hx hb dL_law_33 (by decide) (by decide) (by decide) (by decide) (law_41 hL C0 hKn hZ hi0 hi6 hOx hOy hOr hP hD hS hl kk)
        | 42, _ => exact lv_tableIn (tgt := 1558) (off := 1525) hx hb dL_law_33 (by decide) (by decide) (by decide) (by decide) (law_42 hL C0 hKn hZ hi0 hi6 hOx hOy hOr hP hD hS hl kk)
        | 43, _ => exact lv_tableIn (tgt := 1591) (off := 1558) hx hb dL_law_33 (by decide) (by decide) (by decide) (by decide) (law_43 hL C0 hKn hZ hi0 hi6 hOx hOy hOr hP hD hS hl kk)
        | 44, _ => exact lv_tableIn (tgt := 1624) (off := 1591) hx hb dL_law_33 (by decide) (by decide) (by decide) (by decide) (law_44 hL C0 hKn hZ hi0 hi6 hOx hOy hOr hP hD hS hl kk)
        | 45, _ => exact lv_tableIn (tgt := 1647) (off := 1614) hx hb dL_law_33 (by decide) (by decide) (by decide) (by decide) (law_45 hL C0 hKn hZ hi0 hi6 hOx hOy hOr hP hD hS hl kk)
        | 46, _ => exact lv_tableIn (tgt := 1690) (off := 1657) hx hb dL_law_33 (by decide) (by decide) (by decide) (by decide) (law_46 hL C0 hKn hZ hi0 hi6 hOx hOy hOr hP hD hS hl kk)
        | 47, _ => exact lv_tableIn (tgt := 1723) (off := 1690) hx hb dL_law_33 (by decide) (by decide) (by decide) (by decide) (law_47 hL C0 hKn hZ hi0 hi6 hOx hOy hOr hP hD hS hl kk)
        | 48, _ => exact lv_tableIn (tgt := 1746) (off := 1713) hx hb dL_law_33 (by decide) (by decide) (by decide) (by decide) (law_48 hL C0 hKn hZ hi0 hi6 hOx hOy hOr hP hD hS hl kk)
        | 49, _ => exact lv_tableIn (tgt := 1779) (off := 1746) hx hb dL_law_33 (by decide) (by decide) (by decide) (by decide) (law_49 hL C0 hKn hZ hi0 hi6 hOx hOy hOr hP hD hS hl kk)
        | 50, _ => exact lv_tableIn (tgt := 1812) (off := 1779) hx hb dL_law_33 (by decide) (by decide) (by decide) (by decide) (law_50 hL C0 hKn hZ hi0 hi6 hOx hOy hOr hP hD hS hl kk)
        | 51, _ => exact lv_tableIn (tgt := 1835) (off := 1802) hx hb dL_law_33 (by decide) (by decide) (by decide) (by decide) (law_51 hL C0 hKn hZ hi0 hi6 hOx hOy hOr hP hD hS hl kk)
        | 52, _ => exact lv_tableIn (tgt := 1858) (off := 1825) hx hb dL_law_33 (by decide) (by decide) (by decide) (by decide) (law_52 hL C0 hKn hZ hi0 hi6 hOx hOy hOr hP hD hS hl kk)
        | 53, _ => exact lv_tableIn (tgt := 1891) (off := 1858) hx hb dL_law_33 (by decide) (by decide) (by decide) (by decide) (law_53 hL C0 hKn hZ hi0 hi6 hOx hOy hOr hP hD hS hl kk)
        | 54, _ => exact lv_tableIn (tgt := 1904) (off := 1871) hx hb dL_law_33 (by decide) (by decide) (by decide) (by decide) (law_54 hL C0 hKn hZ hi0 hi6 hOx hOy hOr hP hD hS hl kk)
        | 55, _ => exact lv_tableIn (tgt := 1937) (off := 1904) hx hb dL_law_33 (by decide) (by decide) (by decide) (by decide) (law_55 hL C0 hKn hZ hi0 hi6 hOx hOy hOr hP hD hS hl kk)
        | 56, _ => exact lv_tableIn (tgt := 1950) (off := 1917) hx hb dL_law_33 (by decide) (by decide) (by decide) (by decide) (law_56 hL C0 hKn hZ hi0 hi6 hOx hOy hOr hP hD hS hl kk)
        | 57, _ => exact lv_tableIn (tgt := 1963) (off := 1930) hx hb dL_law_33 (by decide) (by decide) (by decide) (by decide) (law_57 hL C0 hKn hZ hi0 hi6 hOx hOy hOr hP hD hS hl kk)
        | 58, _ => exact lv_tableIn (tgt := 1986) (off := 1953) hx hb dL_law_33 (by decide) (by decide) (by decide) (by decide) (law_58 hL C0 hKn hZ hi0 hi6 hOx hOy hOr hP hD hS hl kk)
        | 59, _ => exact lv_tableIn (tgt := 2019) (off := 1986) hx hb dL_law_33 (by decide) (by decide) (by decide) (by decide) (law_59 hL C0 hKn hZ hi0 hi6 hOx hOy hOr hP hD hS hl kk)
        | 60, _ => exact lv_tableIn (tgt := 2052) (off := 2019) hx hb dL_law_33 (by decide) (by decide) (by decide) (by decide) (law_60 hL C0 hKn hZ hi0 hi6 hOx hOy hOr hP hD hS hl kk)
        | 61, _ => exact lv_tableIn (tgt := 2075) (off := 2042) hx hb dL_law_33 (by decide) (by decide) (by decide) (by decide) (law_61 hL C0 hKn hZ hi0 hi6 hOx hOy hOr hP hD hS hl kk)
        | 62, _ => exact lv_tableIn (tgt := 2118) (off := 2085) hx hb dL_law_33 (by decide) (by decide) (by decide) (by decide) (law_62 hL C0 hKn hZ hi0 hi6 hOx hOy hOr hP hD hS hl kk)
        | 63, _ => exact lv_tableIn (tgt := 2131) (off := 2098) hx hb dL_law_33 (by decide) (by decide) (by decide) (by decide) (law_63 hL C0 hKn hZ hi0 hi6 hOx hOy hOr hP hD hS hl kk)
        | 64, _ => exact lv_tableIn (tgt := 2184) (off := 2151) hx hb dL_law_33 (by decide) (by decide) (by decide) (by decide) (law_64 hL C0 hKn hZ hi0 hi6 hOx hOy hOr hP hD hS hl kk)
        | 65, _ => exact lv_tableIn (tgt := 2217) (off := 2184) hx hb dL_law_33 (by decide) (by decide) (by decide) (by decide) (law_65 hL C0 hKn hZ hi0 hi6 hOx hOy hOr hP hD hS hl kk)
        | 66, _ => exact lv_tableIn (tgt := 2240) (off := 2207) hx hb dL_law_33 (by decide) (by decide) (by decide) (by decide) (law_66 hL C0 hKn hZ hi0 hi6 hOx hOy hOr hP hD hS hl kk)
        | 67, _ => exact lv_tableIn (tgt := 2263) (off := 2230) hx hb dL_law_33 (by decide) (by decide) (by decide) (by decide) (law_67 hL C0 hKn hZ hi0 hi6 hOx hOy hOr hP hD hS hl kk)
        | 68, _ => exact lv_tableIn (tgt := 2286) (off := 2253) hx hb dL_law_33 (by decide) (by decide) (by decide) (by decide) (law_68 hL C0 hKn hZ hi0 hi6 hOx hOy hOr hP hD hS hl kk)
        | 69, _ => exact lv_tableIn (tgt := 2329) (off := 2296) hx hb dL_law_33 (by decide) (by decide) (by decide) (by decide) (law_69 hL C0 hKn hZ hi0 hi6 hOx hOy hOr hP hD hS hl kk)
        | 70, _ => exact lv_tableIn (tgt := 2402) (off := 2369) hx hb dL_law_33 (by decide) (by decide) (by decide) (by decide) (law_70 hL C0 hKn hZ hi0 hi6 hOx hOy hOr hP hD hS hl kk)
        | j + 71, h => exact absurd h (by omega)
