set_option maxRecDepth 100000 in
set_option maxHeartbeats 4000000 in
theorem c_J7_fill_8 (l : Launch) (g : GG) (h0 : Nat) (ff : Nat → Int32) (p1 : Int32) : Ct l g yJ7_fill_53178 cJ7_fill_53178 4 none { frames := 0, cells := 0, slots := 0, locals := 0 } [.ref h0, .int p1] [(h0, .inl (g.2 0, 8, .inl ff))] (S := Nat → Int32) (fun _ => none) (fun _ => True) (fun u => [(h0, .inl (g.2 0, 8, .inl u))]) := by
  refine Ct.of (by decide) (Nat.le_of_ble_eq_true rfl) ?_
  intro p e s m below meth c A ls FX hP hD hS hl
  obtain ⟨FC, hr, hlk, hKn, hA, hnm⟩ := id FX
  have FC : CallFix p m c cJ7_fill_53178 4 s _ BIG RJ7 := FC
  obtain ⟨hx, hb, hml, hown, hB⟩ := id FC
  have hl : lv_has ls 4 [(0, .ref h0), (1, .int p1)] := hl
  refine lv_iconst (v := 0) hx hb dJ7_fill_53178_0 (by decide) ?_
  refine lv_istore_n (lv' := [(2, .int 0), (0, .ref h0), (1, .int p1)]) hx hb dJ7_fill_53178_1 rfl hl (by decide) rfl (fun ls hl => ?_)
  refine lv_aload_n hx hb dJ7_fill_53178_2 rfl (lv_at hl 1 rfl) ?_
  refine va_alen hx hb hKn.1 hP 0 0 rfl rfl (v := 8) rfl dJ7_fill_53178_3 ?_
  refine lv_istore_n (lv' := [(3, .int 8), (2, .int 0), (0, .ref h0), (1, .int p1)]) hx hb dJ7_fill_53178_4 rfl hl (by decide) rfl (fun ls hl => ?_)
  have lp : ∀ (n i : Nat) (k1 : Nat → Int32) (H : Heap) (locs : List Loc) (ls : Array Slot), i ≤ 8 → 8 < i + n → va_P g.1 vwCl [(h0, .inl (g.2 0, 8, .inl k1))] H → va_D A [(h0, .inl (g.2 0, 8, .inl k1))] → va_S A s.heap H locs → lv_has ls 4 [(3, .int 8), (2, .int (nI i)), (0, .ref h0), (1, .int p1)] → W p l e { frames := 0, cells := 0, slots := 0, locals := 0 } s m ([.ref h0, .int p1].toArray) below meth c H locs 0 0 (MQ below (QX (S := Nat → Int32) (fun _ => none) (fun _ => True) g (fun u => [(h0, .inl (g.2 0, 8, .inl u))]) A) ([.ref h0, .int p1].toArray) s 0 0 A) (F0 m 5 ls []) := by
    intro n
    induction n with
    | zero =>
      intro i k1 H locs ls hi hn
      exact absurd hn (by omega)
    | succ n ih =>
      intro i k1 H locs ls hi hn hP hD hS hl
      refine lv_iload_n hx hb dJ7_fill_53178_5 rfl (lv_at hl 1 rfl) ?_
      refine lv_iload_n hx hb dJ7_fill_53178_6 rfl (lv_at hl 0 rfl) ?_
      refine lv_icmp_ge (tgt := 20) hx hb dJ7_fill_53178_7 (by decide) (fun c2 => ?_) (fun c2 => ?_)
      · have c2 := k_le (a := 8) (b := ((i : Nat) : Int)) (by decide) (nI_toInt (by omega)) c2
        exact rt_v FX k1 rfl trivial (hP.sub [0] rfl) (hD.sub [0] (by decide) rfl) hS (Nat.le_of_ble_eq_true rfl) (Nat.le_of_ble_eq_true rfl) dJ7_fill_53178_20
      · have c2 := k_nle (a := 8) (b := ((i : Nat) : Int)) (by decide) (nI_toInt (by omega)) c2
        refine lv_aload_n hx hb dJ7_fill_53178_10 rfl (lv_at hl 2 rfl) ?_
        refine lv_iload_n hx hb dJ7_fill_53178_11 rfl (lv_at hl 1 rfl) ?_
        refine lv_iload_n hx hb dJ7_fill_53178_12 rfl (lv_at hl 3 rfl) ?_
        refine va_iast hx hb hKn.1 hP hD hS 0 0 rfl rfl (vp_in_nI (by omega) (by decide)) dJ7_fill_53178_13 (fun H locs hP hD hS => ?_)
        have hP : va_P g.1 vwCl [(h0, .inl (g.2 0, 8, .inl (upd k1 ((nI i).toNatClampNeg) p1)))] H := hP
        have hD : va_D A [(h0, .inl (g.2 0, 8, .inl (upd k1 ((nI i).toNatClampNeg) p1)))] := hD
        generalize (upd k1 ((nI i).toNatClampNeg) p1 : Nat → Int32) = f3 at hP hD
        refine lv_iinc (v := nI (i + 1)) (lv' := [(2, .int (nI (i + 1))), (3, .int 8), (0, .ref h0), (1, .int p1)]) hx hb dJ7_fill_53178_14 hl (k := 1) rfl (nI_1 _) (by decide) rfl (fun ls hl => ?_)
        refine lv_goto (tgt := 5) hx hb dJ7_fill_53178_17 (by decide) ?_
        exact ih (i + 1) _ H locs ls (by omega) (by omega) hP hD hS (lv_sub hl [1, 0, 2, 3] rfl)
  exact lp 9 0 _ _ _ ls (by omega) (by omega) hP hD hS hl
set_option maxRecDepth 100000 in
set_option maxHeartbeats 4000000 in
theorem c_J7_fill_4 (l : Launch) (g : GG) (h0 : Nat) (ff : Nat → Int32) (p1 : Int32) : Ct l g yJ7_fill_53178 cJ7_fill_53178 4 none { frames := 0, cells := 0, slots := 0, locals := 0 } [.ref h0, .int p1] [(h0, .inl (g.2 0, 4, .inl ff))] (S := Nat → Int32) (fun _ => none) (fun _ => True) (fun u => [(h0, .inl (g.2 0, 4, .inl u))]) := by
  refine Ct.of (by decide) (Nat.le_of_ble_eq_true rfl) ?_
  intro p e s m below meth c A ls FX hP hD hS hl
  obtain ⟨FC, hr, hlk, hKn, hA, hnm⟩ := id FX
  have FC : CallFix p m c cJ7_fill_53178 4 s _ BIG RJ7 := FC
  obtain ⟨hx, hb, hml, hown, hB⟩ := id FC
  have hl : lv_has ls 4 [(0, .ref h0), (1, .int p1)] := hl
  refine lv_iconst (v := 0) hx hb dJ7_fill_53178_0 (by decide) ?_
  refine lv_istore_n (lv' := [(2, .int 0), (0, .ref h0), (1, .int p1)]) hx hb dJ7_fill_53178_1 rfl hl (by decide) rfl (fun ls hl => ?_)
  refine lv_aload_n hx hb dJ7_fill_53178_2 rfl (lv_at hl 1 rfl) ?_
  refine va_alen hx hb hKn.1 hP 0 0 rfl rfl (v := 4) rfl dJ7_fill_53178_3 ?_
  refine lv_istore_n (lv' := [(3, .int 4), (2, .int 0), (0, .ref h0), (1, .int p1)]) hx hb dJ7_fill_53178_4 rfl hl (by decide) rfl (fun ls hl => ?_)
  have lp : ∀ (n i : Nat) (k1 : Nat → Int32) (H : Heap) (locs : List Loc) (ls : Array Slot), i ≤ 4 → 4 < i + n → va_P g.1 vwCl [(h0, .inl (g.2 0, 4, .inl k1))] H → va_D A [(h0, .inl (g.2 0, 4, .inl k1))] → va_S A s.heap H locs → lv_has ls 4 [(3, .int 4), (2, .int (nI i)), (0, .ref h0), (1, .int p1)] → W p l e { frames := 0, cells := 0, slots := 0, locals := 0 } s m ([.ref h0, .int p1].toArray) below meth c H locs 0 0 (MQ below (QX (S := Nat → Int32) (fun _ => none) (fun _ => True) g (fun u => [(h0, .inl (g.2 0, 4, .inl u))]) A) ([.ref h0, .int p1].toArray) s 0 0 A) (F0 m 5 ls []) := by
    intro n
    induction n with
    | zero =>
      intro i k1 H locs ls hi hn
      exact absurd hn (by omega)
    | succ n ih =>
      intro i k1 H locs ls hi hn hP hD hS hl
      refine lv_iload_n hx hb dJ7_fill_53178_5 rfl (lv_at hl 1 rfl) ?_
      refine lv_iload_n hx hb dJ7_fill_53178_6 rfl (lv_at hl 0 rfl) ?_
      refine lv_icmp_ge (tgt := 20) hx hb dJ7_fill_53178_7 (by decide) (fun c2 => ?_) (fun c2 => ?_)
      · have c2 := k_le (a := 4) (b := ((i : Nat) : Int)) (by decide) (nI_toInt (by omega)) c2
        exact rt_v FX k1 rfl trivial (hP.sub [0] rfl) (hD.sub [0] (by decide) rfl) hS (Nat.le_of_ble_eq_true rfl) (Nat.le_of_ble_eq_true rfl) dJ7_fill_53178_20
      · have c2 := k_nle (a := 4) (b := ((i : Nat) : Int)) (by decide) (nI_toInt (by omega)) c2
        refine lv_aload_n hx hb dJ7_fill_53178_10 rfl (lv_at hl 2 rfl) ?_
        refine lv_iload_n hx hb dJ7_fill_53178_11 rfl (lv_at hl 1 rfl) ?_
        refine lv_iload_n hx hb dJ7_fill_53178_12 rfl (lv_at hl 3 rfl) ?_
        refine va_iast hx hb hKn.1 hP hD hS 0 0 rfl rfl (vp_in_nI (by omega) (by decide)) dJ7_fill_53178_13 (fun H locs hP hD hS => ?_)
        have hP : va_P g.1 vwCl [(h0, .inl (g.2 0, 4, .inl (upd k1 ((nI i).toNatClampNeg) p1)))] H := hP
        have hD : va_D A [(h0, .inl (g.2 0, 4, .inl (upd k1 ((nI i).toNatClampNeg) p1)))] := hD
        generalize (upd k1 ((nI i).toNatClampNeg) p1 : Nat → Int32) = f3 at hP hD
        refine lv_iinc (v := nI (i + 1)) (lv' := [(2, .int (nI (i + 1))), (3, .int 4), (0, .ref h0), (1, .int p1)]) hx hb dJ7_fill_53178_14 hl (k := 1) rfl (nI_1 _) (by decide) rfl (fun ls hl => ?_)
        refine lv_goto (tgt := 5) hx hb dJ7_fill_53178_17 (by decide) ?_
        exact ih (i + 1) _ H locs ls (by omega) (by omega) hP hD hS (lv_sub hl [1, 0, 2, 3] rfl)
  exact lp 5 0 _ _ _ ls (by omega) (by omega) hP hD hS hl
set_option maxRecDepth 100000 in
set_option maxHeartbeats 4000000 in
theorem c_J7_fill_60 (l : Launch) (g : GG) (h0 : Nat) (ff : Nat → Int64) (p1 : Int64) : Ct l g yJ7_fill_d0a16 cJ7_fill_d0a16 5 none { frames := 0, cells := 0, slots := 0, locals := 0 } [.ref h0, .long p1] [(h0, .inl (g.2 3, 60, .inr (.inl ff)))] (S := Nat → Int64) (fun _ => none) (fun _ => True) (fun u => [(h0, .inl (g.2 3, 60, .inr (.inl u)))]) := by
  refine Ct.of (by decide) (Nat.le_of_ble_eq_true rfl) ?_
  intro p e s m below meth c A ls FX hP hD hS hl
  obtain ⟨FC, hr, hlk, hKn, hA, hnm⟩ := id FX
  have FC : CallFix p m c cJ7_fill_d0a16 5 s _ BIG RJ7 := FC
  obtain ⟨hx, hb, hml, hown, hB⟩ := id FC
  have hl : lv_has ls 5 [(0, .ref h0), (1, .long p1)] := hl
  refine lv_iconst (v := 0) hx hb dJ7_fill_d0a16_0 (by decide) ?_
  refine lv_istore_n (lv' := [(3, .int 0), (0, .ref h0), (1, .long p1)]) hx hb dJ7_fill_d0a16_1 rfl hl (by decide) rfl (fun ls hl => ?_)
  refine lv_aload_n hx hb dJ7_fill_d0a16_2 rfl (lv_at hl 1 rfl) ?_
  refine va_alen hx hb hKn.1 hP 0 3 rfl rfl (v := 60) rfl dJ7_fill_d0a16_3 ?_
  refine lv_istore (lv' := [(4, .int 60), (3, .int 0), (0, .ref h0), (1, .long p1)]) hx hb dJ7_fill_d0a16_4 hl (by decide) rfl (fun ls hl => ?_)
  have lp : ∀ (n i : Nat) (k1 : Nat → Int64) (H : Heap) (locs : List Loc) (ls : Array Slot), i ≤ 60 → 60 < i + n → va_P g.1 vwCl [(h0, .inl (g.2 3, 60, .inr (.inl k1)))] H → va_D A [(h0, .inl (g.2 3, 60, .inr (.inl k1)))] → va_S A s.heap H locs → lv_has ls 5 [(4, .int 60), (3, .int (nI i)), (0, .ref h0), (1, .long p1)] → W p l e { frames := 0, cells := 0, slots := 0, locals := 0 } s m ([.ref h0, .long p1].toArray) below meth c H locs 0 0 (MQ below (QX (S := Nat → Int64) (fun _ => none) (fun _ => True) g (fun u => [(h0, .inl (g.2 3, 60, .inr (.inl u)))]) A) ([.ref h0, .long p1].toArray) s 0 0 A) (F0 m 6 ls []) := by
    intro n
    induction n with
    | zero =>
      intro i k1 H locs ls hi hn
      exact absurd hn (by omega)
    | succ n ih =>
      intro i k1 H locs ls hi hn hP hD hS hl
      refine lv_iload_n hx hb dJ7_fill_d0a16_6 rfl (lv_at hl 1 rfl) ?_
      refine lv_iload hx hb dJ7_fill_d0a16_7 (lv_at hl 0 rfl) ?_
      refine lv_icmp_ge (tgt := 22) hx hb dJ7_fill_d0a16_9 (by decide) (fun c2 => ?_) (fun c2 => ?_)
      · have c2 := k_le (a := 60) (b := ((i : Nat) : Int)) (by decide) (nI_toInt (by omega)) c2
        exact rt_v FX k1 rfl trivial (hP.sub [0] rfl) (hD.sub [0] (by decide) rfl) hS (Nat.le_of_ble_eq_true rfl) (Nat.le_of_ble_eq_true rfl) dJ7_fill_d0a16_22
      · have c2 := k_nle (a := 60) (b := ((i : Nat) : Int)) (by decide) (nI_toInt (by omega)) c2
        refine lv_aload_n hx hb dJ7_fill_d0a16_12 rfl (lv_at hl 2 rfl) ?_
        refine lv_iload_n hx hb dJ7_fill_d0a16_13 rfl (lv_at hl 1 rfl) ?_
        refine lv_lload_n hx hb dJ7_fill_d0a16_14 rfl (lv_at hl 3 rfl) ?_
        refine va_last hx hb hKn.1 hP hD hS 0 3 rfl rfl (vp_in_nI (by omega) (by decide)) dJ7_fill_d0a16_15 (fun H locs hP hD hS => ?_)
        have hP : va_P g.1 vwCl [(h0, .inl (g.2 3, 60, .inr (.inl (vp_updL k1 ((nI i).toNatClampNeg) p1))))] H := hP
        have hD : va_D A [(h0, .inl (g.2 3, 60, .inr (.inl (vp_updL k1 ((nI i).toNatClampNeg) p1))))] := hD
        generalize (vp_updL k1 ((nI i).toNatClampNeg) p1 : Nat → Int64) = f3 at hP hD
        refine lv_iinc (v := nI (i + 1)) (lv' := [(3, .int (nI (i + 1))), (4, .int 60), (0, .ref h0), (1, .long p1)]) hx hb dJ7_fill_d0a16_16 hl (k := 1) rfl (nI_1 _) (by decide) rfl (fun ls hl => ?_)
        refine lv_goto (tgt := 6) hx hb dJ7_fill_d0a16_19 (by decide) ?_
        exact ih (i + 1) _ H locs ls (by omega) (by omega) hP hD hS (lv_sub hl [1, 0, 2, 3] rfl)
  exact lp 61 0 _ _ _ ls (by omega) (by omega) hP hD hS hl
set_option maxRecDepth 100000 in
set_option maxHeartbeats 4000000 in
theorem c_X3_takeAll (l : Launch) (g : GG) (h0 : Nat) (x0 : Nat) (x1 : Nat) (x2 : Nat) (k0 : Nat) (y0 : Nat) (y1 : Nat) (y2 : Nat) (fa0 : Nat → Int32) (fa1 : Nat → Int32) (fa2 : Nat → Int32) (fb0 : Nat → Int32) (fb1 : Nat → Int32) (fb2 : Nat → Int32) : Ct l g yX3_takeAll cX3_takeAll 2 none { frames := 1, cells := 0, slots := 0, locals := 18 } [.ref h0, .ref k0] [(h0, .inr (3, [.ref x0, .ref x1, .ref x2, .int 0])), (x0, .inl (g.2 0, 60, .inl fa0)), (x1, .inl (g.2 0, 60, .inl fa1)), (x2, .inl (g.2 0, 60, .inl fa2)), (k0, .inr (3, [.ref y0, .ref y1, .ref y2, .int 0])), (y0, .inl (g.2 0, 60, .inl fb0)), (y1, .inl (g.2 0, 60, .inl fb1)), (y2, .inl (g.2 0, 60, .inl fb2))] (S := Unit) (fun _ => none) (fun _ => True) (fun u => []) := by
  refine Ct.of (by decide) (Nat.le_of_ble_eq_true rfl) ?_
  intro p e s m below meth c A ls FX hP hD hS hl
  obtain ⟨FC, hr, hlk, hKn, hA, hnm⟩ := id FX
  have FC : CallFix p m c cX3_takeAll 2 s _ BIG RX3 := FC
  obtain ⟨hx, hb, hml, hown, hB⟩ := id FC
  have hl : lv_has ls 2 [(0, .ref h0), (1, .ref k0)] := hl
  refine lv_aload_n hx hb dX3_takeAll_0 rfl (lv_at hl 1 rfl) ?_
  refine g_get (C := RX3) (T := TX3) (N := 4) (ci := 3) (v := .ref y0) FC hKn hP i_X3 4 rfl rfl 0 (by decide) b_100 rfl dX3_takeAll_1 ?_
  refine lv_iconst (v := 0) hx hb dX3_takeAll_4 (by decide) ?_
  refine lv_aload_n hx hb dX3_takeAll_5 rfl (lv_at hl 0 rfl) ?_
  refine g_get (C := RX3) (T := TX3) (N := 4) (ci := 3) (v := .ref x0) FC hKn hP i_X3 0 rfl rfl 0 (by decide) b_100 rfl dX3_takeAll_6 ?_
  refine lv_iconst (v := 0) hx hb dX3_takeAll_9 (by decide) ?_
  refine lv_bipush (v := 60) hx hb dX3_takeAll_10 (by decide) ?_
  refine va_copyi hx hb (by rw [hml]; exact hl.1.symm) hown (hB _ b_101) (hB _ b_102) (hB _ b_103) (hB _ b_104) hKn.1 hP hD hS 5 1 0 0 rfl rfl rfl rfl rfl (by decide) (by decide) (by decide) (by decide) (by decide) (fun _ _ => rfl) (Nat.le_of_ble_eq_true rfl) (Nat.le_of_ble_eq_true rfl) dX3_takeAll_12 (fun H locs hP hD hS => ?_)
  have hP : va_P g.1 vwCl [(h0, .inr (3, [.ref x0, .ref x1, .ref x2, .int 0])), (x0, .inl (g.2 0, 60, .inl (va_cpy fb0 fa0 (0 : Int32).toNatClampNeg (0 : Int32).toNatClampNeg (60 : Int32).toNatClampNeg))), (x1, .inl (g.2 0, 60, .inl fa1)), (x2, .inl (g.2 0, 60, .inl fa2)), (k0, .inr (3, [.ref y0, .ref y1, .ref y2, .int 0])), (y0, .inl (g.2 0, 60, .inl fb0)), (y1, .inl (g.2 0, 60, .inl fb1)), (y2, .inl (g.2 0, 60, .inl fb2))] H := hP
  have hD : va_D A [(h0, .inr (3, [.ref x0, .ref x1, .ref x2, .int 0])), (x0, .inl (g.2 0, 60, .inl (va_cpy fb0 fa0 (0 : Int32).toNatClampNeg (0 : Int32).toNatClampNeg (60 : Int32).toNatClampNeg))), (x1, .inl (g.2 0, 60, .inl fa1)), (x2, .inl (g.2 0, 60, .inl fa2)), (k0, .inr (3, [.ref y0, .ref y1, .ref y2, .int 0])), (y0, .inl (g.2 0, 60, .inl fb0)), (y1, .inl (g.2 0, 60, .inl fb1)), (y2, .inl (g.2 0, 60, .inl fb2))] := hD
  generalize (va_cpy fb0 fa0 (0 : Int32).toNatClampNeg (0 : Int32).toNatClampNeg (60 : Int32).toNatClampNeg : Nat → Int32) = f1 at hP hD
  refine lv_aload_n hx hb dX3_takeAll_15 rfl (lv_at hl 1 rfl) ?_
  refine g_get (C := RX3) (T := TX3) (N := 4) (ci := 3) (v := .ref y1) FC hKn hP i_X3 4 rfl rfl 1 (by decide) b_105 rfl dX3_takeAll_16 ?_
  refine lv_iconst (v := 0) hx hb dX3_takeAll_19 (by decide) ?_
  refine lv_aload_n hx hb dX3_takeAll_20 rfl (lv_at hl 0 rfl) ?_
  refine g_get (C := RX3) (T := TX3) (N := 4) (ci := 3) (v := .ref x1) FC hKn hP i_X3 0 rfl rfl 1 (by decide) b_105 rfl dX3_takeAll_21 ?_
  refine lv_iconst (v := 0) hx hb dX3_takeAll_24 (by decide) ?_
  refine lv_bipush (v := 60) hx hb dX3_takeAll_25 (by decide) ?_
  refine va_copyi hx hb (by rw [hml]; exact hl.1.symm) hown (hB _ b_101) (hB _ b_102) (hB _ b_103) (hB _ b_104) hKn.1 hP hD hS 6 2 0 0 rfl rfl rfl rfl rfl (by decide) (by decide) (by decide) (by decide) (by decide) (fun _ _ => rfl) (Nat.le_of_ble_eq_true rfl) (Nat.le_of_ble_eq_true rfl) dX3_takeAll_27 (fun H locs hP hD hS => ?_)
  have hP : va_P g.1 vwCl [(h0, .inr (3, [.ref x0, .ref x1, .ref x2, .int 0])), (x0, .inl (g.2 0, 60, .inl f1)), (x1, .inl (g.2 0, 60, .inl (va_cpy fb1 fa1 (0 : Int32).toNatClampNeg (0 : Int32).toNatClampNeg (60 : Int32).toNatClampNeg))), (x2, .inl (g.2 0, 60, .inl fa2)), (k0, .inr (3, [.ref y0, .ref y1, .ref y2, .int 0])), (y0, .inl (g.2 0, 60, .inl fb0)), (y1, .inl (g.2 0, 60, .inl fb1)), (y2, .inl (g.2 0, 60, .inl fb2))] H := hP
  have hD : va_D A [(h0, .inr (3, [.ref x0, .ref x1, .ref x2, .int 0])), (x0, .inl (g.2 0, 60, .inl f1)), (x1, .inl (g.2 0, 60, .inl (va_cpy fb1 fa1 (0 : Int32).toNatClampNeg (0 : Int32).toNatClampNeg (60 : Int32).toNatClampNeg))), (x2, .inl (g.2 0, 60, .inl fa2)), (k0, .inr (3, [.ref y0, .ref y1, .ref y2, .int 0])), (y0, .inl (g.2 0, 60, .inl fb0)), (y1, .inl (g.2 0, 60, .inl fb1)), (y2, .inl (g.2 0, 60, .inl fb2))] := hD
  generalize (va_cpy fb1 fa1 (0 : Int32).toNatClampNeg (0 : Int32).toNatClampNeg (60 : Int32).toNatClampNeg : Nat → Int32) = f2 at hP hD
  refine lv_aload_n hx hb dX3_takeAll_30 rfl (lv_at hl 1 rfl) ?_
  refine g_get (C := RX3) (T := TX3) (N := 4) (ci := 3) (v := .ref y2) FC hKn hP i_X3 4 rfl rfl 2 (by decide) b_106 rfl dX3_takeAll_31 ?_
  refine lv_iconst (v := 0) hx hb dX3_takeAll_34 (by decide) ?_
  refine lv_aload_n hx hb dX3_takeAll_35 rfl (lv_at hl 0 rfl) ?_
  refine g_get (C := RX3) (T := TX3) (N := 4) (ci := 3) (v := .ref x2) FC hKn hP i_X3 0 rfl rfl 2 (by decide) b_106 rfl dX3_takeAll_36 ?_
  refine lv_iconst (v := 0) hx hb dX3_takeAll_39 (by decide) ?_
  refine lv_bipush (v := 60) hx hb dX3_takeAll_40 (by decide) ?_
  refine va_copyi hx hb (by rw [hml]; exact hl.1.symm) hown (hB _ b_101) (hB _ b_102) (hB _ b_103) (hB _ b_104) hKn.1 hP hD hS 7 3 0 0 rfl rfl rfl rfl rfl (by decide) (by decide) (by decide) (by decide) (by decide) (fun _ _ => rfl) (Nat.le_of_ble_eq_true rfl) (Nat.le_of_ble_eq_true rfl) dX3_takeAll_42 (fun H locs hP hD hS => ?_)
  have hP : va_P g.1 vwCl [(h0, .inr (3, [.ref x0, .ref x1, .ref x2, .int 0])), (x0, .inl (g.2 0, 60, .inl f1)), (x1, .inl (g.2 0, 60, .inl f2)), (x2, .inl (g.2 0, 60, .inl (va_cpy fb2 fa2 (0 : Int32).toNatClampNeg (0 : Int32).toNatClampNeg (60 : Int32).toNatClampNeg))), (k0, .inr (3, [.ref y0, .ref y1, .ref y2, .int 0])), (y0, .inl (g.2 0, 60, .inl fb0)), (y1, .inl (g.2 0, 60, .inl fb1)), (y2, .inl (g.2 0, 60, .inl fb2))] H := hP
  have hD : va_D A [(h0, .inr (3, [.ref x0, .ref x1, .ref x2, .int 0])), (x0, .inl (g.2 0, 60, .inl f1)), (x1, .inl (g.2 0, 60, .inl f2)), (x2, .inl (g.2 0, 60, .inl (va_cpy fb2 fa2 (0 : Int32).toNatClampNeg (0 : Int32).toNatClampNeg (60 : Int32).toNatClampNeg))), (k0, .inr (3, [.ref y0, .ref y1, .ref y2, .int 0])), (y0, .inl (g.2 0, 60, .inl fb0)), (y1, .inl (g.2 0, 60, .inl fb1)), (y2, .inl (g.2 0, 60, .inl fb2))] := hD
  generalize (va_cpy fb2 fa2 (0 : Int32).toNatClampNeg (0 : Int32).toNatClampNeg (60 : Int32).toNatClampNeg : Nat → Int32) = f3 at hP hD
  refine lv_aload_n hx hb dX3_takeAll_45 rfl (lv_at hl 0 rfl) ?_
  refine lv_aload_n hx hb dX3_takeAll_46 rfl (lv_at hl 1 rfl) ?_
  refine g_get (C := RX3) (T := TX3) (N := 4) (ci := 3) (v := .int 0) FC hKn hP i_X3 4 rfl rfl 3 (by decide) b_107 rfl dX3_takeAll_47 ?_
  refine g_put (C := RX3) (T := TX3) (N := 4) (ci := 3) (v := .int 0) FC hKn hP hD hS i_X3 tyX3 tyX3_ok nmX3 0 rfl rfl 3 (by decide) b_107 rfl rfl rfl (Nat.le_of_ble_eq_true rfl) dX3_takeAll_50 (fun H locs hP hD hS => ?_)
  have hP : va_P g.1 vwCl [(h0, .inr (3, [.ref x0, .ref x1, .ref x2, .int 0])), (x0, .inl (g.2 0, 60, .inl f1)), (x1, .inl (g.2 0, 60, .inl f2)), (x2, .inl (g.2 0, 60, .inl f3)), (k0, .inr (3, [.ref y0, .ref y1, .ref y2, .int 0])), (y0, .inl (g.2 0, 60, .inl fb0)), (y1, .inl (g.2 0, 60, .inl fb1)), (y2, .inl (g.2 0, 60, .inl fb2))] H := hP
  have hD : va_D A [(h0, .inr (3, [.ref x0, .ref x1, .ref x2, .int 0])), (x0, .inl (g.2 0, 60, .inl f1)), (x1, .inl (g.2 0, 60, .inl f2)), (x2, .inl (g.2 0, 60, .inl f3)), (k0, .inr (3, [.ref y0, .ref y1, .ref y2, .int 0])), (y0, .inl (g.2 0, 60, .inl fb0)), (y1, .inl (g.2 0, 60, .inl fb1)), (y2, .inl (g.2 0, 60, .inl fb2))] := hD
  exact rt_v FX () rfl trivial (hP.sub [] rfl) (hD.sub [] (by decide) rfl) hS (Nat.le_of_ble_eq_true rfl) (Nat.le_of_ble_eq_true rfl) dX3_takeAll_53
set_option maxRecDepth 100000 in
set_option maxHeartbeats 4000000 in
theorem c_X0_copyFrom (l : Launch) (g : GG) (h0 : Nat) (v0 : Nat) (v1 : Nat) (v2 : Nat) (v3 : Nat) (v4 : Nat) (v5 : Nat) (v6 : Nat) (v7 : Nat) (v8 : Nat) (v9 : Nat) (x0 : Nat) (x1 : Nat) (x2 : Nat) (fa0 : Nat → Int32) (fa1 : Nat → Int32) (fa2 : Nat → Int32) (fa3 : Nat → Int32) (fa4 : Nat → Int32) (fa5 : Nat → Int32) (fa6 : Nat → Int32) (fa7 : Nat → Int32) (fa8 : Nat → Int32) (fa9 : Nat → Int32) (fa10 : Nat → Int32) (fa11 : Nat → Int32) (k0 : Nat) (w0 : Nat) (w1 : Nat) (w2 : Nat) (w3 : Nat) (w4 : Nat) (w5 : Nat) (w6 : Nat) (w7 : Nat) (w8 : Nat) (w9 : Nat) (y0 : Nat) (y1 : Nat) (y2 : Nat) (fb0 : Nat → Int32) (fb1 : Nat → Int32) (fb2 : Nat → Int32) (fb3 : Nat → Int32) (fb4 : Nat → Int32) (fb5 : Nat → Int32) (fb6 : Nat → Int32) (fb7 : Nat → Int32) (fb8 : Nat → Int32) (fb9 : Nat → Int32) (fb10 : Nat → Int32) (fb11 : Nat → Int32) : Ct l g yX0_copyFrom cX0_copyFrom 2 none { frames := 2, cells := 0, slots := 0, locals := 39 } [.ref h0, .ref k0] [(h0, .inr (0, [.int 0, .int 0, .int 0, .int 0, .int 0, .int 0, .int 0, .int 0, .int 0, .int 0, .ref v0, .ref v1, .ref v2, .ref v3, .ref v4, .ref v5, .ref v6, .ref v7, .ref v8, .ref v9])), (v0, .inl (g.2 0, 8, .inl fa0)), (v1, .inl (g.2 0, 32, .inl fa1)), (v2, .inl (g.2 0, 4, .inl fa2)), (v3, .inl (g.2 0, 4, .inl fa3)), (v4, .inl (g.2 0, 8, .inl fa4)), (v5, .inl (g.2 0, 8, .inl fa5)), (v6, .inl (g.2 0, 4, .inl fa6)), (v7, .inl (g.2 0, 20, .inl fa7)), (v8, .inl (g.2 0, 6, .inl fa8)), (v9, .inr (3, [.ref x0, .ref x1, .ref x2, .int 0])), (x0, .inl (g.2 0, 60, .inl fa9)), (x1, .inl (g.2 0, 60, .inl fa10)), (x2, .inl (g.2 0, 60, .inl fa11)), (k0, .inr (0, [.int 0, .int 0, .int 0, .int 0, .int 0, .int 0, .int 0, .int 0, .int 0, .int 0, .ref w0, .ref w1, .ref w2, .ref w3, .ref w4, .ref w5, .ref w6, .ref w7, .ref w8, .ref w9])), (w0, .inl (g.2 0, 8, .inl fb0)), (w1, .inl (g.2 0, 32, .inl fb1)), (w2, .inl (g.2 0, 4, .inl fb2)), (w3, .inl (g.2 0, 4, .inl fb3)), (w4, .inl (g.2 0, 8, .inl fb4)), (w5, .inl (g.2 0, 8, .inl fb5)), (w6, .inl (g.2 0, 4, .inl fb6)), (w7, .inl (g.2 0, 20, .inl fb7)), (w8, .inl (g.2 0, 6, .inl fb8)), (w9, .inr (3, [.ref y0, .ref y1, .ref y2, .int 0])), (y0, .inl (g.2 0, 60, .inl fb9)), (y1, .inl (g.2 0, 60, .inl fb10)), (y2, .inl (g.2 0, 60, .inl fb11))] (S := Unit) (fun _ => none) (fun _ => True) (fun u => [(h0, .inr (0, [.int 0, .int 0, .int 0, .int 0, .int 0, .int 0, .int 0, .int 0, .int 0, .int 0, .ref v0, .ref v1, .ref v2, .ref v3, .ref v4, .ref v5, .ref v6, .ref v7, .ref v8, .ref v9]))]) := by
  refine Ct.of (by decide) (Nat.le_of_ble_eq_true rfl) ?_
  intro p e s m below meth c A ls FX hP hD hS hl
  obtain ⟨FC, hr, hlk, hKn, hA, hnm⟩ := id FX
  have FC : CallFix p m c cX0_copyFrom 2 s _ BIG RX0 := FC
  obtain ⟨hx, hb, hml, hown, hB⟩ := id FC
  have hl : lv_has ls 2 [(0, .ref h0), (1, .ref k0)] := hl
  refine lv_aload_n hx hb dX0_copyFrom_0 rfl (lv_at hl 0 rfl) ?_
  refine lv_aload_n hx hb dX0_copyFrom_1 rfl (lv_at hl 1 rfl) ?_
  refine g_get (C := RX0) (T := TX0) (N := 20) (ci := 0) (v := .int 0) FC hKn hP i_X0 14 rfl rfl 0 (by decide) b_0 rfl dX0_copyFrom_2 ?_
  refine g_put (C := RX0) (T := TX0) (N := 20) (ci := 0) (v := .int 0) FC hKn hP hD hS i_X0 tyX0 tyX0_ok nmX0 0 rfl rfl 0 (by decide) b_0 rfl rfl rfl (Nat.le_of_ble_eq_true rfl) dX0_copyFrom_5 (fun H locs hP hD hS => ?_)
  have hP : va_P g.1 vwCl [(h0, .inr (0, [.int 0, .int 0, .int 0, .int 0, .int 0, .int 0, .int 0, .int 0, .int 0, .int 0, .ref v0, .ref v1, .ref v2, .ref v3, .ref v4, .ref v5, .ref v6, .ref v7, .ref v8, .ref v9])), (v0, .inl (g.2 0, 8, .inl fa0)), (v1, .inl (g.2 0, 32, .inl fa1)), (v2, .inl (g.2 0, 4, .inl fa2)), (v3, .inl (g.2 0, 4, .inl fa3)), (v4, .inl (g.2 0, 8, .inl fa4)), (v5, .inl (g.2 0, 8, .inl fa5)), (v6, .inl (g.2 0, 4, .inl fa6)), (v7, .inl (g.2 0, 20, .inl fa7)), (v8, .inl (g.2 0, 6, .inl fa8)), (v9, .inr (3, [.ref x0, .ref x1, .ref x2, .int 0])), (x0, .inl (g.2 0, 60, .inl fa9)), (x1, .inl (g.2 0, 60, .inl fa10)), (x2, .inl (g.2 0, 60, .inl fa11)), (k0, .inr (0, [.int 0, .int 0, .int 0, .int 0, .int 0, .int 0, .int 0, .int 0, .int 0, .int 0, .ref w0, .ref w1, .ref w2, .ref w3, .ref w4, .ref w5, .ref w6, .ref w7, .ref w8, .ref w9])), (w0, .inl (g.2 0, 8, .inl fb0)), (w1, .inl (g.2 0, 32, .inl fb1)), (w2, .inl (g.2 0, 4, .inl fb2)), (w3, .inl (g.2 0, 4, .inl fb3)), (w4, .inl (g.2 0, 8, .inl fb4)), (w5, .inl (g.2 0, 8, .inl fb5)), (w6, .inl (g.2 0, 4, .inl fb6)), (w7, .inl (g.2 0, 20, .inl fb7)), (w8, .inl (g.2 0, 6, .inl fb8)), (w9, .inr (3, [.ref y0, .ref y1, .ref y2, .int 0])), (y0, .inl (g.2 0, 60, .inl fb9)), (y1, .inl (g.2 0, 60, .inl fb10)), (y2, .inl (g.2 0, 60, .inl fb11))] H := hP
  have hD : va_D A [(h0, .inr (0, [.int 0, .int 0, .int 0, .int 0, .int 0, .int 0, .int 0, .int 0, .int 0, .int 0, .ref v0, .ref v1, .ref v2, .ref v3, .ref v4, .ref v5, .ref v6, .ref v7, .ref v8, .ref v9])), (v0, .inl (g.2 0, 8, .inl fa0)), (v1, .inl (g.2 0, 32, .inl fa1)), (v2, .inl (g.2 0, 4, .inl fa2)), (v3, .inl (g.2 0, 4, .inl fa3)), (v4, .inl (g.2 0, 8, .inl fa4)), (v5, .inl (g.2 0, 8, .inl fa5)), (v6, .inl (g.2 0, 4, .inl fa6)), (v7, .inl (g.2 0, 20, .inl fa7)), (v8, .inl (g.2 0, 6, .inl fa8)), (v9, .inr (3, [.ref x0, .ref x1, .ref x2, .int 0])), (x0, .inl (g.2 0, 60, .inl fa9)), (x1, .inl (g.2 0, 60, .inl fa10)), (x2, .inl (g.2 0, 60, .inl fa11)), (k0, .inr (0, [.int 0, .int 0, .int 0, .int 0, .int 0, .int 0, .int 0, .int 0, .int 0, .int 0, .ref w0, .ref w1, .ref w2, .ref w3, .ref w4, .ref w5, .ref w6, .ref w7, .ref w8, .ref w9])), (w0, .inl (g.2 0, 8, .inl fb0)), (w1, .inl (g.2 0, 32, .inl fb1)), (w2, .inl (g.2 0, 4, .inl fb2)), (w3, .inl (g.2 0, 4, .inl fb3)), (w4, .inl (g.2 0, 8, .inl fb4)), (w5, .inl (g.2 0, 8, .inl fb5)), (w6, .inl (g.2 0, 4, .inl fb6)), (w7, .inl (g.2 0, 20, .inl fb7)), (w8, .inl (g.2 0, 6, .inl fb8)), (w9, .inr (3, [.ref y0, .ref y1, .ref y2, .int 0])), (y0, .inl (g.2 0, 60, .inl fb9)), (y1, .inl (g.2 0, 60, .inl fb10)), (y2, .inl (g.2 0, 60, .inl fb11))] := hD
  refine lv_aload_n hx hb dX0_copyFrom_8 rfl (lv_at hl 0 rfl) ?_
  refine lv_aload_n hx hb dX0_copyFrom_9 rfl (lv_at hl 1 rfl) ?_
  refine g_get (C := RX0) (T := TX0) (N := 20) (ci := 0) (v := .int 0) FC hKn hP i_X0 14 rfl rfl 1 (by decide) b_108 rfl dX0_copyFrom_10 ?_
  refine g_put (C := RX0) (T := TX0) (N := 20) (ci := 0) (v := .int 0) FC hKn hP hD hS i_X0 tyX0 tyX0_ok nmX0 0 rfl rfl 1 (by decide) b_108 rfl rfl rfl (Nat.le_of_ble_eq_true rfl) dX0_copyFrom_13 (fun H locs hP hD hS => ?_)
  have hP : va_P g.1 vwCl [(h0, .inr (0, [.int 0, .int 0, .int 0, .int 0, .int 0, .int 0, .int 0, .int 0, .int 0, .int 0, .ref v0, .ref v1, .ref v2, .ref v3, .ref v4, .ref v5, .ref v6, .ref v7, .ref v8, .ref v9])), (v0, .inl (g.2 0, 8, .inl fa0)), (v1, .inl (g.2 0, 32, .inl fa1)), (v2, .inl (g.2 0, 4, .inl fa2)), (v3, .inl (g.2 0, 4, .inl fa3)), (v4, .inl (g.2 0, 8, .inl fa4)), (v5, .inl (g.2 0, 8, .inl fa5)), (v6, .inl (g.2 0, 4, .inl fa6)), (v7, .inl (g.2 0, 20, .inl fa7)), (v8, .inl (g.2 0, 6, .inl fa8)), (v9, .inr (3, [.ref x0, .ref x1, .ref x2, .int 0])), (x0, .inl (g.2 0, 60, .inl fa9)), (x1, .inl (g.2 0, 60, .inl fa10)), (x2, .inl (g.2 0, 60, .inl fa11)), (k0, .inr (0, [.int 0, .int 0, .int 0, .int 0, .int 0, .int 0, .int 0, .int 0, .int 0, .int 0, .ref w0, .ref w1, .ref w2, .ref w3, .ref w4, .ref w5, .ref w6, .ref w7, .ref w8, .ref w9])), (w0, .inl (g.2 0, 8, .inl fb0)), (w1, .inl (g.2 0, 32, .inl fb1)), (w2, .inl (g.2 0, 4, .inl fb2)), (w3, .inl (g.2 0, 4, .inl fb3)), (w4, .inl (g.2 0, 8, .inl fb4)), (w5, .inl (g.2 0, 8, .inl fb5)), (w6, .inl (g.2 0, 4, .inl fb6)), (w7, .inl (g.2 0, 20, .inl fb7)), (w8, .inl (g.2 0, 6, .inl fb8)), (w9, .inr (3, [.ref y0, .ref y1, .ref y2, .int 0])), (y0, .inl (g.2 0, 60, .inl fb9)), (y1, .inl (g.2 0, 60, .inl fb10)), (y2, .inl (g.2 0, 60, .inl fb11))] H := hP
  have hD : va_D A [(h0, .inr (0, [.int 0, .int 0, .int 0, .int 0, .int 0, .int 0, .int 0, .int 0, .int 0, .int 0, .ref v0, .ref v1, .ref v2, .ref v3, .ref v4, .ref v5, .ref v6, .ref v7, .ref v8, .ref v9])), (v0, .inl (g.2 0, 8, .inl fa0)), (v1, .inl (g.2 0, 32, .inl fa1)), (v2, .inl (g.2 0, 4, .inl fa2)), (v3, .inl (g.2 0, 4, .inl fa3)), (v4, .inl (g.2 0, 8, .inl fa4)), (v5, .inl (g.2 0, 8, .inl fa5)), (v6, .inl (g.2 0, 4, .inl fa6)), (v7, .inl (g.2 0, 20, .inl fa7)), (v8, .inl (g.2 0, 6, .inl fa8)), (v9, .inr (3, [.ref x0, .ref x1, .ref x2, .int 0])), (x0, .inl (g.2 0, 60, .inl fa9)), (x1, .inl (g.2 0, 60, .inl fa10)), (x2, .inl (g.2 0, 60, .inl fa11)), (k0, .inr (0, [.int 0, .int 0, .int 0, .int 0, .int 0, .int 0, .int 0, .int 0, .int 0, .int 0, .ref w0, .ref w1, .ref w2, .ref w3, .ref w4, .ref w5, .ref w6, .ref w7, .ref w8, .ref w9])), (w0, .inl (g.2 0, 8, .inl fb0)), (w1, .inl (g.2 0, 32, .inl fb1)), (w2, .inl (g.2 0, 4, .inl fb2)), (w3, .inl (g.2 0, 4, .inl fb3)), (w4, .inl (g.2 0, 8, .inl fb4)), (w5, .inl (g.2 0, 8, .inl fb5)), (w6, .inl (g.2 0, 4, .inl fb6)), (w7, .inl (g.2 0, 20, .inl fb7)), (w8, .inl (g.2 0, 6, .inl fb8)), (w9, .inr (3, [.ref y0, .ref y1, .ref y2, .int 0])), (y0, .inl (g.2 0, 60, .inl fb9)), (y1, .inl (g.2 0, 60, .inl fb10)), (y2, .inl (g.2 0, 60, .inl fb11))] := hD
  refine lv_aload_n hx hb dX0_copyFrom_16 rfl (lv_at hl 0 rfl) ?_
  refine lv_aload_n hx hb dX0_copyFrom_17 rfl (lv_at hl 1 rfl) ?_
  refine g_get (C := RX0) (T := TX0) (N := 20) (ci := 0) (v := .int 0) FC hKn hP i_X0 14 rfl rfl 2 (by decide) b_2 rfl dX0_copyFrom_18 ?_
  refine g_put (C := RX0) (T := TX0) (N := 20) (ci := 0) (v := .int 0) FC hKn hP hD hS i_X0 tyX0 tyX0_ok nmX0 0 rfl rfl 2 (by decide) b_2 rfl rfl rfl (Nat.le_of_ble_eq_true rfl) dX0_copyFrom_21 (fun H locs hP hD hS => ?_)
  have hP : va_P g.1 vwCl [(h0, .inr (0, [.int 0, .int 0, .int 0, .int 0, .int 0, .int 0, .int 0, .int 0, .int 0, .int 0, .ref v0, .ref v1, .ref v2, .ref v3, .ref v4, .ref v5, .ref v6, .ref v7, .ref v8, .ref v9])), (v0, .inl (g.2 0, 8, .inl fa0)), (v1, .inl (g.2 0, 32, .inl fa1)), (v2, .inl (g.2 0, 4, .inl fa2)), (v3, .inl (g.2 0, 4, .inl fa3)), (v4, .inl (g.2 0, 8, .inl fa4)), (v5, .inl (g.2 0, 8, .inl fa5)), (v6, .inl (g.2 0, 4, .inl fa6)), (v7, .inl (g.2 0, 20, .inl fa7)), (v8, .inl (g.2 0, 6, .inl fa8)), (v9, .inr (3, [.ref x0, .ref x1, .ref x2, .int 0])), (x0, .inl (g.2 0, 60, .inl fa9)), (x1, .inl (g.2 0, 60, .inl fa10)), (x2, .inl (g.2 0, 60, .inl fa11)), (k0, .inr (0, [.int 0, .int 0, .int 0, .int 0, .int 0, .int 0, .int 0, .int 0, .int 0, .int 0, .ref w0, .ref w1, .ref w2, .ref w3, .ref w4, .ref w5, .ref w6, .ref w7, .ref w8, .ref w9])), (w0, .inl (g.2 0, 8, .inl fb0)), (w1, .inl (g.2 0, 32, .inl fb1)), (w2, .inl (g.2 0, 4, .inl fb2)), (w3, .inl (g.2 0, 4, .inl fb3)), (w4, .inl (g.2 0, 8, .inl fb4)), (w5, .inl (g.2 0, 8, .inl fb5)), (w6, .inl (g.2 0, 4, .inl fb6)), (w7, .inl (g.2 0, 20, .inl fb7)), (w8, .inl (g.2 0, 6, .inl fb8)), (w9, .inr (3, [.ref y0, .ref y1, .ref y2, .int 0])), (y0, .inl (g.2 0, 60, .inl fb9)), (y1, .inl (g.2 0, 60, .inl fb10)), (y2, .inl (g.2 0, 60, .inl fb11))] H := hP
  have hD : va_D A [(h0, .inr (0, [.int 0, .int 0, .int 0, .int 0, .int 0, .int 0, .int 0, .int 0, .int 0, .int 0, .ref v0, .ref v1, .ref v2, .ref v3, .ref v4, .ref v5, .ref v6, .ref v7, .ref v8, .ref v9])), (v0, .inl (g.2 0, 8, .inl fa0)), (v1, .inl (g.2 0, 32, .inl fa1)), (v2, .inl (g.2 0, 4, .inl fa2)), (v3, .inl (g.2 0, 4, .inl fa3)), (v4, .inl (g.2 0, 8, .inl fa4)), (v5, .inl (g.2 0, 8, .inl fa5)), (v6, .inl (g.2 0, 4, .inl fa6)), (v7, .inl (g.2 0, 20, .inl fa7)), (v8, .inl (g.2 0, 6, .inl fa8)), (v9, .inr (3, [.ref x0, .ref x1, .ref x2, .int 0])), (x0, .inl (g.2 0, 60, .inl fa9)), (x1, .inl (g.2 0, 60, .inl fa10)), (x2, .inl (g.2 0, 60, .inl fa11)), (k0, .inr (0, [.int 0, .int 0, .int 0, .int 0, .int 0, .int 0, .int 0, .int 0, .int 0, .int 0, .ref w0, .ref w1, .ref w2, .ref w3, .ref w4, .ref w5, .ref w6, .ref w7, .ref w8, .ref w9])), (w0, .inl (g.2 0, 8, .inl fb0)), (w1, .inl (g.2 0, 32, .inl fb1)), (w2, .inl (g.2 0, 4, .inl fb2)), (w3, .inl (g.2 0, 4, .inl fb3)), (w4, .inl (g.2 0, 8, .inl fb4)), (w5, .inl (g.2 0, 8, .inl fb5)), (w6, .inl (g.2 0, 4, .inl fb6)), (w7, .inl (g.2 0, 20, .inl fb7)), (w8, .inl (g.2 0, 6, .inl fb8)), (w9, .inr (3, [.ref y0, .ref y1, .ref y2, .int 0])), (y0, .inl (g.2 0, 60, .inl fb9)), (y1, .inl (g.2 0, 60, .inl fb10)), (y2, .inl (g.2 0, 60, .inl fb11))] := hD
  refine lv_aload_n hx hb dX0_copyFrom_24 rfl (lv_at hl 0 rfl) ?_
  refine lv_aload_n hx hb dX0_copyFrom_25 rfl (lv_at hl 1 rfl) ?_
  refine g_get (C := RX0) (T := TX0) (N := 20) (ci := 0) (v := .int 0) FC hKn hP i_X0 14 rfl rfl 3 (by decide) b_109 rfl dX0_copyFrom_26 ?_
  refine g_put (C := RX0) (T := TX0) (N := 20) (ci := 0) (v := .int 0) FC hKn hP hD hS i_X0 tyX0 tyX0_ok nmX0 0 rfl rfl 3 (by decide) b_109 rfl rfl rfl (Nat.le_of_ble_eq_true rfl) dX0_copyFrom_29 (fun H locs hP hD hS => ?_)
  have hP : va_P g.1 vwCl [(h0, .inr (0, [.int 0, .int 0, .int 0, .int 0, .int 0, .int 0, .int 0, .int 0, .int 0, .int 0, .ref v0, .ref v1, .ref v2, .ref v3, .ref v4, .ref v5, .ref v6, .ref v7, .ref v8, .ref v9])), (v0, .inl (g.2 0, 8, .inl fa0)), (v1, .inl (g.2 0, 32, .inl fa1)), (v2, .inl (g.2 0, 4, .inl fa2)), (v3, .inl (g.2 0, 4, .inl fa3)), (v4, .inl (g.2 0, 8, .inl fa4)), (v5, .inl (g.2 0, 8, .inl fa5)), (v6, .inl (g.2 0, 4, .inl fa6)), (v7, .inl (g.2 0, 20, .inl fa7)), (v8, .inl (g.2 0, 6, .inl fa8)), (v9, .inr (3, [.ref x0, .ref x1, .ref x2, .int 0])), (x0, .inl (g.2 0, 60, .inl fa9)), (x1, .inl (g.2 0, 60, .inl fa10)), (x2, .inl (g.2 0, 60, .inl fa11)), (k0, .inr (0, [.int 0, .int 0, .int 0, .int 0, .int 0, .int 0, .int 0, .int 0, .int 0, .int 0, .ref w0, .ref w1, .ref w2, .ref w3, .ref w4, .ref w5, .ref w6, .ref w7, .ref w8, .ref w9])), (w0, .inl (g.2 0, 8, .inl fb0)), (w1, .inl (g.2 0, 32, .inl fb1)), (w2, .inl (g.2 0, 4, .inl fb2)), (w3, .inl (g.2 0, 4, .inl fb3)), (w4, .inl (g.2 0, 8, .inl fb4)), (w5, .inl (g.2 0, 8, .inl fb5)), (w6, .inl (g.2 0, 4, .inl fb6)), (w7, .inl (g.2 0, 20, .inl fb7)), (w8, .inl (g.2 0, 6, .inl fb8)), (w9, .inr (3, [.ref y0, .ref y1, .ref y2, .int 0])), (y0, .inl (g.2 0, 60, .inl fb9)), (y1, .inl (g.2 0, 60, .inl fb10)), (y2, .inl (g.2 0, 60, .inl fb11))] H := hP
  have hD : va_D A [(h0, .inr (0, [.int 0, .int 0, .int 0, .int 0, .int 0, .int 0, .int 0, .int 0, .int 0, .int 0, .ref v0, .ref v1, .ref v2, .ref v3, .ref v4, .ref v5, .ref v6, .ref v7, .ref v8, .ref v9])), (v0, .inl (g.2 0, 8, .inl fa0)), (v1, .inl (g.2 0, 32, .inl fa1)), (v2, .inl (g.2 0, 4, .inl fa2)), (v3, .inl (g.2 0, 4, .inl fa3)), (v4, .inl (g.2 0, 8, .inl fa4)), (v5, .inl (g.2 0, 8, .inl fa5)), (v6, .inl (g.2 0, 4, .inl fa6)), (v7, .inl (g.2 0, 20, .inl fa7)), (v8, .inl (g.2 0, 6, .inl fa8)), (v9, .inr (3, [.ref x0, .ref x1, .ref x2, .int 0])), (x0, .inl (g.2 0, 60, .inl fa9)), (x1, .inl (g.2 0, 60, .inl fa10)), (x2, .inl (g.2 0, 60, .inl fa11)), (k0, .inr (0, [.int 0, .int 0, .int 0, .int 0, .int 0, .int 0, .int 0, .int 0, .int 0, .int 0, .ref w0, .ref w1, .ref w2, .ref w3, .ref w4, .ref w5, .ref w6, .ref w7, .ref w8, .ref w9])), (w0, .inl (g.2 0, 8, .inl fb0)), (w1, .inl (g.2 0, 32, .inl fb1)), (w2, .inl (g.2 0, 4, .inl fb2)), (w3, .inl (g.2 0, 4, .inl fb3)), (w4, .inl (g.2 0, 8, .inl fb4)), (w5, .inl (g.2 0, 8, .inl fb5)), (w6, .inl (g.2 0, 4, .inl fb6)), (w7, .inl (g.2 0, 20, .inl fb7)), (w8, .inl (g.2 0, 6, .inl fb8)), (w9, .inr (3, [.ref y0, .ref y1, .ref y2, .int 0])), (y0, .inl (g.2 0, 60, .inl fb9)), (y1, .inl (g.2 0, 60, .inl fb10)), (y2, .inl (g.2 0, 60, .inl fb11))] := hD
  refine lv_aload_n hx hb dX0_copyFrom_32 rfl (lv_at hl 0 rfl) ?_
  refine lv_aload_n hx hb dX0_copyFrom_33 rfl (lv_at hl 1 rfl) ?_
  refine g_get (C := RX0) (T := TX0) (N := 20) (ci := 0) (v := .int 0) FC hKn hP i_X0 14 rfl rfl 4 (by decide) b_110 rfl dX0_copyFrom_34 ?_
  refine g_put (C := RX0) (T := TX0) (N := 20) (ci := 0) (v := .int 0) FC hKn hP hD hS i_X0 tyX0 tyX0_ok nmX0 0 rfl rfl 4 (by decide) b_110 rfl rfl rfl (Nat.le_of_ble_eq_true rfl) dX0_copyFrom_37 (fun H locs hP hD hS => ?_)
  have hP : va_P g.1 vwCl [(h0, .inr (0, [.int 0, .int 0, .int 0, .int 0, .int 0, .int 0, .int 0, .int 0, .int 0, .int 0, .ref v0, .ref v1, .ref v2, .ref v3, .ref v4, .ref v5, .ref v6, .ref v7, .ref v8, .ref v9])), (v0, .inl (g.2 0, 8, .inl fa0)), (v1, .inl (g.2 0, 32, .inl fa1)), (v2, .inl (g.2 0, 4, .inl fa2)), (v3, .inl (g.2 0, 4, .inl fa3)), (v4, .inl (g.2 0, 8, .inl fa4)), (v5, .inl (g.2 0, 8, .inl fa5)), (v6, .inl (g.2 0, 4, .inl fa6)), (v7, .inl (g.2 0, 20, .inl fa7)), (v8, .inl (g.2 0, 6, .inl fa8)), (v9, .inr (3, [.ref x0, .ref x1, .ref x2, .int 0])), (x0, .inl (g.2 0, 60, .inl fa9)), (x1, .inl (g.2 0, 60, .inl fa10)), (x2, .inl (g.2 0, 60, .inl fa11)), (k0, .inr (0, [.int 0, .int 0, .int 0, .int 0, .int 0, .int 0, .int 0, .int 0, .int 0, .int 0, .ref w0, .ref w1, .ref w2, .ref w3, .ref w4, .ref w5, .ref w6, .ref w7, .ref w8, .ref w9])), (w0, .inl (g.2 0, 8, .inl fb0)), (w1, .inl (g.2 0, 32, .inl fb1)), (w2, .inl (g.2 0, 4, .inl fb2)), (w3, .inl (g.2 0, 4, .inl fb3)), (w4, .inl (g.2 0, 8, .inl fb4)), (w5, .inl (g.2 0, 8, .inl fb5)), (w6, .inl (g.2 0, 4, .inl fb6)), (w7, .inl (g.2 0, 20, .inl fb7)), (w8, .inl (g.2 0, 6, .inl fb8)), (w9, .inr (3, [.ref y0, .ref y1, .ref y2, .int 0])), (y0, .inl (g.2 0, 60, .inl fb9)), (y1, .inl (g.2 0, 60, .inl fb10)), (y2, .inl (g.2 0, 60, .inl fb11))] H := hP
  have hD : va_D A [(h0, .inr (0, [.int 0, .int 0, .int 0, .int 0, .int 0, .int 0, .int 0, .int 0, .int 0, .int 0, .ref v0, .ref v1, .ref v2, .ref v3, .ref v4, .ref v5, .ref v6, .ref v7, .ref v8, .ref v9])), (v0, .inl (g.2 0, 8, .inl fa0)), (v1, .inl (g.2 0, 32, .inl fa1)), (v2, .inl (g.2 0, 4, .inl fa2)), (v3, .inl (g.2 0, 4, .inl fa3)), (v4, .inl (g.2 0, 8, .inl fa4)), (v5, .inl (g.2 0, 8, .inl fa5)), (v6, .inl (g.2 0, 4, .inl fa6)), (v7, .inl (g.2 0, 20, .inl fa7)), (v8, .inl (g.2 0, 6, .inl fa8)), (v9, .inr (3, [.ref x0, .ref x1, .ref x2, .int 0])), (x0, .inl (g.2 0, 60, .inl fa9)), (x1, .inl (g.2 0, 60, .inl fa10)), (x2, .inl (g.2 0, 60, .inl fa11)), (k0, .inr (0, [.int 0, .int 0, .int 0, .int 0, .int 0, .int 0, .int 0, .int 0, .int 0, .int 0, .ref w0, .ref w1, .ref w2, .ref w3, .ref w4, .ref w5, .ref w6, .ref w7, .ref w8, .ref w9])), (w0, .inl (g.2 0, 8, .inl fb0)), (w1, .inl (g.2 0, 32, .inl fb1)), (w2, .inl (g.2 0, 4, .inl fb2)), (w3, .inl (g.2 0, 4, .inl fb3)), (w4, .inl (g.2 0, 8, .inl fb4)), (w5, .inl (g.2 0, 8, .inl fb5)), (w6, .inl (g.2 0, 4, .inl fb6)), (w7, .inl (g.2 0, 20, .inl fb7)), (w8, .inl (g.2 0, 6, .inl fb8)), (w9, .inr (3, [.ref y0, .ref y1, .ref y2, .int 0])), (y0, .inl (g.2 0, 60, .inl fb9)), (y1, .inl (g.2 0, 60, .inl fb10)), (y2, .inl (g.2 0, 60, .inl fb11))] := hD
  refine lv_aload_n hx hb dX0_copyFrom_40 rfl (lv_at hl 0 rfl) ?_
  refine lv_aload_n hx hb dX0_copyFrom_41 rfl (lv_at hl 1 rfl) ?_
  refine g_get (C := RX0) (T := TX0) (N := 20) (ci := 0) (v := .int 0) FC hKn hP i_X0 14 rfl rfl 5 (by decide) b_1 rfl dX0_copyFrom_42 ?_
  refine g_put (C := RX0) (T := TX0) (N := 20) (ci := 0) (v := .int 0) FC hKn hP hD hS i_X0 tyX0 tyX0_ok nmX0 0 rfl rfl 5 (by decide) b_1 rfl rfl rfl (Nat.le_of_ble_eq_true rfl) dX0_copyFrom_45 (fun H locs hP hD hS => ?_)
  have hP : va_P g.1 vwCl [(h0, .inr (0, [.int 0, .int 0, .int 0, .int 0, .int 0, .int 0, .int 0, .int 0, .int 0, .int 0, .ref v0, .ref v1, .ref v2, .ref v3, .ref v4, .ref v5, .ref v6, .ref v7, .ref v8, .ref v9])), (v0, .inl (g.2 0, 8, .inl fa0)), (v1, .inl (g.2 0, 32, .inl fa1)), (v2, .inl (g.2 0, 4, .inl fa2)), (v3, .inl (g.2 0, 4, .inl fa3)), (v4, .inl (g.2 0, 8, .inl fa4)), (v5, .inl (g.2 0, 8, .inl fa5)), (v6, .inl (g.2 0, 4, .inl fa6)), (v7, .inl (g.2 0, 20, .inl fa7)), (v8, .inl (g.2 0, 6, .inl fa8)), (v9, .inr (3, [.ref x0, .ref x1, .ref x2, .int 0])), (x0, .inl (g.2 0, 60, .inl fa9)), (x1, .inl (g.2 0, 60, .inl fa10)), (x2, .inl (g.2 0, 60, .inl fa11)), (k0, .inr (0, [.int 0, .int 0, .int 0, .int 0, .int 0, .int 0, .int 0, .int 0, .int 0, .int 0, .ref w0, .ref w1, .ref w2, .ref w3, .ref w4, .ref w5, .ref w6, .ref w7, .ref w8, .ref w9])), (w0, .inl (g.2 0, 8, .inl fb0)), (w1, .inl (g.2 0, 32, .inl fb1)), (w2, .inl (g.2 0, 4, .inl fb2)), (w3, .inl (g.2 0, 4, .inl fb3)), (w4, .inl (g.2 0, 8, .inl fb4)), (w5, .inl (g.2 0, 8, .inl fb5)), (w6, .inl (g.2 0, 4, .inl fb6)), (w7, .inl (g.2 0, 20, .inl fb7)), (w8, .inl (g.2 0, 6, .inl fb8)), (w9, .inr (3, [.ref y0, .ref y1, .ref y2, .int 0])), (y0, .inl (g.2 0, 60, .inl fb9)), (y1, .inl (g.2 0, 60, .inl fb10)), (y2, .inl (g.2 0, 60, .inl fb11))] H := hP
  have hD : va_D A [(h0, .inr (0, [.int 0, .int 0, .int 0, .int 0, .int 0, .int 0, .int 0, .int 0, .int 0, .int 0, .ref v0, .ref v1, .ref v2, .ref v3, .ref v4, .ref v5, .ref v6, .ref v7, .ref v8, .ref v9])), (v0, .inl (g.2 0, 8, .inl fa0)), (v1, .inl (g.2 0, 32, .inl fa1)), (v2, .inl (g.2 0, 4, .inl fa2)), (v3, .inl (g.2 0, 4, .inl fa3)), (v4, .inl (g.2 0, 8, .inl fa4)), (v5, .inl (g.2 0, 8, .inl fa5)), (v6, .inl (g.2 0, 4, .inl fa6)), (v7, .inl (g.2 0, 20, .inl fa7)), (v8, .inl (g.2 0, 6, .inl fa8)), (v9, .inr (3, [.ref x0, .ref x1, .ref x2, .int 0])), (x0, .inl (g.2 0, 60, .inl fa9)), (x1, .inl (g.2 0, 60, .inl fa10)), (x2, .inl (g.2 0, 60, .inl fa11)), (k0, .inr (0, [.int 0, .int 0, .int 0, .int 0, .int 0, .int 0, .int 0, .int 0, .int 0, .int 0, .ref w0, .ref w1, .ref w2, .ref w3, .ref w4, .ref w5, .ref w6, .ref w7, .ref w8, .ref w9])), (w0, .inl (g.2 0, 8, .inl fb0)), (w1, .inl (g.2 0, 32, .inl fb1)), (w2, .inl (g.2 0, 4, .inl fb2)), (w3, .inl (g.2 0, 4, .inl fb3)), (w4, .inl (g.2 0, 8, .inl fb4)), (w5, .inl (g.2 0, 8, .inl fb5)), (w6, .inl (g.2 0, 4, .inl fb6)), (w7, .inl (g.2 0, 20, .inl fb7)), (w8, .inl (g.2 0, 6, .inl fb8)), (w9, .inr (3, [.ref y0, .ref y1, .ref y2, .int 0])), (y0, .inl (g.2 0, 60, .inl fb9)), (y1, .inl (g.2 0, 60, .inl fb10)), (y2, .inl (g.2 0, 60, .inl fb11))] := hD
  refine lv_aload_n hx hb dX0_copyFrom_48 rfl (lv_at hl 0 rfl) ?_
  refine lv_aload_n hx hb dX0_copyFrom_49 rfl (lv_at hl 1 rfl) ?_
  refine g_get (C := RX0) (T := TX0) (N := 20) (ci := 0) (v := .int 0) FC hKn hP i_X0 14 rfl rfl 6 (by decide) b_3 rfl dX0_copyFrom_50 ?_
  refine g_put (C := RX0) (T := TX0) (N := 20) (ci := 0) (v := .int 0) FC hKn hP hD hS i_X0 tyX0 tyX0_ok nmX0 0 rfl rfl 6 (by decide) b_3 rfl rfl rfl (Nat.le_of_ble_eq_true rfl) dX0_copyFrom_53 (fun H locs hP hD hS => ?_)
  have hP : va_P g.1 vwCl [(h0, .inr (0, [.int 0, .int 0, .int 0, .int 0, .int 0, .int 0, .int 0, .int 0, .int 0, .int 0, .ref v0, .ref v1, .ref v2, .ref v3, .ref v4, .ref v5, .ref v6, .ref v7, .ref v8, .ref v9])), (v0, .inl (g.2 0, 8, .inl fa0)), (v1, .inl (g.2 0, 32, .inl fa1)), (v2, .inl (g.2 0, 4, .inl fa2)), (v3, .inl (g.2 0, 4, .inl fa3)), (v4, .inl (g.2 0, 8, .inl fa4)), (v5, .inl (g.2 0, 8, .inl fa5)), (v6, .inl (g.2 0, 4, .inl fa6)), (v7, .inl (g.2 0, 20, .inl fa7)), (v8, .inl (g.2 0, 6, .inl fa8)), (v9, .inr (3, [.ref x0, .ref x1, .ref x2, .int 0])), (x0, .inl (g.2 0, 60, .inl fa9)), (x1, .inl (g.2 0, 60, .inl fa10)), (x2, .inl (g.2 0, 60, .inl fa11)), (k0, .inr (0, [.int 0, .int 0, .int 0, .int 0, .int 0, .int 0, .int 0, .int 0, .int 0, .int 0, .ref w0, .ref w1, .ref w2, .ref w3, .ref w4, .ref w5, .ref w6, .ref w7, .ref w8, .ref w9])), (w0, .inl (g.2 0, 8, .inl fb0)), (w1, .inl (g.2 0, 32, .inl fb1)), (w2, .inl (g.2 0, 4, .inl fb2)), (w3, .inl (g.2 0, 4, .inl fb3)), (w4, .inl (g.2 0, 8, .inl fb4)), (w5, .inl (g.2 0, 8, .inl fb5)), (w6, .inl (g.2 0, 4, .inl fb6)), (w7, .inl (g.2 0, 20, .inl fb7)), (w8, .inl (g.2 0, 6, .inl fb8)), (w9, .inr (3, [.ref y0, .ref y1, .ref y2, .int 0])), (y0, .inl (g.2 0, 60, .inl fb9)), (y1, .inl (g.2 0, 60, .inl fb10)), (y2, .inl (g.2 0, 60, .inl fb11))] H := hP
  have hD : va_D A [(h0, .inr (0, [.int 0, .int 0, .int 0, .int 0, .int 0, .int 0, .int 0, .int 0, .int 0, .int 0, .ref v0, .ref v1, .ref v2, .ref v3, .ref v4, .ref v5, .ref v6, .ref v7, .ref v8, .ref v9])), (v0, .inl (g.2 0, 8, .inl fa0)), (v1, .inl (g.2 0, 32, .inl fa1)), (v2, .inl (g.2 0, 4, .inl fa2)), (v3, .inl (g.2 0, 4, .inl fa3)), (v4, .inl (g.2 0, 8, .inl fa4)), (v5, .inl (g.2 0, 8, .inl fa5)), (v6, .inl (g.2 0, 4, .inl fa6)), (v7, .inl (g.2 0, 20, .inl fa7)), (v8, .inl (g.2 0, 6, .inl fa8)), (v9, .inr (3, [.ref x0, .ref x1, .ref x2, .int 0])), (x0, .inl (g.2 0, 60, .inl fa9)), (x1, .inl (g.2 0, 60, .inl fa10)), (x2, .inl (g.2 0, 60, .inl fa11)), (k0, .inr (0, [.int 0, .int 0, .int 0, .int 0, .int 0, .int 0, .int 0, .int 0, .int 0, .int 0, .ref w0, .ref w1, .ref w2, .ref w3, .ref w4, .ref w5, .ref w6, .ref w7, .ref w8, .ref w9])), (w0, .inl (g.2 0, 8, .inl fb0)), (w1, .inl (g.2 0, 32, .inl fb1)), (w2, .inl (g.2 0, 4, .inl fb2)), (w3, .inl (g.2 0, 4, .inl fb3)), (w4, .inl (g.2 0, 8, .inl fb4)), (w5, .inl (g.2 0, 8, .inl fb5)), (w6, .inl (g.2 0, 4, .inl fb6)), (w7, .inl (g.2 0, 20, .inl fb7)), (w8, .inl (g.2 0, 6, .inl fb8)), (w9, .inr (3, [.ref y0, .ref y1, .ref y2, .int 0])), (y0, .inl (g.2 0, 60, .inl fb9)), (y1, .inl (g.2 0, 60, .inl fb10)), (y2, .inl (g.2 0, 60, .inl fb11))] := hD
  refine lv_aload_n hx hb dX0_copyFrom_56 rfl (lv_at hl 0 rfl) ?_
  refine lv_aload_n hx hb dX0_copyFrom_57 rfl (lv_at hl 1 rfl) ?_
  refine g_get (C := RX0) (T := TX0) (N := 20) (ci := 0) (v := .int 0) FC hKn hP i_X0 14 rfl rfl 7 (by decide) b_4 rfl dX0_copyFrom_58 ?_
  refine g_put (C := RX0) (T := TX0) (N := 20) (ci := 0) (v := .int 0) FC hKn hP hD hS i_X0 tyX0 tyX0_ok nmX0 0 rfl rfl 7 (by decide) b_4 rfl rfl rfl (Nat.le_of_ble_eq_true rfl) dX0_copyFrom_61 (fun H locs hP hD hS => ?_)
  have hP : va_P g.1 vwCl [(h0, .inr (0, [.int 0, .int 0, .int 0, .int 0, .int 0, .int 0, .int 0, .int 0, .int 0, .int 0, .ref v0, .ref v1, .ref v2, .ref v3, .ref v4, .ref v5, .ref v6, .ref v7, .ref v8, .ref v9])), (v0, .inl (g.2 0, 8, .inl fa0)), (v1, .inl (g.2 0, 32, .inl fa1)), (v2, .inl (g.2 0, 4, .inl fa2)), (v3, .inl (g.2 0, 4, .inl fa3)), (v4, .inl (g.2 0, 8, .inl fa4)), (v5, .inl (g.2 0, 8, .inl fa5)), (v6, .inl (g.2 0, 4, .inl fa6)), (v7, .inl (g.2 0, 20, .inl fa7)), (v8, .inl (g.2 0, 6, .inl fa8)), (v9, .inr (3, [.ref x0, .ref x1, .ref x2, .int 0])), (x0, .inl (g.2 0, 60, .inl fa9)), (x1, .inl (g.2 0, 60, .inl fa10)), (x2, .inl (g.2 0, 60, .inl fa11)), (k0, .inr (0, [.int 0, .int 0, .int 0, .int 0, .int 0, .int 0, .int 0, .int 0, .int 0, .int 0, .ref w0, .ref w1, .ref w2, .ref w3, .ref w4, .ref w5, .ref w6, .ref w7, .ref w8, .ref w9])), (w0, .inl (g.2 0, 8, .inl fb0)), (w1, .inl (g.2 0, 32, .inl fb1)), (w2, .inl (g.2 0, 4, .inl fb2)), (w3, .inl (g.2 0, 4, .inl fb3)), (w4, .inl (g.2 0, 8, .inl fb4)), (w5, .inl (g.2 0, 8, .inl fb5)), (w6, .inl (g.2 0, 4, .inl fb6)), (w7, .inl (g.2 0, 20, .inl fb7)), (w8, .inl (g.2 0, 6, .inl fb8)), (w9, .inr (3, [.ref y0, .ref y1, .ref y2, .int 0])), (y0, .inl (g.2 0, 60, .inl fb9)), (y1, .inl (g.2 0, 60, .inl fb10)), (y2, .inl (g.2 0, 60, .inl fb11))] H := hP
  have hD : va_D A [(h0, .inr (0, [.int 0, .int 0, .int 0, .int 0, .int 0, .int 0, .int 0, .int 0, .int 0, .int 0, .ref v0, .ref v1, .ref v2, .ref v3, .ref v4, .ref v5, .ref v6, .ref v7, .ref v8, .ref v9])), (v0, .inl (g.2 0, 8, .inl fa0)), (v1, .inl (g.2 0, 32, .inl fa1)), (v2, .inl (g.2 0, 4, .inl fa2)), (v3, .inl (g.2 0, 4, .inl fa3)), (v4, .inl (g.2 0, 8, .inl fa4)), (v5, .inl (g.2 0, 8, .inl fa5)), (v6, .inl (g.2 0, 4, .inl fa6)), (v7, .inl (g.2 0, 20, .inl fa7)), (v8, .inl (g.2 0, 6, .inl fa8)), (v9, .inr (3, [.ref x0, .ref x1, .ref x2, .int 0])), (x0, .inl (g.2 0, 60, .inl fa9)), (x1, .inl (g.2 0, 60, .inl fa10)), (x2, .inl (g.2 0, 60, .inl fa11)), (k0, .inr (0, [.int 0, .int 0, .int 0, .int 0, .int 0, .int 0, .int 0, .int 0, .int 0, .int 0, .ref w0, .ref w1, .ref w2, .ref w3, .ref w4, .ref w5, .ref w6, .ref w7, .ref w8, .ref w9])), (w0, .inl (g.2 0, 8, .inl fb0)), (w1, .inl (g.2 0, 32, .inl fb1)), (w2, .inl (g.2 0, 4, .inl fb2)), (w3, .inl (g.2 0, 4, .inl fb3)), (w4, .inl (g.2 0, 8, .inl fb4)), (w5, .inl (g.2 0, 8, .inl fb5)), (w6, .inl (g.2 0, 4, .inl fb6)), (w7, .inl (g.2 0, 20, .inl fb7)), (w8, .inl (g.2 0, 6, .inl fb8)), (w9, .inr (3, [.ref y0, .ref y1, .ref y2, .int 0])), (y0, .inl (g.2 0, 60, .inl fb9)), (y1, .inl (g.2 0, 60, .inl fb10)), (y2, .inl (g.2 0, 60, .inl fb11))] := hD
  refine lv_aload_n hx hb dX0_copyFrom_64 rfl (lv_at hl 0 rfl) ?_
  refine lv_aload_n hx hb dX0_copyFrom_65 rfl (lv_at hl 1 rfl) ?_
  refine g_get (C := RX0) (T := TX0) (N := 20) (ci := 0) (v := .int 0) FC hKn hP i_X0 14 rfl rfl 8 (by decide) b_5 rfl dX0_copyFrom_66 ?_
  refine g_put (C := RX0) (T := TX0) (N := 20) (ci := 0) (v := .int 0) FC hKn hP hD hS i_X0 tyX0 tyX0_ok nmX0 0 rfl rfl 8 (by decide) b_5 rfl rfl rfl (Nat.le_of_ble_eq_true rfl) dX0_copyFrom_69 (fun H locs hP hD hS => ?_)
  have hP : va_P g.1 vwCl [(h0, .inr (0, [.int 0, .int 0, .int 0, .int 0, .int 0, .int 0, .int 0, .int 0, .int 0, .int 0, .ref v0, .ref v1, .ref v2, .ref v3, .ref v4, .ref v5, .ref v6, .ref v7, .ref v8, .ref v9])), (v0, .inl (g.2 0, 8, .inl fa0)), (v1, .inl (g.2 0, 32, .inl fa1)), (v2, .inl (g.2 0, 4, .inl fa2)), (v3, .inl (g.2 0, 4, .inl fa3)), (v4, .inl (g.2 0, 8, .inl fa4)), (v5, .inl (g.2 0, 8, .inl fa5)), (v6, .inl (g.2 0, 4, .inl fa6)), (v7, .inl (g.2 0, 20, .inl fa7)), (v8, .inl (g.2 0, 6, .inl fa8)), (v9, .inr (3, [.ref x0, .ref x1, .ref x2, .int 0])), (x0, .inl (g.2 0, 60, .inl fa9)), (x1, .inl (g.2 0, 60, .inl fa10)), (x2, .inl (g.2 0, 60, .inl fa11)), (k0, .inr (0, [.int 0, .int 0, .int 0, .int 0, .int 0, .int 0, .int 0, .int 0, .int 0, .int 0, .ref w0, .ref w1, .ref w2, .ref w3, .ref w4, .ref w5, .ref w6, .ref w7, .ref w8, .ref w9])), (w0, .inl (g.2 0, 8, .inl fb0)), (w1, .inl (g.2 0, 32, .inl fb1)), (w2, .inl (g.2 0, 4, .inl fb2)), (w3, .inl (g.2 0, 4, .inl fb3)), (w4, .inl (g.2 0, 8, .inl fb4)), (w5, .inl (g.2 0, 8, .inl fb5)), (w6, .inl (g.2 0, 4, .inl fb6)), (w7, .inl (g.2 0, 20, .inl fb7)), (w8, .inl (g.2 0, 6, .inl fb8)), (w9, .inr (3, [.ref y0, .ref y1, .ref y2, .int 0])), (y0, .inl (g.2 0, 60, .inl fb9)), (y1, .inl (g.2 0, 60, .inl fb10)), (y2, .inl (g.2 0, 60, .inl fb11))] H := hP
  have hD : va_D A [(h0, .inr (0, [.int 0, .int 0, .int 0, .int 0, .int 0, .int 0, .int 0, .int 0, .int 0, .int 0, .ref v0, .ref v1, .ref v2, .ref v3, .ref v4, .ref v5, .ref v6, .ref v7, .ref v8, .ref v9])), (v0, .inl (g.2 0, 8, .inl fa0)), (v1, .inl (g.2 0, 32, .inl fa1)), (v2, .inl (g.2 0, 4, .inl fa2)), (v3, .inl (g.2 0, 4, .inl fa3)), (v4, .inl (g.2 0, 8, .inl fa4)), (v5, .inl (g.2 0, 8, .inl fa5)), (v6, .inl (g.2 0, 4, .inl fa6)), (v7, .inl (g.2 0, 20, .inl fa7)), (v8, .inl (g.2 0, 6, .inl fa8)), (v9, .inr (3, [.ref x0, .ref x1, .ref x2, .int 0])), (x0, .inl (g.2 0, 60, .inl fa9)), (x1, .inl (g.2 0, 60, .inl fa10)), (x2, .inl (g.2 0, 60, .inl fa11)), (k0, .inr (0, [.int 0, .int 0, .int 0, .int 0, .int 0, .int 0, .int 0, .int 0, .int 0, .int 0, .ref w0, .ref w1, .ref w2, .ref w3, .ref w4, .ref w5, .ref w6, .ref w7, .ref w8, .ref w9])), (w0, .inl (g.2 0, 8, .inl fb0)), (w1, .inl (g.2 0, 32, .inl fb1)), (w2, .inl (g.2 0, 4, .inl fb2)), (w3, .inl (g.2 0, 4, .inl fb3)), (w4, .inl (g.2 0, 8, .inl fb4)), (w5, .inl (g.2 0, 8, .inl fb5)), (w6, .inl (g.2 0, 4, .inl fb6)), (w7, .inl (g.2 0, 20, .inl fb7)), (w8, .inl (g.2 0, 6, .inl fb8)), (w9, .inr (3, [.ref y0, .ref y1, .ref y2, .int 0])), (y0, .inl (g.2 0, 60, .inl fb9)), (y1, .inl (g.2 0, 60, .inl fb10)), (y2, .inl (g.2 0, 60, .inl fb11))] := hD
  refine lv_aload_n hx hb dX0_copyFrom_72 rfl (lv_at hl 0 rfl) ?_
  refine lv_aload_n hx hb dX0_copyFrom_73 rfl (lv_at hl 1 rfl) ?_
  refine g_get (C := RX0) (T := TX0) (N := 20) (ci := 0) (v := .int 0) FC hKn hP i_X0 14 rfl rfl 9 (by decide) b_6 rfl dX0_copyFrom_74 ?_
  refine g_put (C := RX0) (T := TX0) (N := 20) (ci := 0) (v := .int 0) FC hKn hP hD hS i_X0 tyX0 tyX0_ok nmX0 0 rfl rfl 9 (by decide) b_6 rfl rfl rfl (Nat.le_of_ble_eq_true rfl) dX0_copyFrom_77 (fun H locs hP hD hS => ?_)
  have hP : va_P g.1 vwCl [(h0, .inr (0, [.int 0, .int 0, .int 0, .int 0, .int 0, .int 0, .int 0, .int 0, .int 0, .int 0, .ref v0, .ref v1, .ref v2, .ref v3, .ref v4, .ref v5, .ref v6, .ref v7, .ref v8, .ref v9])), (v0, .inl (g.2 0, 8, .inl fa0)), (v1, .inl (g.2 0, 32, .inl fa1)), (v2, .inl (g.2 0, 4, .inl fa2)), (v3, .inl (g.2 0, 4, .inl fa3)), (v4, .inl (g.2 0, 8, .inl fa4)), (v5, .inl (g.2 0, 8, .inl fa5)), (v6, .inl (g.2 0, 4, .inl fa6)), (v7, .inl (g.2 0, 20, .inl fa7)), (v8, .inl (g.2 0, 6, .inl fa8)), (v9, .inr (3, [.ref x0, .ref x1, .ref x2, .int 0])), (x0, .inl (g.2 0, 60, .inl fa9)), (x1, .inl (g.2 0, 60, .inl fa10)), (x2, .inl (g.2 0, 60, .inl fa11)), (k0, .inr (0, [.int 0, .int 0, .int 0, .int 0, .int 0, .int 0, .int 0, .int 0, .int 0, .int 0, .ref w0, .ref w1, .ref w2, .ref w3, .ref w4, .ref w5, .ref w6, .ref w7, .ref w8, .ref w9])), (w0, .inl (g.2 0, 8, .inl fb0)), (w1, .inl (g.2 0, 32, .inl fb1)), (w2, .inl (g.2 0, 4, .inl fb2)), (w3, .inl (g.2 0, 4, .inl fb3)), (w4, .inl (g.2 0, 8, .inl fb4)), (w5, .inl (g.2 0, 8, .inl fb5)), (w6, .inl (g.2 0, 4, .inl fb6)), (w7, .inl (g.2 0, 20, .inl fb7)), (w8, .inl (g.2 0, 6, .inl fb8)), (w9, .inr (3, [.ref y0, .ref y1, .ref y2, .int 0])), (y0, .inl (g.2 0, 60, .inl fb9)), (y1, .inl (g.2 0, 60, .inl fb10)), (y2, .inl (g.2 0, 60, .inl fb11))] H := hP
  have hD : va_D A [(h0, .inr (0, [.int 0, .int 0, .int 0, .int 0, .int 0, .int 0, .int 0, .int 0, .int 0, .int 0, .ref v0, .ref v1, .ref v2, .ref v3, .ref v4, .ref v5, .ref v6, .ref v7, .ref v8, .ref v9])), (v0, .inl (g.2 0, 8, .inl fa0)), (v1, .inl (g.2 0, 32, .inl fa1)), (v2, .inl (g.2 0, 4, .inl fa2)), (v3, .inl (g.2 0, 4, .inl fa3)), (v4, .inl (g.2 0, 8, .inl fa4)), (v5, .inl (g.2 0, 8, .inl fa5)), (v6, .inl (g.2 0, 4, .inl fa6)), (v7, .inl (g.2 0, 20, .inl fa7)), (v8, .inl (g.2 0, 6, .inl fa8)), (v9, .inr (3, [.ref x0, .ref x1, .ref x2, .int 0])), (x0, .inl (g.2 0, 60, .inl fa9)), (x1, .inl (g.2 0, 60, .inl fa10)), (x2, .inl (g.2 0, 60, .inl fa11)), (k0, .inr (0, [.int 0, .int 0, .int 0, .int 0, .int 0, .int 0, .int 0, .int 0, .int 0, .int 0, .ref w0, .ref w1, .ref w2, .ref w3, .ref w4, .ref w5, .ref w6, .ref w7, .ref w8, .ref w9])), (w0, .inl (g.2 0, 8, .inl fb0)), (w1, .inl (g.2 0, 32, .inl fb1)), (w2, .inl (g.2 0, 4, .inl fb2)), (w3, .inl (g.2 0, 4, .inl fb3)), (w4, .inl (g.2 0, 8, .inl fb4)), (w5, .inl (g.2 0, 8, .inl fb5)), (w6, .inl (g.2 0, 4, .inl fb6)), (w7, .inl (g.2 0, 20, .inl fb7)), (w8, .inl (g.2 0, 6, .inl fb8)), (w9, .inr (3, [.ref y0, .ref y1, .ref y2, .int 0])), (y0, .inl (g.2 0, 60, .inl fb9)), (y1, .inl (g.2 0, 60, .inl fb10)), (y2, .inl (g.2 0, 60, .inl fb11))] := hD
  refine lv_aload_n hx hb dX0_copyFrom_80 rfl (lv_at hl 1 rfl) ?_
  refine g_get (C := RX0) (T := TX0) (N := 20) (ci := 0) (v := .ref w0) FC hKn hP i_X0 14 rfl rfl 10 (by decide) b_111 rfl dX0_copyFrom_81 ?_
  refine lv_iconst (v := 0) hx hb dX0_copyFrom_84 (by decide) ?_
  refine lv_aload_n hx hb dX0_copyFrom_85 rfl (lv_at hl 0 rfl) ?_
  refine g_get (C := RX0) (T := TX0) (N := 20) (ci := 0) (v := .ref v0) FC hKn hP i_X0 0 rfl rfl 10 (by decide) b_111 rfl dX0_copyFrom_86 ?_
  refine lv_iconst (v := 0) hx hb dX0_copyFrom_89 (by decide) ?_
  refine lv_bipush (v := 8) hx hb dX0_copyFrom_90 (by decide) ?_
  refine va_copyi hx hb (by rw [hml]; exact hl.1.symm) hown (hB _ b_112) (hB _ b_102) (hB _ b_103) (hB _ b_104) hKn.1 hP hD hS 15 1 0 0 rfl rfl rfl rfl rfl (by decide) (by decide) (by decide) (by decide) (by decide) (fun _ _ => rfl) (Nat.le_of_ble_eq_true rfl) (Nat.le_of_ble_eq_true rfl) dX0_copyFrom_92 (fun H locs hP hD hS => ?_)
  have hP : va_P g.1 vwCl [(h0, .inr (0, [.int 0, .int 0, .int 0, .int 0, .int 0, .int 0, .int 0, .int 0, .int 0, .int 0, .ref v0, .ref v1, .ref v2, .ref v3, .ref v4, .ref v5, .ref v6, .ref v7, .ref v8, .ref v9])), (v0, .inl (g.2 0, 8, .inl (va_cpy fb0 fa0 (0 : Int32).toNatClampNeg (0 : Int32).toNatClampNeg (8 : Int32).toNatClampNeg))), (v1, .inl (g.2 0, 32, .inl fa1)), (v2, .inl (g.2 0, 4, .inl fa2)), (v3, .inl (g.2 0, 4, .inl fa3)), (v4, .inl (g.2 0, 8, .inl fa4)), (v5, .inl (g.2 0, 8, .inl fa5)), (v6, .inl (g.2 0, 4, .inl fa6)), (v7, .inl (g.2 0, 20, .inl fa7)), (v8, .inl (g.2 0, 6, .inl fa8)), (v9, .inr (3, [.ref x0, .ref x1, .ref x2, .int 0])), (x0, .inl (g.2 0, 60, .inl fa9)), (x1, .inl (g.2 0, 60, .inl fa10)), (x2, .inl (g.2 0, 60, .inl fa11)), (k0, .inr (0, [.int 0, .int 0, .int 0, .int 0, .int 0, .int 0, .int 0, .int 0, .int 0, .int 0, .ref w0, .ref w1, .ref w2, .ref w3, .ref w4, .ref w5, .ref w6, .ref w7, .ref w8, .ref w9])), (w0, .inl (g.2 0, 8, .inl fb0)), (w1, .inl (g.2 0, 32, .inl fb1)), (w2, .inl (g.2 0, 4, .inl fb2)), (w3, .inl (g.2 0, 4, .inl fb3)), (w4, .inl (g.2 0, 8, .inl fb4)), (w5, .inl (g.2 0, 8, .inl fb5)), (w6, .inl (g.2 0, 4, .inl fb6)), (w7, .inl (g.2 0, 20, .inl fb7)), (w8, .inl (g.2 0, 6, .inl fb8)), (w9, .inr (3, [.ref y0, .ref y1, .ref y2, .int 0])), (y0, .inl (g.2 0, 60, .inl fb9)), (y1, .inl (g.2 0, 60, .inl fb10)), (y2, .inl (g.2 0, 60, .inl fb11))] H := hP
  have hD : va_D A [(h0, .inr (0, [.int 0, .int 0, .int 0, .int 0, .int 0, .int 0, .int 0, .int 0, .int 0, .int 0, .ref v0, .ref v1, .ref v2, .ref v3, .ref v4, .ref v5, .ref v6, .ref v7, .ref v8, .ref v9])), (v0, .inl (g.2 0, 8, .inl (va_cpy fb0 fa0 (0 : Int32).toNatClampNeg (0 : Int32).toNatClampNeg (8 : Int32).toNatClampNeg))), (v1, .inl (g.2 0, 32, .inl fa1)), (v2, .inl (g.2 0, 4, .inl fa2)), (v3, .inl (g.2 0, 4, .inl fa3)), (v4, .inl (g.2 0, 8, .inl fa4)), (v5, .inl (g.2 0, 8, .inl fa5)), (v6, .inl (g.2 0, 4, .inl fa6)), (v7, .inl (g.2 0, 20, .inl fa7)), (v8, .inl (g.2 0, 6, .inl fa8)), (v9, .inr (3, [.ref x0, .ref x1, .ref x2, .int 0])), (x0, .inl (g.2 0, 60, .inl fa9)), (x1, .inl (g.2 0, 60, .inl fa10)), (x2, .inl (g.2 0, 60, .inl fa11)), (k0, .inr (0, [.int 0, .int 0, .int 0, .int 0, .int 0, .int 0, .int 0, .int 0, .int 0, .int 0, .ref w0, .ref w1, .ref w2, .ref w3, .ref w4, .ref w5, .ref w6, .ref w7, .ref w8, .ref w9])), (w0, .inl (g.2 0, 8, .inl fb0)), (w1, .inl (g.2 0, 32, .inl fb1)), (w2, .inl (g.2 0, 4, .inl fb2)), (w3, .inl (g.2 0, 4, .inl fb3)), (w4, .inl (g.2 0, 8, .inl fb4)), (w5, .inl (g.2 0, 8, .inl fb5)), (w6, .inl (g.2 0, 4, .inl fb6)), (w7, .inl (g.2 0, 20, .inl fb7)), (w8, .inl (g.2 0, 6, .inl fb8)), (w9, .inr (3, [.ref y0, .ref y1, .ref y2, .int 0])), (y0, .inl (g.2 0, 60, .inl fb9)), (y1, .inl (g.2 0, 60, .inl fb10)), (y2, .inl (g.2 0, 60, .inl fb11))] := hD
  generalize (va_cpy fb0 fa0 (0 : Int32).toNatClampNeg (0 : Int32).toNatClampNeg (8 : Int32).toNatClampNeg : Nat → Int32) = f1 at hP hD
  refine lv_aload_n hx hb dX0_copyFrom_95 rfl (lv_at hl 1 rfl) ?_
  refine g_get (C := RX0) (T := TX0) (N := 20) (ci := 0) (v := .ref w1) FC hKn hP i_X0 14 rfl rfl 11 (by decide) b_113 rfl dX0_copyFrom_96 ?_
  refine lv_iconst (v := 0) hx hb dX0_copyFrom_99 (by decide) ?_
  refine lv_aload_n hx hb dX0_copyFrom_100 rfl (lv_at hl 0 rfl) ?_
  refine g_get (C := RX0) (T := TX0) (N := 20) (ci := 0) (v := .ref v1) FC hKn hP i_X0 0 rfl rfl 11 (by decide) b_113 rfl dX0_copyFrom_101 ?_
  refine lv_iconst (v := 0) hx hb dX0_copyFrom_104 (by decide) ?_
  refine lv_bipush (v := 32) hx hb dX0_copyFrom_105 (by decide) ?_
  refine va_copyi hx hb (by rw [hml]; exact hl.1.symm) hown (hB _ b_112) (hB _ b_102) (hB _ b_103) (hB _ b_104) hKn.1 hP hD hS 16 2 0 0 rfl rfl rfl rfl rfl (by decide) (by decide) (by decide) (by decide) (by decide) (fun _ _ => rfl) (Nat.le_of_ble_eq_true rfl) (Nat.le_of_ble_eq_true rfl) dX0_copyFrom_107 (fun H locs hP hD hS => ?_)
  have hP : va_P g.1 vwCl [(h0, .inr (0, [.int 0, .int 0, .int 0, .int 0, .int 0, .int 0, .int 0, .int 0, .int 0, .int 0, .ref v0, .ref v1, .ref v2, .ref v3, .ref v4, .ref v5, .ref v6, .ref v7, .ref v8, .ref v9])), (v0, .inl (g.2 0, 8, .inl f1)), (v1, .inl (g.2 0, 32, .inl (va_cpy fb1 fa1 (0 : Int32).toNatClampNeg (0 : Int32).toNatClampNeg (32 : Int32).toNatClampNeg))), (v2, .inl (g.2 0, 4, .inl fa2)), (v3, .inl (g.2 0, 4, .inl fa3)), (v4, .inl (g.2 0, 8, .inl fa4)), (v5, .inl (g.2 0, 8, .inl fa5)), (v6, .inl (g.2 0, 4, .inl fa6)), (v7, .inl (g.2 0, 20, .inl fa7)), (v8, .inl (g.2 0, 6, .inl fa8)), (v9, .inr (3, [.ref x0, .ref x1, .ref x2, .int 0])), (x0, .inl (g.2 0, 60, .inl fa9)), (x1, .inl (g.2 0, 60, .inl fa10)), (x2, .inl (g.2 0, 60, .inl fa11)), (k0, .inr (0, [.int 0, .int 0, .int 0, .int 0, .int 0, .int 0, .int 0, .int 0, .int 0, .int 0, .ref w0, .ref w1, .ref w2, .ref w3, .ref w4, .ref w5, .ref w6, .ref w7, .ref w8, .ref w9])), (w0, .inl (g.2 0, 8, .inl fb0)), (w1, .inl (g.2 0, 32, .inl fb1)), (w2, .inl (g.2 0, 4, .inl fb2)), (w3, .inl (g.2 0, 4, .inl fb3)), (w4, .inl (g.2 0, 8, .inl fb4)), (w5, .inl (g.2 0, 8, .inl fb5)), (w6, .inl (g.2 0, 4, .inl fb6)), (w7, .inl (g.2 0, 20, .inl fb7)), (w8, .inl (g.2 0, 6, .inl fb8)), (w9, .inr (3, [.ref y0, .ref y1, .ref y2, .int 0])), (y0, .inl (g.2 0, 60, .inl fb9)), (y1, .inl (g.2 0, 60, .inl fb10)), (y2, .inl (g.2 0, 60, .inl fb11))] H := hP
  have hD : va_D A [(h0, .inr (0, [.int 0, .int 0, .int 0, .int 0, .int 0, .int 0, .int 0, .int 0, .int 0, .int 0, .ref v0, .ref v1, .ref v2, .ref v3, .ref v4, .ref v5, .ref v6, .ref v7, .ref v8, .ref v9])), (v0, .inl (g.2 0, 8, .inl f1)), (v1, .inl (g.2 0, 32, .inl (va_cpy fb1 fa1 (0 : Int32).toNatClampNeg (0 : Int32).toNatClampNeg (32 : Int32).toNatClampNeg))), (v2, .inl (g.2 0, 4, .inl fa2)), (v3, .inl (g.2 0, 4, .inl fa3)), (v4, .inl (g.2 0, 8, .inl fa4)), (v5, .inl (g.2 0, 8, .inl fa5)), (v6, .inl (g.2 0, 4, .inl fa6)), (v7, .inl (g.2 0, 20, .inl fa7)), (v8, .inl (g.2 0, 6, .inl fa8)), (v9, .inr (3, [.ref x0, .ref x1, .ref x2, .int 0])), (x0, .inl (g.2 0, 60, .inl fa9)), (x1, .inl (g.2 0, 60, .inl fa10)), (x2, .inl (g.2 0, 60, .inl fa11)), (k0, .inr (0, [.int 0, .int 0, .int 0, .int 0, .int 0, .int 0, .int 0, .int 0, .int 0, .int 0, .ref w0, .ref w1, .ref w2, .ref w3, .ref w4, .ref w5, .ref w6, .ref w7, .ref w8, .ref w9])), (w0, .inl (g.2 0, 8, .inl fb0)), (w1, .inl (g.2 0, 32, .inl fb1)), (w2, .inl (g.2 0, 4, .inl fb2)), (w3, .inl (g.2 0, 4, .inl fb3)), (w4, .inl (g.2 0, 8, .inl fb4)), (w5, .inl (g.2 0, 8, .inl fb5)), (w6, .inl (g.2 0, 4, .inl fb6)), (w7, .inl (g.2 0, 20, .inl fb7)), (w8, .inl (g.2 0, 6, .inl fb8)), (w9, .inr (3, [.ref y0, .ref y1, .ref y2, .int 0])), (y0, .inl (g.2 0, 60, .inl fb9)), (y1, .inl (g.2 0, 60, .inl fb10)), (y2, .inl (g.2 0, 60, .inl fb11))] := hD
  generalize (va_cpy fb1 fa1 (0 : Int32).toNatClampNeg (0 : Int32).toNatClampNeg (32 : Int32).toNatClampNeg : Nat → Int32) = f2 at hP hD
  refine lv_aload_n hx hb dX0_copyFrom_110 rfl (lv_at hl 1 rfl) ?_
  refine g_get (C := RX0) (T := TX0) (N := 20) (ci := 0) (v := .ref w2) FC hKn hP i_X0 14 rfl rfl 12 (by decide) b_114 rfl dX0_copyFrom_111 ?_
  refine lv_iconst (v := 0) hx hb dX0_copyFrom_114 (by decide) ?_
  refine lv_aload_n hx hb dX0_copyFrom_115 rfl (lv_at hl 0 rfl) ?_
  refine g_get (C := RX0) (T := TX0) (N := 20) (ci := 0) (v := .ref v2) FC hKn hP i_X0 0 rfl rfl 12 (by decide) b_114 rfl dX0_copyFrom_116 ?_
  refine lv_iconst (v := 0) hx hb dX0_copyFrom_119 (by decide) ?_
  refine lv_iconst (v := 4) hx hb dX0_copyFrom_120 (by decide) ?_
  refine va_copyi hx hb (by rw [hml]; exact hl.1.symm) hown (hB _ b_112) (hB _ b_102) (hB _ b_103) (hB _ b_104) hKn.1 hP hD hS 17 3 0 0 rfl rfl rfl rfl rfl (by decide) (by decide) (by decide) (by decide) (by decide) (fun _ _ => rfl) (Nat.le_of_ble_eq_true rfl) (Nat.le_of_ble_eq_true rfl) dX0_copyFrom_121 (fun H locs hP hD hS => ?_)
  have hP : va_P g.1 vwCl [(h0, .inr (0, [.int 0, .int 0, .int 0, .int 0, .int 0, .int 0, .int 0, .int 0, .int 0, .int 0, .ref v0, .ref v1, .ref v2, .ref v3, .ref v4, .ref v5, .ref v6, .ref v7, .ref v8, .ref v9])), (v0, .inl (g.2 0, 8, .inl f1)), (v1, .inl (g.2 0, 32, .inl f2)), (v2, .inl (g.2 0, 4, .inl (va_cpy fb2 fa2 (0 : Int32).toNatClampNeg (0 : Int32).toNatClampNeg (4 : Int32).toNatClampNeg))), (v3, .inl (g.2 0, 4, .inl fa3)), (v4, .inl (g.2 0, 8, .inl fa4)), (v5, .inl (g.2 0, 8, .inl fa5)), (v6, .inl (g.2 0, 4, .inl fa6)), (v7, .inl (g.2 0, 20, .inl fa7)), (v8, .inl (g.2 0, 6, .inl fa8)), (v9, .inr (3, [.ref x0, .ref x1, .ref x2, .int 0])), (x0, .inl (g.2 0, 60, .inl fa9)), (x1, .inl (g.2 0, 60, .inl fa10)), (x2, .inl (g.2 0, 60, .inl fa11)), (k0, .inr (0, [.int 0, .int 0, .int 0, .int 0, .int 0, .int 0, .int 0, .int 0, .int 0, .int 0, .ref w0, .ref w1, .ref w2, .ref w3, .ref w4, .ref w5, .ref w6, .ref w7, .ref w8, .ref w9])), (w0, .inl (g.2 0, 8, .inl fb0)), (w1, .inl (g.2 0, 32, .inl fb1)), (w2, .inl (g.2 0, 4, .inl fb2)), (w3, .inl (g.2 0, 4, .inl fb3)), (w4, .inl (g.2 0, 8, .inl fb4)), (w5, .inl (g.2 0, 8, .inl fb5)), (w6, .inl (g.2 0, 4, .inl fb6)), (w7, .inl (g.2 0, 20, .inl fb7)), (w8, .inl (g.2 0, 6, .inl fb8)), (w9, .inr (3, [.ref y0, .ref y1, .ref y2, .int 0])), (y0, .inl (g.2 0, 60, .inl fb9)), (y1, .inl (g.2 0, 60, .inl fb10)), (y2, .inl (g.2 0, 60, .inl fb11))] H := hP
  have hD : va_D A [(h0, .inr (0, [.int 0, .int 0, .int 0, .int 0, .int 0, .int 0, .int 0, .int 0, .int 0, .int 0, .ref v0, .ref v1, .ref v2, .ref v3, .ref v4, .ref v5, .ref v6, .ref v7, .ref v8, .ref v9])), (v0, .inl (g.2 0, 8, .inl f1)), (v1, .inl (g.2 0, 32, .inl f2)), (v2, .inl (g.2 0, 4, .inl (va_cpy fb2 fa2 (0 : Int32).toNatClampNeg (0 : Int32).toNatClampNeg (4 : Int32).toNatClampNeg))), (v3, .inl (g.2 0, 4, .inl fa3)), (v4, .inl (g.2 0, 8, .inl fa4)), (v5, .inl (g.2 0, 8, .inl fa5)), (v6, .inl (g.2 0, 4, .inl fa6)), (v7, .inl (g.2 0, 20, .inl fa7)), (v8, .inl (g.2 0, 6, .inl fa8)), (v9, .inr (3, [.ref x0, .ref x1, .ref x2, .int 0])), (x0, .inl (g.2 0, 60, .inl fa9)), (x1, .inl (g.2 0, 60, .inl fa10)), (x2, .inl (g.2 0, 60, .inl fa11)), (k0, .inr (0, [.int 0, .int 0, .int 0, .int 0, .int 0, .int 0, .int 0, .int 0, .int 0, .int 0, .ref w0, .ref w1, .ref w2, .ref w3, .ref w4, .ref w5, .ref w6, .ref w7, .ref w8, .ref w9])), (w0, .inl (g.2 0, 8, .inl fb0)), (w1, .inl (g.2 0, 32, .inl fb1)), (w2, .inl (g.2 0, 4, .inl fb2)), (w3, .inl (g.2 0, 4, .inl fb3)), (w4, .inl (g.2 0, 8, .inl fb4)), (w5, .inl (g.2 0, 8, .inl fb5)), (w6, .inl (g.2 0, 4, .inl fb6)), (w7, .inl (g.2 0, 20, .inl fb7)), (w8, .inl (g.2 0, 6, .inl fb8)), (w9, .inr (3, [.ref y0, .ref y1, .ref y2, .int 0])), (y0, .inl (g.2 0, 60, .inl fb9)), (y1, .inl (g.2 0, 60, .inl fb10)), (y2, .inl (g.2 0, 60, .inl fb11))] := hD
  generalize (va_cpy fb2 fa2 (0 : Int32).toNatClampNeg (0 : Int32).toNatClampNeg (4 : Int32).toNatClampNeg : Nat → Int32) = f3 at hP hD
  refine lv_aload_n hx hb dX0_copyFrom_124 rfl (lv_at hl 1 rfl) ?_
  refine g_get (C := RX0) (T := TX0) (N := 20) (ci := 0) (v := .ref w3) FC hKn hP i_X0 14 rfl rfl 13 (by decide) b_115 rfl dX0_copyFrom_125 ?_
  refine lv_iconst (v := 0) hx hb dX0_copyFrom_128 (by decide) ?_
  refine lv_aload_n hx hb dX0_copyFrom_129 rfl (lv_at hl 0 rfl) ?_
  refine g_get (C := RX0) (T := TX0) (N := 20) (ci := 0) (v := .ref v3) FC hKn hP i_X0 0 rfl rfl 13 (by decide) b_115 rfl dX0_copyFrom_130 ?_
  refine lv_iconst (v := 0) hx hb dX0_copyFrom_133 (by decide) ?_
  refine lv_iconst (v := 4) hx hb dX0_copyFrom_134 (by decide) ?_
  refine va_copyi hx hb (by rw [hml]; exact hl.1.symm) hown (hB _ b_112) (hB _ b_102) (hB _ b_103) (hB _ b_104) hKn.1 hP hD hS 18 4 0 0 rfl rfl rfl rfl rfl (by decide) (by decide) (by decide) (by decide) (by decide) (fun _ _ => rfl) (Nat.le_of_ble_eq_true rfl) (Nat.le_of_ble_eq_true rfl) dX0_copyFrom_135 (fun H locs hP hD hS => ?_)
  have hP : va_P g.1 vwCl [(h0, .inr (0, [.int 0, .int 0, .int 0, .int 0, .int 0, .int 0, .int 0, .int 0, .int 0, .int 0, .ref v0, .ref v1, .ref v2, .ref v3, .ref v4, .ref v5, .ref v6, .ref v7, .ref v8, .ref v9])), (v0, .inl (g.2 0, 8, .inl f1)), (v1, .inl (g.2 0, 32, .inl f2)), (v2, .inl (g.2 0, 4, .inl f3)), (v3, .inl (g.2 0, 4, .inl (va_cpy fb3 fa3 (0 : Int32).toNatClampNeg (0 : Int32).toNatClampNeg (4 : Int32).toNatClampNeg))), (v4, .inl (g.2 0, 8, .inl fa4)), (v5, .inl (g.2 0, 8, .inl fa5)), (v6, .inl (g.2 0, 4, .inl fa6)), (v7, .inl (g.2 0, 20, .inl fa7)), (v8, .inl (g.2 0, 6, .inl fa8)), (v9, .inr (3, [.ref x0, .ref x1, .ref x2, .int 0])), (x0, .inl (g.2 0, 60, .inl fa9)), (x1, .inl (g.2 0, 60, .inl fa10)), (x2, .inl (g.2 0, 60, .inl fa11)), (k0, .inr (0, [.int 0, .int 0, .int 0, .int 0, .int 0, .int 0, .int 0, .int 0, .int 0, .int 0, .ref w0, .ref w1, .ref w2, .ref w3, .ref w4, .ref w5, .ref w6, .ref w7, .ref w8, .ref w9])), (w0, .inl (g.2 0, 8, .inl fb0)), (w1, .inl (g.2 0, 32, .inl fb1)), (w2, .inl (g.2 0, 4, .inl fb2)), (w3, .inl (g.2 0, 4, .inl fb3)), (w4, .inl (g.2 0, 8, .inl fb4)), (w5, .inl (g.2 0, 8, .inl fb5)), (w6, .inl (g.2 0, 4, .inl fb6)), (w7, .inl (g.2 0, 20, .inl fb7)), (w8, .inl (g.2 0, 6, .inl fb8)), (w9, .inr (3, [.ref y0, .ref y1, .ref y2, .int 0])), (y0, .inl (g.2 0, 60, .inl fb9)), (y1, .inl (g.2 0, 60, .inl fb10)), (y2, .inl (g.2 0, 60, .inl fb11))] H := hP
  have hD : va_D A [(h0, .inr (0, [.int 0, .int 0, .int 0, .int 0, .int 0, .int 0, .int 0, .int 0, .int 0, .int 0, .ref v0, .ref v1, .ref v2, .ref v3, .ref v4, .ref v5, .ref v6, .ref v7, .ref v8, .ref v9])), (v0, .inl (g.2 0, 8, .inl f1)), (v1, .inl (g.2 0, 32, .inl f2)), (v2, .inl (g.2 0, 4, .inl f3)), (v3, .inl (g.2 0, 4, .inl (va_cpy fb3 fa3 (0 : Int32).toNatClampNeg (0 : Int32).toNatClampNeg (4 : Int32).toNatClampNeg))), (v4, .inl (g.2 0, 8, .inl fa4)), (v5, .inl (g.2 0, 8, .inl fa5)), (v6, .inl (g.2 0, 4, .inl fa6)), (v7, .inl (g.2 0, 20, .inl fa7)), (v8, .inl (g.2 0, 6, .inl fa8)), (v9, .inr (3, [.ref x0, .ref x1, .ref x2, .int 0])), (x0, .inl (g.2 0, 60, .inl fa9)), (x1, .inl (g.2 0, 60, .inl fa10)), (x2, .inl (g.2 0, 60, .inl fa11)), (k0, .inr (0, [.int 0, .int 0, .int 0, .int 0, .int 0, .int 0, .int 0, .int 0, .int 0, .int 0, .ref w0, .ref w1, .ref w2, .ref w3, .ref w4, .ref w5, .ref w6, .ref w7, .ref w8, .ref w9])), (w0, .inl (g.2 0, 8, .inl fb0)), (w1, .inl (g.2 0, 32, .inl fb1)), (w2, .inl (g.2 0, 4, .inl fb2)), (w3, .inl (g.2 0, 4, .inl fb3)), (w4, .inl (g.2 0, 8, .inl fb4)), (w5, .inl (g.2 0, 8, .inl fb5)), (w6, .inl (g.2 0, 4, .inl fb6)), (w7, .inl (g.2 0, 20, .inl fb7)), (w8, .inl (g.2 0, 6, .inl fb8)), (w9, .inr (3, [.ref y0, .ref y1, .ref y2, .int 0])), (y0, .inl (g.2 0, 60, .inl fb9)), (y1, .inl (g.2 0, 60, .inl fb10)), (y2, .inl (g.2 0, 60, .inl fb11))] := hD
  generalize (va_cpy fb3 fa3 (0 : Int32).toNatClampNeg (0 : Int32).toNatClampNeg (4 : Int32).toNatClampNeg : Nat → Int32) = f4 at hP hD
  refine lv_aload_n hx hb dX0_copyFrom_138 rfl (lv_at hl 1 rfl) ?_
  refine g_get (C := RX0) (T := TX0) (N := 20) (ci := 0) (v := .ref w4) FC hKn hP i_X0 14 rfl rfl 14 (by decide) b_116 rfl dX0_copyFrom_139 ?_
  refine lv_iconst (v := 0) hx hb dX0_copyFrom_142 (by decide) ?_
  refine lv_aload_n hx hb dX0_copyFrom_143 rfl (lv_at hl 0 rfl) ?_
  refine g_get (C := RX0) (T := TX0) (N := 20) (ci := 0) (v := .ref v4) FC hKn hP i_X0 0 rfl rfl 14 (by decide) b_116 rfl dX0_copyFrom_144 ?_
  refine lv_iconst (v := 0) hx hb dX0_copyFrom_147 (by decide) ?_
  refine lv_bipush (v := 8) hx hb dX0_copyFrom_148 (by decide) ?_
  refine va_copyi hx hb (by rw [hml]; exact hl.1.symm) hown (hB _ b_112) (hB _ b_102) (hB _ b_103) (hB _ b_104) hKn.1 hP hD hS 19 5 0 0 rfl rfl rfl rfl rfl (by decide) (by decide) (by decide) (by decide) (by decide) (fun _ _ => rfl) (Nat.le_of_ble_eq_true rfl) (Nat.le_of_ble_eq_true rfl) dX0_copyFrom_150 (fun H locs hP hD hS => ?_)
  have hP : va_P g.1 vwCl [(h0, .inr (0, [.int 0, .int 0, .int 0, .int 0, .int 0, .int 0, .int 0, .int 0, .int 0, .int 0, .ref v0, .ref v1, .ref v2, .ref v3, .ref v4, .ref v5, .ref v6, .ref v7, .ref v8, .ref v9])), (v0, .inl (g.2 0, 8, .inl f1)), (v1, .inl (g.2 0, 32, .inl f2)), (v2, .inl (g.2 0, 4, .inl f3)), (v3, .inl (g.2 0, 4, .inl f4)), (v4, .inl (g.2 0, 8, .inl (va_cpy fb4 fa4 (0 : Int32).toNatClampNeg (0 : Int32).toNatClampNeg (8 : Int32).toNatClampNeg))), (v5, .inl (g.2 0, 8, .inl fa5)), (v6, .inl (g.2 0, 4, .inl fa6)), (v7, .inl (g.2 0, 20, .inl fa7)), (v8, .inl (g.2 0, 6, .inl fa8)), (v9, .inr (3, [.ref x0, .ref x1, .ref x2, .int 0])), (x0, .inl (g.2 0, 60, .inl fa9)), (x1, .inl (g.2 0, 60, .inl fa10)), (x2, .inl (g.2 0, 60, .inl fa11)), (k0, .inr (0, [.int 0, .int 0, .int 0, .int 0, .int 0, .int 0, .int 0, .int 0, .int 0, .int 0, .ref w0, .ref w1, .ref w2, .ref w3, .ref w4, .ref w5, .ref w6, .ref w7, .ref w8, .ref w9])), (w0, .inl (g.2 0, 8, .inl fb0)), (w1, .inl (g.2 0, 32, .inl fb1)), (w2, .inl (g.2 0, 4, .inl fb2)), (w3, .inl (g.2 0, 4, .inl fb3)), (w4, .inl (g.2 0, 8, .inl fb4)), (w5, .inl (g.2 0, 8, .inl fb5)), (w6, .inl (g.2 0, 4, .inl fb6)), (w7, .inl (g.2 0, 20, .inl fb7)), (w8, .inl (g.2 0, 6, .inl fb8)), (w9, .inr (3, [.ref y0, .ref y1, .ref y2, .int 0])), (y0, .inl (g.2 0, 60, .inl fb9)), (y1, .inl (g.2 0, 60, .inl fb10)), (y2, .inl (g.2 0, 60, .inl fb11))] H := hP
  have hD : va_D A [(h0, .inr (0, [.int 0, .int 0, .int 0, .int 0, .int 0, .int 0, .int 0, .int 0, .int 0, .int 0, .ref v0, .ref v1, .ref v2, .ref v3, .ref v4, .ref v5, .ref v6, .ref v7, .ref v8, .ref v9])), (v0, .inl (g.2 0, 8, .inl f1)), (v1, .inl (g.2 0, 32, .inl f2)), (v2, .inl (g.2 0, 4, .inl f3)), (v3, .inl (g.2 0, 4, .inl f4)), (v4, .inl (g.2 0, 8, .inl (va_cpy fb4 fa4 (0 : Int32).toNatClampNeg (0 : Int32).toNatClampNeg (8 : Int32).toNatClampNeg))), (v5, .inl (g.2 0, 8, .inl fa5)), (v6, .inl (g.2 0, 4, .inl fa6)), (v7, .inl (g.2 0, 20, .inl fa7)), (v8, .inl (g.2 0, 6, .inl fa8)), (v9, .inr (3, [.ref x0, .ref x1, .ref x2, .int 0])), (x0, .inl (g.2 0, 60, .inl fa9)), (x1, .inl (g.2 0, 60, .inl fa10)), (x2, .inl (g.2 0, 60, .inl fa11)), (k0, .inr (0, [.int 0, .int 0, .int 0, .int 0, .int 0, .int 0, .int 0, .int 0, .int 0, .int 0, .ref w0, .ref w1, .ref w2, .ref w3, .ref w4, .ref w5, .ref w6, .ref w7, .ref w8, .ref w9])), (w0, .inl (g.2 0, 8, .inl fb0)), (w1, .inl (g.2 0, 32, .inl fb1)), (w2, .inl (g.2 0, 4, .inl fb2)), (w3, .inl (g.2 0, 4, .inl fb3)), (w4, .inl (g.2 0, 8, .inl fb4)), (w5, .inl (g.2 0, 8, .inl fb5)), (w6, .inl (g.2 0, 4, .inl fb6)), (w7, .inl (g.2 0, 20, .inl fb7)), (w8, .inl (g.2 0, 6, .inl fb8)), (w9, .inr (3, [.ref y0, .ref y1, .ref y2, .int 0])), (y0, .inl (g.2 0, 60, .inl fb9)), (y1, .inl (g.2 0, 60, .inl fb10)), (y2, .inl (g.2 0, 60, .inl fb11))] := hD
  generalize (va_cpy fb4 fa4 (0 : Int32).toNatClampNeg (0 : Int32).toNatClampNeg (8 : Int32).toNatClampNeg : Nat → Int32) = f5 at hP hD
  refine lv_aload_n hx hb dX0_copyFrom_153 rfl (lv_at hl 1 rfl) ?_
  refine g_get (C := RX0) (T := TX0) (N := 20) (ci := 0) (v := .ref w5) FC hKn hP i_X0 14 rfl rfl 15 (by decide) b_117 rfl dX0_copyFrom_154 ?_
  refine lv_iconst (v := 0) hx hb dX0_copyFrom_157 (by decide) ?_
  refine lv_aload_n hx hb dX0_copyFrom_158 rfl (lv_at hl 0 rfl) ?_
  refine g_get (C := RX0) (T := TX0) (N := 20) (ci := 0) (v := .ref v5) FC hKn hP i_X0 0 rfl rfl 15 (by decide) b_117 rfl dX0_copyFrom_159 ?_
  refine lv_iconst (v := 0) hx hb dX0_copyFrom_162 (by decide) ?_
  refine lv_bipush (v := 8) hx hb dX0_copyFrom_163 (by decide) ?_
  refine va_copyi hx hb (by rw [hml]; exact hl.1.symm) hown (hB _ b_112) (hB _ b_102) (hB _ b_103) (hB _ b_104) hKn.1 hP hD hS 20 6 0 0 rfl rfl rfl rfl rfl (by decide) (by decide) (by decide) (by decide) (by decide) (fun _ _ => rfl) (Nat.le_of_ble_eq_true rfl) (Nat.le_of_ble_eq_true rfl) dX0_copyFrom_165 (fun H locs hP hD hS => ?_)
  have hP : va_P g.1 vwCl [(h0, .inr (0, [.int 0, .int 0, .int 0, .int 0, .int 0, .int 0, .int 0, .int 0, .int 0, .int 0, .ref v0, .ref v1, .ref v2, .ref v3, .ref v4, .ref v5, .ref v6, .ref v7, .ref v8, .ref v9])), (v0, .inl (g.2 0, 8, .inl f1)), (v1, .inl (g.2 0, 32, .inl f2)), (v2, .inl (g.2 0, 4, .inl f3)), (v3, .inl (g.2 0, 4, .inl f4)), (v4, .inl (g.2 0, 8, .inl f5)), (v5, .inl (g.2 0, 8, .inl (va_cpy fb5 fa5 (0 : Int32).toNatClampNeg (0 : Int32).toNatClampNeg (8 : Int32).toNatClampNeg))), (v6, .inl (g.2 0, 4, .inl fa6)), (v7, .inl (g.2 0, 20, .inl fa7)), (v8, .inl (g.2 0, 6, .inl fa8)), (v9, .inr (3, [.ref x0, .ref x1, .ref x2, .int 0])), (x0, .inl (g.2 0, 60, .inl fa9)), (x1, .inl (g.2 0, 60, .inl fa10)), (x2, .inl (g.2 0, 60, .inl fa11)), (k0, .inr (0, [.int 0, .int 0, .int 0, .int 0, .int 0, .int 0, .int 0, .int 0, .int 0, .int 0, .ref w0, .ref w1, .ref w2, .ref w3, .ref w4, .ref w5, .ref w6, .ref w7, .ref w8, .ref w9])), (w0, .inl (g.2 0, 8, .inl fb0)), (w1, .inl (g.2 0, 32, .inl fb1)), (w2, .inl (g.2 0, 4, .inl fb2)), (w3, .inl (g.2 0, 4, .inl fb3)), (w4, .inl (g.2 0, 8, .inl fb4)), (w5, .inl (g.2 0, 8, .inl fb5)), (w6, .inl (g.2 0, 4, .inl fb6)), (w7, .inl (g.2 0, 20, .inl fb7)), (w8, .inl (g.2 0, 6, .inl fb8)), (w9, .inr (3, [.ref y0, .ref y1, .ref y2, .int 0])), (y0, .inl (g.2 0, 60, .inl fb9)), (y1, .inl (g.2 0, 60, .inl fb10)), (y2, .inl (g.2 0, 60, .inl fb11))] H := hP
  have hD : va_D A [(h0, .inr (0, [.int 0, .int 0, .int 0, .int 0, .int 0, .int 0, .int 0, .int 0, .int 0, .int 0, .ref v0, .ref v1, .ref v2, .ref v3, .ref v4, .ref v5, .ref v6, .ref v7, .ref v8, .ref v9])), (v0, .inl (g.2 0, 8, .inl f1)), (v1, .inl (g.2 0, 32, .inl f2)), (v2, .inl (g.2 0, 4, .inl f3)), (v3, .inl (g.2 0, 4, .inl f4)), (v4, .inl (g.2 0, 8, .inl f5)), (v5, .inl (g.2 0, 8, .inl (va_cpy fb5 fa5 (0 : Int32).toNatClampNeg (0 : Int32).toNatClampNeg (8 : Int32).toNatClampNeg))), (v6, .inl (g.2 0, 4, .inl fa6)), (v7, .inl (g.2 0, 20, .inl fa7)), (v8, .inl (g.2 0, 6, .inl fa8)), (v9, .inr (3, [.ref x0, .ref x1, .ref x2, .int 0])), (x0, .inl (g.2 0, 60, .inl fa9)), (x1, .inl (g.2 0, 60, .inl fa10)), (x2, .inl (g.2 0, 60, .inl fa11)), (k0, .inr (0, [.int 0, .int 0, .int 0, .int 0, .int 0, .int 0, .int 0, .int 0, .int 0, .int 0, .ref w0, .ref w1, .ref w2, .ref w3, .ref w4, .ref w5, .ref w6, .ref w7, .ref w8, .ref w9])), (w0, .inl (g.2 0, 8, .inl fb0)), (w1, .inl (g.2 0, 32, .inl fb1)), (w2, .inl (g.2 0, 4, .inl fb2)), (w3, .inl (g.2 0, 4, .inl fb3)), (w4, .inl (g.2 0, 8, .inl fb4)), (w5, .inl (g.2 0, 8, .inl fb5)), (w6, .inl (g.2 0, 4, .inl fb6)), (w7, .inl (g.2 0, 20, .inl fb7)), (w8, .inl (g.2 0, 6, .inl fb8)), (w9, .inr (3, [.ref y0, .ref y1, .ref y2, .int 0])), (y0, .inl (g.2 0, 60, .inl fb9)), (y1, .inl (g.2 0, 60, .inl fb10)), (y2, .inl (g.2 0, 60, .inl fb11))] := hD
  generalize (va_cpy fb5 fa5 (0 : Int32).toNatClampNeg (0 : Int32).toNatClampNeg (8 : Int32).toNatClampNeg : Nat → Int32) = f6 at hP hD
  refine lv_aload_n hx hb dX0_copyFrom_168 rfl (lv_at hl 1 rfl) ?_
  refine g_get (C := RX0) (T := TX0) (N := 20) (ci := 0) (v := .ref w6) FC hKn hP i_X0 14 rfl rfl 16 (by decide) b_118 rfl dX0_copyFrom_169 ?_
  refine lv_iconst (v := 0) hx hb dX0_copyFrom_172 (by decide) ?_
  refine lv_aload_n hx hb dX0_copyFrom_173 rfl (lv_at hl 0 rfl) ?_
  refine g_get (C := RX0) (T := TX0) (N := 20) (ci := 0) (v := .ref v6) FC hKn hP i_X0 0 rfl rfl 16 (by decide) b_118 rfl dX0_copyFrom_174 ?_
  refine lv_iconst (v := 0) hx hb dX0_copyFrom_177 (by decide) ?_
  refine lv_iconst (v := 4) hx hb dX0_copyFrom_178 (by decide) ?_
  refine va_copyi hx hb (by rw [hml]; exact hl.1.symm) hown (hB _ b_112) (hB _ b_102) (hB _ b_103) (hB _ b_104) hKn.1 hP hD hS 21 7 0 0 rfl rfl rfl rfl rfl (by decide) (by decide) (by decide) (by decide) (by decide) (fun _ _ => rfl) (Nat.le_of_ble_eq_true rfl) (Nat.le_of_ble_eq_true rfl) dX0_copyFrom_179 (fun H locs hP hD hS => ?_)
  have hP : va_P g.1 vwCl [(h0, .inr (0, [.int 0, .int 0, .int 0, .int 0, .int 0, .int 0, .int 0, .int 0, .int 0, .int 0, .ref v0, .ref v1, .ref v2, .ref v3, .ref v4, .ref v5, .ref v6, .ref v7, .ref v8, .ref v9])), (v0, .inl (g.2 0, 8, .inl f1)), (v1, .inl (g.2 0, 32, .inl f2)), (v2, .inl (g.2 0, 4, .inl f3)), (v3, .inl (g.2 0, 4, .inl f4)), (v4, .inl (g.2 0, 8, .inl f5)), (v5, .inl (g.2 0, 8, .inl f6)), (v6, .inl (g.2 0, 4, .inl (va_cpy fb6 fa6 (0 : Int32).toNatClampNeg (0 : Int32).toNatClampNeg (4 : Int32).toNatClampNeg))), (v7, .inl (g.2 0, 20, .inl fa7)), (v8, .inl (g.2 0, 6, .inl fa8)), (v9, .inr (3, [.ref x0, .ref x1, .ref x2, .int 0])), (x0, .inl (g.2 0, 60, .inl fa9)), (x1, .inl (g.2 0, 60, .inl fa10)), (x2, .inl (g.2 0, 60, .inl fa11)), (k0, .inr (0, [.int 0, .int 0, .int 0, .int 0, .int 0, .int 0, .int 0, .int 0, .int 0, .int 0, .ref w0, .ref w1, .ref w2, .ref w3, .ref w4, .ref w5, .ref w6, .ref w7, .ref w8, .ref w9])), (w0, .inl (g.2 0, 8, .inl fb0)), (w1, .inl (g.2 0, 32, .inl fb1)), (w2, .inl (g.2 0, 4, .inl fb2)), (w3, .inl (g.2 0, 4, .inl fb3)), (w4, .inl (g.2 0, 8, .inl fb4)), (w5, .inl (g.2 0, 8, .inl fb5)), (w6, .inl (g.2 0, 4, .inl fb6)), (w7, .inl (g.2 0, 20, .inl fb7)), (w8, .inl (g.2 0, 6, .inl fb8)), (w9, .inr (3, [.ref y0, .ref y1, .ref y2, .int 0])), (y0, .inl (g.2 0, 60, .inl fb9)), (y1, .inl (g.2 0, 60, .inl fb10)), (y2, .inl (g.2 0, 60, .inl fb11))] H := hP
  have hD : va_D A [(h0, .inr (0, [.int 0, .int 0, .int 0, .int 0, .int 0, .int 0, .int 0, .int 0, .int 0, .int 0, .ref v0, .ref v1, .ref v2, .ref v3, .ref v4, .ref v5, .ref v6, .ref v7, .ref v8, .ref v9])), (v0, .inl (g.2 0, 8, .inl f1)), (v1, .inl (g.2 0, 32, .inl f2)), (v2, .inl (g.2 0, 4, .inl f3)), (v3, .inl (g.2 0, 4, .inl f4)), (v4, .inl (g.2 0, 8, .inl f5)), (v5, .inl (g.2 0, 8, .inl f6)), (v6, .inl (g.2 0, 4, .inl (va_cpy fb6 fa6 (0 : Int32).toNatClampNeg (0 : Int32).toNatClampNeg (4 : Int32).toNatClampNeg))), (v7, .inl (g.2 0, 20, .inl fa7)), (v8, .inl (g.2 0, 6, .inl fa8)), (v9, .inr (3, [.ref x0, .ref x1, .ref x2, .int 0])), (x0, .inl (g.2 0, 60, .inl fa9)), (x1, .inl (g.2 0, 60, .inl fa10)), (x2, .inl (g.2 0, 60, .inl fa11)), (k0, .inr (0, [.int 0, .int 0, .int 0, .int 0, .int 0, .int 0, .int 0, .int 0, .int 0, .int 0, .ref w0, .ref w1, .ref w2, .ref w3, .ref w4, .ref w5, .ref w6, .ref w7, .ref w8, .ref w9])), (w0, .inl (g.2 0, 8, .inl fb0)), (w1, .inl (g.2 0, 32, .inl fb1)), (w2, .inl (g.2 0, 4, .inl fb2)), (w3, .inl (g.2 0, 4, .inl fb3)), (w4, .inl (g.2 0, 8, .inl fb4)), (w5, .inl (g.2 0, 8, .inl fb5)), (w6, .inl (g.2 0, 4, .inl fb6)), (w7, .inl (g.2 0, 20, .inl fb7)), (w8, .inl (g.2 0, 6, .inl fb8)), (w9, .inr (3, [.ref y0, .ref y1, .ref y2, .int 0])), (y0, .inl (g.2 0, 60, .inl fb9)), (y1, .inl (g.2 0, 60, .inl fb10)), (y2, .inl (g.2 0, 60, .inl fb11))] := hD
  generalize (va_cpy fb6 fa6 (0 : Int32).toNatClampNeg (0 : Int32).toNatClampNeg (4 : Int32).toNatClampNeg : Nat → Int32) = f7 at hP hD
  refine lv_aload_n hx hb dX0_copyFrom_182 rfl (lv_at hl 1 rfl) ?_
  refine g_get (C := RX0) (T := TX0) (N := 20) (ci := 0) (v := .ref w7) FC hKn hP i_X0 14 rfl rfl 17 (by decide) b_119 rfl dX0_copyFrom_183 ?_
  refine lv_iconst (v := 0) hx hb dX0_copyFrom_186 (by decide) ?_
  refine lv_aload_n hx hb dX0_copyFrom_187 rfl (lv_at hl 0 rfl) ?_
  refine g_get (C := RX0) (T := TX0) (N := 20) (ci := 0) (v := .ref v7) FC hKn hP i_X0 0 rfl rfl 17 (by decide) b_119 rfl dX0_copyFrom_188 ?_
  refine lv_iconst (v := 0) hx hb dX0_copyFrom_191 (by decide) ?_
  refine lv_bipush (v := 20) hx hb dX0_copyFrom_192 (by decide) ?_
  refine va_copyi hx hb (by rw [hml]; exact hl.1.symm) hown (hB _ b_112) (hB _ b_102) (hB _ b_103) (hB _ b_104) hKn.1 hP hD hS 22 8 0 0 rfl rfl rfl rfl rfl (by decide) (by decide) (by decide) (by decide) (by decide) (fun _ _ => rfl) (Nat.le_of_ble_eq_true rfl) (Nat.le_of_ble_eq_true rfl) dX0_copyFrom_194 (fun H locs hP hD hS => ?_)
  have hP : va_P g.1 vwCl [(h0, .inr (0, [.int 0, .int 0, .int 0, .int 0, .int 0, .int 0, .int 0, .int 0, .int 0, .int 0, .ref v0, .ref v1, .ref v2, .ref v3, .ref v4, .ref v5, .ref v6, .ref v7, .ref v8, .ref v9])), (v0, .inl (g.2 0, 8, .inl f1)), (v1, .inl (g.2 0, 32, .inl f2)), (v2, .inl (g.2 0, 4, .inl f3)), (v3, .inl (g.2 0, 4, .inl f4)), (v4, .inl (g.2 0, 8, .inl f5)), (v5, .inl (g.2 0, 8, .inl f6)), (v6, .inl (g.2 0, 4, .inl f7)), (v7, .inl (g.2 0, 20, .inl (va_cpy fb7 fa7 (0 : Int32).toNatClampNeg (0 : Int32).toNatClampNeg (20 : Int32).toNatClampNeg))), (v8, .inl (g.2 0, 6, .inl fa8)), (v9, .inr (3, [.ref x0, .ref x1, .ref x2, .int 0])), (x0, .inl (g.2 0, 60, .inl fa9)), (x1, .inl (g.2 0, 60, .inl fa10)), (x2, .inl (g.2 0, 60, .inl fa11)), (k0, .inr (0, [.int 0, .int 0, .int 0, .int 0, .int 0, .int 0, .int 0, .int 0, .int 0, .int 0, .ref w0, .ref w1, .ref w2, .ref w3, .ref w4, .ref w5, .ref w6, .ref w7, .ref w8, .ref w9])), (w0, .inl (g.2 0, 8, .inl fb0)), (w1, .inl (g.2 0, 32, .inl fb1)), (w2, .inl (g.2 0, 4, .inl fb2)), (w3, .inl (g.2 0, 4, .inl fb3)), (w4, .inl (g.2 0, 8, .inl fb4)), (w5, .inl (g.2 0, 8, .inl fb5)), (w6, .inl (g.2 0, 4, .inl fb6)), (w7, .inl (g.2 0, 20, .inl fb7)), (w8, .inl (g.2 0, 6, .inl fb8)), (w9, .inr (3, [.ref y0, .ref y1, .ref y2, .int 0])), (y0, .inl (g.2 0, 60, .inl fb9)), (y1, .inl (g.2 0, 60, .inl fb10)), (y2, .inl (g.2 0, 60, .inl fb11))] H := hP
  have hD : va_D A [(h0, .inr (0, [.int 0, .int 0, .int 0, .int 0, .int 0, .int 0, .int 0, .int 0, .int 0, .int 0, .ref v0, .ref v1, .ref v2, .ref v3, .ref v4, .ref v5, .ref v6, .ref v7, .ref v8, .ref v9])), (v0, .inl (g.2 0, 8, .inl f1)), (v1, .inl (g.2 0, 32, .inl f2)), (v2, .inl (g.2 0, 4, .inl f3)), (v3, .inl (g.2 0, 4, .inl f4)), (v4, .inl (g.2 0, 8, .inl f5)), (v5, .inl (g.2 0, 8, .inl f6)), (v6, .inl (g.2 0, 4, .inl f7)), (v7, .inl (g.2 0, 20, .inl (va_cpy fb7 fa7 (0 : Int32).toNatClampNeg (0 : Int32).toNatClampNeg (20 : Int32).toNatClampNeg))), (v8, .inl (g.2 0, 6, .inl fa8)), (v9, .inr (3, [.ref x0, .ref x1, .ref x2, .int 0])), (x0, .inl (g.2 0, 60, .inl fa9)), (x1, .inl (g.2 0, 60, .inl fa10)), (x2, .inl (g.2 0, 60, .inl fa11)), (k0, .inr (0, [.int 0, .int 0, .int 0, .int 0, .int 0, .int 0, .int 0, .int 0, .int 0, .int 0, .ref w0, .ref w1, .ref w2, .ref w3, .ref w4, .ref w5, .ref w6, .ref w7, .ref w8, .ref w9])), (w0, .inl (g.2 0, 8, .inl fb0)), (w1, .inl (g.2 0, 32, .inl fb1)), (w2, .inl (g.2 0, 4, .inl fb2)), (w3, .inl (g.2 0, 4, .inl fb3)), (w4, .inl (g.2 0, 8, .inl fb4)), (w5, .inl (g.2 0, 8, .inl fb5)), (w6, .inl (g.2 0, 4, .inl fb6)), (w7, .inl (g.2 0, 20, .inl fb7)), (w8, .inl (g.2 0, 6, .inl fb8)), (w9, .inr (3, [.ref y0, .ref y1, .ref y2, .int 0])), (y0, .inl (g.2 0, 60, .inl fb9)), (y1, .inl (g.2 0, 60, .inl fb10)), (y2, .inl (g.2 0, 60, .inl fb11))] := hD
  generalize (va_cpy fb7 fa7 (0 : Int32).toNatClampNeg (0 : Int32).toNatClampNeg (20 : Int32).toNatClampNeg : Nat → Int32) = f8 at hP hD
  refine lv_aload_n hx hb dX0_copyFrom_197 rfl (lv_at hl 1 rfl) ?_
  refine g_get (C := RX0) (T := TX0) (N := 20) (ci := 0) (v := .ref w8) FC hKn hP i_X0 14 rfl rfl 18 (by decide) b_120 rfl dX0_copyFrom_198 ?_
  refine lv_iconst (v := 0) hx hb dX0_copyFrom_201 (by decide) ?_
  refine lv_aload_n hx hb dX0_copyFrom_202 rfl (lv_at hl 0 rfl) ?_
  refine g_get (C := RX0) (T := TX0) (N := 20) (ci := 0) (v := .ref v8) FC hKn hP i_X0 0 rfl rfl 18 (by decide) b_120 rfl dX0_copyFrom_203 ?_
  refine lv_iconst (v := 0) hx hb dX0_copyFrom_206 (by decide) ?_
  refine lv_bipush (v := 6) hx hb dX0_copyFrom_207 (by decide) ?_
  refine va_copyi hx hb (by rw [hml]; exact hl.1.symm) hown (hB _ b_112) (hB _ b_102) (hB _ b_103) (hB _ b_104) hKn.1 hP hD hS 23 9 0 0 rfl rfl rfl rfl rfl (by decide) (by decide) (by decide) (by decide) (by decide) (fun _ _ => rfl) (Nat.le_of_ble_eq_true rfl) (Nat.le_of_ble_eq_true rfl) dX0_copyFrom_209 (fun H locs hP hD hS => ?_)
  have hP : va_P g.1 vwCl [(h0, .inr (0, [.int 0, .int 0, .int 0, .int 0, .int 0, .int 0, .int 0, .int 0, .int 0, .int 0, .ref v0, .ref v1, .ref v2, .ref v3, .ref v4, .ref v5, .ref v6, .ref v7, .ref v8, .ref v9])), (v0, .inl (g.2 0, 8, .inl f1)), (v1, .inl (g.2 0, 32, .inl f2)), (v2, .inl (g.2 0, 4, .inl f3)), (v3, .inl (g.2 0, 4, .inl f4)), (v4, .inl (g.2 0, 8, .inl f5)), (v5, .inl (g.2 0, 8, .inl f6)), (v6, .inl (g.2 0, 4, .inl f7)), (v7, .inl (g.2 0, 20, .inl f8)), (v8, .inl (g.2 0, 6, .inl (va_cpy fb8 fa8 (0 : Int32).toNatClampNeg (0 : Int32).toNatClampNeg (6 : Int32).toNatClampNeg))), (v9, .inr (3, [.ref x0, .ref x1, .ref x2, .int 0])), (x0, .inl (g.2 0, 60, .inl fa9)), (x1, .inl (g.2 0, 60, .inl fa10)), (x2, .inl (g.2 0, 60, .inl fa11)), (k0, .inr (0, [.int 0, .int 0, .int 0, .int 0, .int 0, .int 0, .int 0, .int 0, .int 0, .int 0, .ref w0, .ref w1, .ref w2, .ref w3, .ref w4, .ref w5, .ref w6, .ref w7, .ref w8, .ref w9])), (w0, .inl (g.2 0, 8, .inl fb0)), (w1, .inl (g.2 0, 32, .inl fb1)), (w2, .inl (g.2 0, 4, .inl fb2)), (w3, .inl (g.2 0, 4, .inl fb3)), (w4, .inl (g.2 0, 8, .inl fb4)), (w5, .inl (g.2 0, 8, .inl fb5)), (w6, .inl (g.2 0, 4, .inl fb6)), (w7, .inl (g.2 0, 20, .inl fb7)), (w8, .inl (g.2 0, 6, .inl fb8)), (w9, .inr (3, [.ref y0, .ref y1, .ref y2, .int 0])), (y0, .inl (g.2 0, 60, .inl fb9)), (y1, .inl (g.2 0, 60, .inl fb10)), (y2, .inl (g.2 0, 60, .inl fb11))] H := hP
  have hD : va_D A [(h0, .inr (0, [.int 0, .int 0, .int 0, .int 0, .int 0, .int 0, .int 0, .int 0, .int 0, .int 0, .ref v0, .ref v1, .ref v2, .ref v3, .ref v4, .ref v5, .ref v6, .ref v7, .ref v8, .ref v9])), (v0, .inl (g.2 0, 8, .inl f1)), (v1, .inl (g.2 0, 32, .inl f2)), (v2, .inl (g.2 0, 4, .inl f3)), (v3, .inl (g.2 0, 4, .inl f4)), (v4, .inl (g.2 0, 8, .inl f5)), (v5, .inl (g.2 0, 8, .inl f6)), (v6, .inl (g.2 0, 4, .inl f7)), (v7, .inl (g.2 0, 20, .inl f8)), (v8, .inl (g.2 0, 6, .inl (va_cpy fb8 fa8 (0 : Int32).toNatClampNeg (0 : Int32).toNatClampNeg (6 : Int32).toNatClampNeg))), (v9, .inr (3, [.ref x0, .ref x1, .ref x2, .int 0])), (x0, .inl (g.2 0, 60, .inl fa9)), (x1, .inl (g.2 0, 60, .inl fa10)), (x2, .inl (g.2 0, 60, .inl fa11)), (k0, .inr (0, [.int 0, .int 0, .int 0, .int 0, .int 0, .int 0, .int 0, .int 0, .int 0, .int 0, .ref w0, .ref w1, .ref w2, .ref w3, .ref w4, .ref w5, .ref w6, .ref w7, .ref w8, .ref w9])), (w0, .inl (g.2 0, 8, .inl fb0)), (w1, .inl (g.2 0, 32, .inl fb1)), (w2, .inl (g.2 0, 4, .inl fb2)), (w3, .inl (g.2 0, 4, .inl fb3)), (w4, .inl (g.2 0, 8, .inl fb4)), (w5, .inl (g.2 0, 8, .inl fb5)), (w6, .inl (g.2 0, 4, .inl fb6)), (w7, .inl (g.2 0, 20, .inl fb7)), (w8, .inl (g.2 0, 6, .inl fb8)), (w9, .inr (3, [.ref y0, .ref y1, .ref y2, .int 0])), (y0, .inl (g.2 0, 60, .inl fb9)), (y1, .inl (g.2 0, 60, .inl fb10)), (y2, .inl (g.2 0, 60, .inl fb11))] := hD
  generalize (va_cpy fb8 fa8 (0 : Int32).toNatClampNeg (0 : Int32).toNatClampNeg (6 : Int32).toNatClampNeg : Nat → Int32) = f9 at hP hD
  refine lv_aload_n hx hb dX0_copyFrom_212 rfl (lv_at hl 0 rfl) ?_
  refine g_get (C := RX0) (T := TX0) (N := 20) (ci := 0) (v := .ref v9) FC hKn hP i_X0 0 rfl rfl 19 (by decide) b_121 rfl dX0_copyFrom_213 ?_
  refine lv_aload_n hx hb dX0_copyFrom_216 rfl (lv_at hl 1 rfl) ?_
  refine g_get (C := RX0) (T := TX0) (N := 20) (ci := 0) (v := .ref w9) FC hKn hP i_X0 14 rfl rfl 19 (by decide) b_121 rfl dX0_copyFrom_217 ?_
  refine call_VN (As := [.ref w9]) (rest := []) (wr := [(h0, .inr (0, [.int 0, .int 0, .int 0, .int 0, .int 0, .int 0, .int 0, .int 0, .int 0, .int 0, .ref v0, .ref v1, .ref v2, .ref v3, .ref v4, .ref v5, .ref v6, .ref v7, .ref v8, .ref v9])), (v0, .inl (g.2 0, 8, .inl f1)), (v1, .inl (g.2 0, 32, .inl f2)), (v2, .inl (g.2 0, 4, .inl f3)), (v3, .inl (g.2 0, 4, .inl f4)), (v4, .inl (g.2 0, 8, .inl f5)), (v5, .inl (g.2 0, 8, .inl f6)), (v6, .inl (g.2 0, 4, .inl f7)), (v7, .inl (g.2 0, 20, .inl f8)), (v8, .inl (g.2 0, 6, .inl f9)), (k0, .inr (0, [.int 0, .int 0, .int 0, .int 0, .int 0, .int 0, .int 0, .int 0, .int 0, .int 0, .ref w0, .ref w1, .ref w2, .ref w3, .ref w4, .ref w5, .ref w6, .ref w7, .ref w8, .ref w9])), (w0, .inl (g.2 0, 8, .inl fb0)), (w1, .inl (g.2 0, 32, .inl fb1)), (w2, .inl (g.2 0, 4, .inl fb2)), (w3, .inl (g.2 0, 4, .inl fb3)), (w4, .inl (g.2 0, 8, .inl fb4)), (w5, .inl (g.2 0, 8, .inl fb5)), (w6, .inl (g.2 0, 4, .inl fb6)), (w7, .inl (g.2 0, 20, .inl fb7)), (w8, .inl (g.2 0, 6, .inl fb8))]) FC hKn (c_X3_takeAll l g v9 x0 x1 x2 w9 y0 y1 y2 fa9 fa10 fa11 fb9 fb10 fb11) m_yX3_takeAll b_122 (ci := 3) rfl rfl rfl hP hD hS hA [10, 11, 12, 13, 24, 25, 26, 27] [0, 1, 2, 3, 4, 5, 6, 7, 8, 9, 14, 15, 16, 17, 18, 19, 20, 21, 22, 23] rfl (by decide) rfl (by decide) (by decide) rfl hl.1 rfl (Nat.le_of_ble_eq_true rfl) dX0_copyFrom_220 ⟨(Nat.le_of_ble_eq_true rfl), (Nat.le_of_ble_eq_true rfl)⟩ ⟨(Nat.le_of_ble_eq_true rfl), (Nat.le_of_ble_eq_true rfl)⟩ (fun u10 H locs _ hP hD hS => ?_)
  have hP : va_P g.1 vwCl [(h0, .inr (0, [.int 0, .int 0, .int 0, .int 0, .int 0, .int 0, .int 0, .int 0, .int 0, .int 0, .ref v0, .ref v1, .ref v2, .ref v3, .ref v4, .ref v5, .ref v6, .ref v7, .ref v8, .ref v9])), (v0, .inl (g.2 0, 8, .inl f1)), (v1, .inl (g.2 0, 32, .inl f2)), (v2, .inl (g.2 0, 4, .inl f3)), (v3, .inl (g.2 0, 4, .inl f4)), (v4, .inl (g.2 0, 8, .inl f5)), (v5, .inl (g.2 0, 8, .inl f6)), (v6, .inl (g.2 0, 4, .inl f7)), (v7, .inl (g.2 0, 20, .inl f8)), (v8, .inl (g.2 0, 6, .inl f9)), (k0, .inr (0, [.int 0, .int 0, .int 0, .int 0, .int 0, .int 0, .int 0, .int 0, .int 0, .int 0, .ref w0, .ref w1, .ref w2, .ref w3, .ref w4, .ref w5, .ref w6, .ref w7, .ref w8, .ref w9])), (w0, .inl (g.2 0, 8, .inl fb0)), (w1, .inl (g.2 0, 32, .inl fb1)), (w2, .inl (g.2 0, 4, .inl fb2)), (w3, .inl (g.2 0, 4, .inl fb3)), (w4, .inl (g.2 0, 8, .inl fb4)), (w5, .inl (g.2 0, 8, .inl fb5)), (w6, .inl (g.2 0, 4, .inl fb6)), (w7, .inl (g.2 0, 20, .inl fb7)), (w8, .inl (g.2 0, 6, .inl fb8))] H := hP
  have hD : va_D A [(h0, .inr (0, [.int 0, .int 0, .int 0, .int 0, .int 0, .int 0, .int 0, .int 0, .int 0, .int 0, .ref v0, .ref v1, .ref v2, .ref v3, .ref v4, .ref v5, .ref v6, .ref v7, .ref v8, .ref v9])), (v0, .inl (g.2 0, 8, .inl f1)), (v1, .inl (g.2 0, 32, .inl f2)), (v2, .inl (g.2 0, 4, .inl f3)), (v3, .inl (g.2 0, 4, .inl f4)), (v4, .inl (g.2 0, 8, .inl f5)), (v5, .inl (g.2 0, 8, .inl f6)), (v6, .inl (g.2 0, 4, .inl f7)), (v7, .inl (g.2 0, 20, .inl f8)), (v8, .inl (g.2 0, 6, .inl f9)), (k0, .inr (0, [.int 0, .int 0, .int 0, .int 0, .int 0, .int 0, .int 0, .int 0, .int 0, .int 0, .ref w0, .ref w1, .ref w2, .ref w3, .ref w4, .ref w5, .ref w6, .ref w7, .ref w8, .ref w9])), (w0, .inl (g.2 0, 8, .inl fb0)), (w1, .inl (g.2 0, 32, .inl fb1)), (w2, .inl (g.2 0, 4, .inl fb2)), (w3, .inl (g.2 0, 4, .inl fb3)), (w4, .inl (g.2 0, 8, .inl fb4)), (w5, .inl (g.2 0, 8, .inl fb5)), (w6, .inl (g.2 0, 4, .inl fb6)), (w7, .inl (g.2 0, 20, .inl fb7)), (w8, .inl (g.2 0, 6, .inl fb8))] := hD
  refine W.eq (g2 := F0 m 223 ls []) rfl ?_
  exact rt_v FX () rfl trivial (hP.sub [0] rfl) (hD.sub [0] (by decide) rfl) hS (Nat.le_of_ble_eq_true rfl) (Nat.le_of_ble_eq_true rfl) dX0_copyFrom_223
set_option maxRecDepth 100000 in
set_option maxHeartbeats 4000000 in
theorem c_X0_clear (l : Launch) (g : GG) (h0 : Nat) (v0 : Nat) (v1 : Nat) (v2 : Nat) (v3 : Nat) (v4 : Nat) (v5 : Nat) (v6 : Nat) (v7 : Nat) (v8 : Nat) (v9 : Nat) (x0 : Nat) (x1 : Nat) (x2 : Nat) (fa0 : Nat → Int32) (fa2 : Nat → Int32) (fa3 : Nat → Int32) : Ct l g yX0_clear cX0_clear 1 none { frames := 1, cells := 0, slots := 0, locals := 23 } [.ref h0] [(h0, .inr (0, [.int 0, .int 0, .int 0, .int 0, .int 0, .int 0, .int 0, .int 0, .int 0, .int 0, .ref v0, .ref v1, .ref v2, .ref v3, .ref v4, .ref v5, .ref v6, .ref v7, .ref v8, .ref v9])), (v9, .inr (3, [.ref x0, .ref x1, .ref x2, .int 0])), (v0, .inl (g.2 0, 8, .inl fa0)), (v2, .inl (g.2 0, 4, .inl fa2)), (v3, .inl (g.2 0, 4, .inl fa3))] (S := Nat → Nat → Int32) (fun _ => none) (fun _ => True) (fun u => [(h0, .inr (0, [.int 0, .int 0, .int 0, .int 0, .int 0, .int 0, .int 0, .int 0, .int 0, .int 0, .ref v0, .ref v1, .ref v2, .ref v3, .ref v4, .ref v5, .ref v6, .ref v7, .ref v8, .ref v9])), (v9, .inr (3, [.ref x0, .ref x1, .ref x2, .int 0])), (v0, .inl (g.2 0, 8, .inl (u 0))), (v2, .inl (g.2 0, 4, .inl (u 1))), (v3, .inl (g.2 0, 4, .inl (u 2)))]) := by
  refine Ct.of (by decide) (Nat.le_of_ble_eq_true rfl) ?_
  intro p e s m below meth c A ls FX hP hD hS hl
  obtain ⟨FC, hr, hlk, hKn, hA, hnm⟩ := id FX
  have FC : CallFix p m c cX0_clear 1 s _ BIG RX0 := FC
  obtain ⟨hx, hb, hml, hown, hB⟩ := id FC
  have hl : lv_has ls 1 [(0, .ref h0)] := hl
  refine lv_aload_n hx hb dX0_clear_0 rfl (lv_at hl 0 rfl) ?_
  refine lv_iconst (v := 0) hx hb dX0_clear_1 (by decide) ?_
  refine g_put (C := RX0) (T := TX0) (N := 20) (ci := 0) (v := .int 0) FC hKn hP hD hS i_X0 tyX0 tyX0_ok nmX0 0 rfl rfl 0 (by decide) b_0 rfl rfl rfl (Nat.le_of_ble_eq_true rfl) dX0_clear_2 (fun H locs hP hD hS => ?_)
  have hP : va_P g.1 vwCl [(h0, .inr (0, [.int 0, .int 0, .int 0, .int 0, .int 0, .int 0, .int 0, .int 0, .int 0, .int 0, .ref v0, .ref v1, .ref v2, .ref v3, .ref v4, .ref v5, .ref v6, .ref v7, .ref v8, .ref v9])), (v9, .inr (3, [.ref x0, .ref x1, .ref x2, .int 0])), (v0, .inl (g.2 0, 8, .inl fa0)), (v2, .inl (g.2 0, 4, .inl fa2)), (v3, .inl (g.2 0, 4, .inl fa3))] H := hP
  have hD : va_D A [(h0, .inr (0, [.int 0, .int 0, .int 0, .int 0, .int 0, .int 0, .int 0, .int 0, .int 0, .int 0, .ref v0, .ref v1, .ref v2, .ref v3, .ref v4, .ref v5, .ref v6, .ref v7, .ref v8, .ref v9])), (v9, .inr (3, [.ref x0, .ref x1, .ref x2, .int 0])), (v0, .inl (g.2 0, 8, .inl fa0)), (v2, .inl (g.2 0, 4, .inl fa2)), (v3, .inl (g.2 0, 4, .inl fa3))] := hD
  refine lv_aload_n hx hb dX0_clear_5 rfl (lv_at hl 0 rfl) ?_
  refine lv_iconst (v := 0) hx hb dX0_clear_6 (by decide) ?_
  refine g_put (C := RX0) (T := TX0) (N := 20) (ci := 0) (v := .int 0) FC hKn hP hD hS i_X0 tyX0 tyX0_ok nmX0 0 rfl rfl 1 (by decide) b_108 rfl rfl rfl (Nat.le_of_ble_eq_true rfl) dX0_clear_7 (fun H locs hP hD hS => ?_)
  have hP : va_P g.1 vwCl [(h0, .inr (0, [.int 0, .int 0, .int 0, .int 0, .int 0, .int 0, .int 0, .int 0, .int 0, .int 0, .ref v0, .ref v1, .ref v2, .ref v3, .ref v4, .ref v5, .ref v6, .ref v7, .ref v8, .ref v9])), (v9, .inr (3, [.ref x0, .ref x1, .ref x2, .int 0])), (v0, .inl (g.2 0, 8, .inl fa0)), (v2, .inl (g.2 0, 4, .inl fa2)), (v3, .inl (g.2 0, 4, .inl fa3))] H := hP
  have hD : va_D A [(h0, .inr (0, [.int 0, .int 0, .int 0, .int 0, .int 0, .int 0, .int 0, .int 0, .int 0, .int 0, .ref v0, .ref v1, .ref v2, .ref v3, .ref v4, .ref v5, .ref v6, .ref v7, .ref v8, .ref v9])), (v9, .inr (3, [.ref x0, .ref x1, .ref x2, .int 0])), (v0, .inl (g.2 0, 8, .inl fa0)), (v2, .inl (g.2 0, 4, .inl fa2)), (v3, .inl (g.2 0, 4, .inl fa3))] := hD
  refine lv_aload_n hx hb dX0_clear_10 rfl (lv_at hl 0 rfl) ?_
  refine lv_iconst (v := 0) hx hb dX0_clear_11 (by decide) ?_
  refine g_put (C := RX0) (T := TX0) (N := 20) (ci := 0) (v := .int 0) FC hKn hP hD hS i_X0 tyX0 tyX0_ok nmX0 0 rfl rfl 2 (by decide) b_2 rfl rfl rfl (Nat.le_of_ble_eq_true rfl) dX0_clear_12 (fun H locs hP hD hS => ?_)
  have hP : va_P g.1 vwCl [(h0, .inr (0, [.int 0, .int 0, .int 0, .int 0, .int 0, .int 0, .int 0, .int 0, .int 0, .int 0, .ref v0, .ref v1, .ref v2, .ref v3, .ref v4, .ref v5, .ref v6, .ref v7, .ref v8, .ref v9])), (v9, .inr (3, [.ref x0, .ref x1, .ref x2, .int 0])), (v0, .inl (g.2 0, 8, .inl fa0)), (v2, .inl (g.2 0, 4, .inl fa2)), (v3, .inl (g.2 0, 4, .inl fa3))] H := hP
  have hD : va_D A [(h0, .inr (0, [.int 0, .int 0, .int 0, .int 0, .int 0, .int 0, .int 0, .int 0, .int 0, .int 0, .ref v0, .ref v1, .ref v2, .ref v3, .ref v4, .ref v5, .ref v6, .ref v7, .ref v8, .ref v9])), (v9, .inr (3, [.ref x0, .ref x1, .ref x2, .int 0])), (v0, .inl (g.2 0, 8, .inl fa0)), (v2, .inl (g.2 0, 4, .inl fa2)), (v3, .inl (g.2 0, 4, .inl fa3))] := hD
  refine lv_aload_n hx hb dX0_clear_15 rfl (lv_at hl 0 rfl) ?_
  refine lv_iconst (v := 0) hx hb dX0_clear_16 (by decide) ?_
  refine g_put (C := RX0) (T := TX0) (N := 20) (ci := 0) (v := .int 0) FC hKn hP hD hS i_X0 tyX0 tyX0_ok nmX0 0 rfl rfl 3 (by decide) b_109 rfl rfl rfl (Nat.le_of_ble_eq_true rfl) dX0_clear_17 (fun H locs hP hD hS => ?_)
  have hP : va_P g.1 vwCl [(h0, .inr (0, [.int 0, .int 0, .int 0, .int 0, .int 0, .int 0, .int 0, .int 0, .int 0, .int 0, .ref v0, .ref v1, .ref v2, .ref v3, .ref v4, .ref v5, .ref v6, .ref v7, .ref v8, .ref v9])), (v9, .inr (3, [.ref x0, .ref x1, .ref x2, .int 0])), (v0, .inl (g.2 0, 8, .inl fa0)), (v2, .inl (g.2 0, 4, .inl fa2)), (v3, .inl (g.2 0, 4, .inl fa3))] H := hP
  have hD : va_D A [(h0, .inr (0, [.int 0, .int 0, .int 0, .int 0, .int 0, .int 0, .int 0, .int 0, .int 0, .int 0, .ref v0, .ref v1, .ref v2, .ref v3, .ref v4, .ref v5, .ref v6, .ref v7, .ref v8, .ref v9])), (v9, .inr (3, [.ref x0, .ref x1, .ref x2, .int 0])), (v0, .inl (g.2 0, 8, .inl fa0)), (v2, .inl (g.2 0, 4, .inl fa2)), (v3, .inl (g.2 0, 4, .inl fa3))] := hD
  refine lv_aload_n hx hb dX0_clear_20 rfl (lv_at hl 0 rfl) ?_
  refine lv_iconst (v := 0) hx hb dX0_clear_21 (by decide) ?_
  refine g_put (C := RX0) (T := TX0) (N := 20) (ci := 0) (v := .int 0) FC hKn hP hD hS i_X0 tyX0 tyX0_ok nmX0 0 rfl rfl 4 (by decide) b_110 rfl rfl rfl (Nat.le_of_ble_eq_true rfl) dX0_clear_22 (fun H locs hP hD hS => ?_)
  have hP : va_P g.1 vwCl [(h0, .inr (0, [.int 0, .int 0, .int 0, .int 0, .int 0, .int 0, .int 0, .int 0, .int 0, .int 0, .ref v0, .ref v1, .ref v2, .ref v3, .ref v4, .ref v5, .ref v6, .ref v7, .ref v8, .ref v9])), (v9, .inr (3, [.ref x0, .ref x1, .ref x2, .int 0])), (v0, .inl (g.2 0, 8, .inl fa0)), (v2, .inl (g.2 0, 4, .inl fa2)), (v3, .inl (g.2 0, 4, .inl fa3))] H := hP
  have hD : va_D A [(h0, .inr (0, [.int 0, .int 0, .int 0, .int 0, .int 0, .int 0, .int 0, .int 0, .int 0, .int 0, .ref v0, .ref v1, .ref v2, .ref v3, .ref v4, .ref v5, .ref v6, .ref v7, .ref v8, .ref v9])), (v9, .inr (3, [.ref x0, .ref x1, .ref x2, .int 0])), (v0, .inl (g.2 0, 8, .inl fa0)), (v2, .inl (g.2 0, 4, .inl fa2)), (v3, .inl (g.2 0, 4, .inl fa3))] := hD
  refine lv_aload_n hx hb dX0_clear_25 rfl (lv_at hl 0 rfl) ?_
  refine lv_iconst (v := 0) hx hb dX0_clear_26 (by decide) ?_
  refine g_put (C := RX0) (T := TX0) (N := 20) (ci := 0) (v := .int 0) FC hKn hP hD hS i_X0 tyX0 tyX0_ok nmX0 0 rfl rfl 5 (by decide) b_1 rfl rfl rfl (Nat.le_of_ble_eq_true rfl) dX0_clear_27 (fun H locs hP hD hS => ?_)
  have hP : va_P g.1 vwCl [(h0, .inr (0, [.int 0, .int 0, .int 0, .int 0, .int 0, .int 0, .int 0, .int 0, .int 0, .int 0, .ref v0, .ref v1, .ref v2, .ref v3, .ref v4, .ref v5, .ref v6, .ref v7, .ref v8, .ref v9])), (v9, .inr (3, [.ref x0, .ref x1, .ref x2, .int 0])), (v0, .inl (g.2 0, 8, .inl fa0)), (v2, .inl (g.2 0, 4, .inl fa2)), (v3, .inl (g.2 0, 4, .inl fa3))] H := hP
  have hD : va_D A [(h0, .inr (0, [.int 0, .int 0, .int 0, .int 0, .int 0, .int 0, .int 0, .int 0, .int 0, .int 0, .ref v0, .ref v1, .ref v2, .ref v3, .ref v4, .ref v5, .ref v6, .ref v7, .ref v8, .ref v9])), (v9, .inr (3, [.ref x0, .ref x1, .ref x2, .int 0])), (v0, .inl (g.2 0, 8, .inl fa0)), (v2, .inl (g.2 0, 4, .inl fa2)), (v3, .inl (g.2 0, 4, .inl fa3))] := hD
  refine lv_aload_n hx hb dX0_clear_30 rfl (lv_at hl 0 rfl) ?_
  refine lv_iconst (v := 0) hx hb dX0_clear_31 (by decide) ?_
  refine g_put (C := RX0) (T := TX0) (N := 20) (ci := 0) (v := .int 0) FC hKn hP hD hS i_X0 tyX0 tyX0_ok nmX0 0 rfl rfl 6 (by decide) b_3 rfl rfl rfl (Nat.le_of_ble_eq_true rfl) dX0_clear_32 (fun H locs hP hD hS => ?_)
  have hP : va_P g.1 vwCl [(h0, .inr (0, [.int 0, .int 0, .int 0, .int 0, .int 0, .int 0, .int 0, .int 0, .int 0, .int 0, .ref v0, .ref v1, .ref v2, .ref v3, .ref v4, .ref v5, .ref v6, .ref v7, .ref v8, .ref v9])), (v9, .inr (3, [.ref x0, .ref x1, .ref x2, .int 0])), (v0, .inl (g.2 0, 8, .inl fa0)), (v2, .inl (g.2 0, 4, .inl fa2)), (v3, .inl (g.2 0, 4, .inl fa3))] H := hP
  have hD : va_D A [(h0, .inr (0, [.int 0, .int 0, .int 0, .int 0, .int 0, .int 0, .int 0, .int 0, .int 0, .int 0, .ref v0, .ref v1, .ref v2, .ref v3, .ref v4, .ref v5, .ref v6, .ref v7, .ref v8, .ref v9])), (v9, .inr (3, [.ref x0, .ref x1, .ref x2, .int 0])), (v0, .inl (g.2 0, 8, .inl fa0)), (v2, .inl (g.2 0, 4, .inl fa2)), (v3, .inl (g.2 0, 4, .inl fa3))] := hD
  refine lv_aload_n hx hb dX0_clear_35 rfl (lv_at hl 0 rfl) ?_
  refine lv_iconst (v := 0) hx hb dX0_clear_36 (by decide) ?_
  refine g_put (C := RX0) (T := TX0) (N := 20) (ci := 0) (v := .int 0) FC hKn hP hD hS i_X0 tyX0 tyX0_ok nmX0 0 rfl rfl 7 (by decide) b_4 rfl rfl rfl (Nat.le_of_ble_eq_true rfl) dX0_clear_37 (fun H locs hP hD hS => ?_)
  have hP : va_P g.1 vwCl [(h0, .inr (0, [.int 0, .int 0, .int 0, .int 0, .int 0, .int 0, .int 0, .int 0, .int 0, .int 0, .ref v0, .ref v1, .ref v2, .ref v3, .ref v4, .ref v5, .ref v6, .ref v7, .ref v8, .ref v9])), (v9, .inr (3, [.ref x0, .ref x1, .ref x2, .int 0])), (v0, .inl (g.2 0, 8, .inl fa0)), (v2, .inl (g.2 0, 4, .inl fa2)), (v3, .inl (g.2 0, 4, .inl fa3))] H := hP
  have hD : va_D A [(h0, .inr (0, [.int 0, .int 0, .int 0, .int 0, .int 0, .int 0, .int 0, .int 0, .int 0, .int 0, .ref v0, .ref v1, .ref v2, .ref v3, .ref v4, .ref v5, .ref v6, .ref v7, .ref v8, .ref v9])), (v9, .inr (3, [.ref x0, .ref x1, .ref x2, .int 0])), (v0, .inl (g.2 0, 8, .inl fa0)), (v2, .inl (g.2 0, 4, .inl fa2)), (v3, .inl (g.2 0, 4, .inl fa3))] := hD
  refine lv_aload_n hx hb dX0_clear_40 rfl (lv_at hl 0 rfl) ?_
  refine lv_iconst (v := 0) hx hb dX0_clear_41 (by decide) ?_
  refine g_put (C := RX0) (T := TX0) (N := 20) (ci := 0) (v := .int 0) FC hKn hP hD hS i_X0 tyX0 tyX0_ok nmX0 0 rfl rfl 8 (by decide) b_5 rfl rfl rfl (Nat.le_of_ble_eq_true rfl) dX0_clear_42 (fun H locs hP hD hS => ?_)
  have hP : va_P g.1 vwCl [(h0, .inr (0, [.int 0, .int 0, .int 0, .int 0, .int 0, .int 0, .int 0, .int 0, .int 0, .int 0, .ref v0, .ref v1, .ref v2, .ref v3, .ref v4, .ref v5, .ref v6, .ref v7, .ref v8, .ref v9])), (v9, .inr (3, [.ref x0, .ref x1, .ref x2, .int 0])), (v0, .inl (g.2 0, 8, .inl fa0)), (v2, .inl (g.2 0, 4, .inl fa2)), (v3, .inl (g.2 0, 4, .inl fa3))] H := hP
  have hD : va_D A [(h0, .inr (0, [.int 0, .int 0, .int 0, .int 0, .int 0, .int 0, .int 0, .int 0, .int 0, .int 0, .ref v0, .ref v1, .ref v2, .ref v3, .ref v4, .ref v5, .ref v6, .ref v7, .ref v8, .ref v9])), (v9, .inr (3, [.ref x0, .ref x1, .ref x2, .int 0])), (v0, .inl (g.2 0, 8, .inl fa0)), (v2, .inl (g.2 0, 4, .inl fa2)), (v3, .inl (g.2 0, 4, .inl fa3))] := hD
  refine lv_aload_n hx hb dX0_clear_45 rfl (lv_at hl 0 rfl) ?_
  refine lv_iconst (v := 0) hx hb dX0_clear_46 (by decide) ?_
  refine g_put (C := RX0) (T := TX0) (N := 20) (ci := 0) (v := .int 0) FC hKn hP hD hS i_X0 tyX0 tyX0_ok nmX0 0 rfl rfl 9 (by decide) b_6 rfl rfl rfl (Nat.le_of_ble_eq_true rfl) dX0_clear_47 (fun H locs hP hD hS => ?_)
  have hP : va_P g.1 vwCl [(h0, .inr (0, [.int 0, .int 0, .int 0, .int 0, .int 0, .int 0, .int 0, .int 0, .int 0, .int 0, .ref v0, .ref v1, .ref v2, .ref v3, .ref v4, .ref v5, .ref v6, .ref v7, .ref v8, .ref v9])), (v9, .inr (3, [.ref x0, .ref x1, .ref x2, .int 0])), (v0, .inl (g.2 0, 8, .inl fa0)), (v2, .inl (g.2 0, 4, .inl fa2)), (v3, .inl (g.2 0, 4, .inl fa3))] H := hP
  have hD : va_D A [(h0, .inr (0, [.int 0, .int 0, .int 0, .int 0, .int 0, .int 0, .int 0, .int 0, .int 0, .int 0, .ref v0, .ref v1, .ref v2, .ref v3, .ref v4, .ref v5, .ref v6, .ref v7, .ref v8, .ref v9])), (v9, .inr (3, [.ref x0, .ref x1, .ref x2, .int 0])), (v0, .inl (g.2 0, 8, .inl fa0)), (v2, .inl (g.2 0, 4, .inl fa2)), (v3, .inl (g.2 0, 4, .inl fa3))] := hD
  refine lv_aload_n hx hb dX0_clear_50 rfl (lv_at hl 0 rfl) ?_
  refine g_get (C := RX0) (T := TX0) (N := 20) (ci := 0) (v := .ref v9) FC hKn hP i_X0 0 rfl rfl 19 (by decide) b_121 rfl dX0_clear_51 ?_
  refine lv_iconst (v := 0) hx hb dX0_clear_54 (by decide) ?_
  refine g_putN (C := RX3) (T := TX3) (N := 4) (ci := 3) (v := .int 0) FC hKn hP hD hS i_X3 tyX3 tyX3_ok nmX3 1 rfl rfl 3 (by decide) b_123 rfl rfl rfl (Nat.le_of_ble_eq_true rfl) dX0_clear_55 (fun H locs hP hD hS => ?_)
  have hP : va_P g.1 vwCl [(h0, .inr (0, [.int 0, .int 0, .int 0, .int 0, .int 0, .int 0, .int 0, .int 0, .int 0, .int 0, .ref v0, .ref v1, .ref v2, .ref v3, .ref v4, .ref v5, .ref v6, .ref v7, .ref v8, .ref v9])), (v9, .inr (3, [.ref x0, .ref x1, .ref x2, .int 0])), (v0, .inl (g.2 0, 8, .inl fa0)), (v2, .inl (g.2 0, 4, .inl fa2)), (v3, .inl (g.2 0, 4, .inl fa3))] H := hP
  have hD : va_D A [(h0, .inr (0, [.int 0, .int 0, .int 0, .int 0, .int 0, .int 0, .int 0, .int 0, .int 0, .int 0, .ref v0, .ref v1, .ref v2, .ref v3, .ref v4, .ref v5, .ref v6, .ref v7, .ref v8, .ref v9])), (v9, .inr (3, [.ref x0, .ref x1, .ref x2, .int 0])), (v0, .inl (g.2 0, 8, .inl fa0)), (v2, .inl (g.2 0, 4, .inl fa2)), (v3, .inl (g.2 0, 4, .inl fa3))] := hD
  refine lv_aload_n hx hb dX0_clear_58 rfl (lv_at hl 0 rfl) ?_
  refine g_get (C := RX0) (T := TX0) (N := 20) (ci := 0) (v := .ref v0) FC hKn hP i_X0 0 rfl rfl 10 (by decide) b_111 rfl dX0_clear_59 ?_
  refine lv_iconst (v := 0) hx hb dX0_clear_62 (by decide) ?_
  refine call_S (As := [.ref v0, .int 0]) (rest := []) (wr := [(h0, .inr (0, [.int 0, .int 0, .int 0, .int 0, .int 0, .int 0, .int 0, .int 0, .int 0, .int 0, .ref v0, .ref v1, .ref v2, .ref v3, .ref v4, .ref v5, .ref v6, .ref v7, .ref v8, .ref v9])), (v9, .inr (3, [.ref x0, .ref x1, .ref x2, .int 0])), (v2, .inl (g.2 0, 4, .inl fa2)), (v3, .inl (g.2 0, 4, .inl fa3))]) FC hKn (c_J7_fill_8 l g v0 fa0 0) m_yJ7_fill_53178 b_124 hP hD hS hA [2] [0, 1, 3, 4] rfl (by decide) rfl (by decide) (by decide) rfl hl.1 rfl (Nat.le_of_ble_eq_true rfl) dX0_clear_63 ⟨(Nat.le_of_ble_eq_true rfl), (Nat.le_of_ble_eq_true rfl)⟩ ⟨(Nat.le_of_ble_eq_true rfl), (Nat.le_of_ble_eq_true rfl)⟩ (fun u1 H locs _ hP hD hS => ?_)
  have hP : va_P g.1 vwCl [(h0, .inr (0, [.int 0, .int 0, .int 0, .int 0, .int 0, .int 0, .int 0, .int 0, .int 0, .int 0, .ref v0, .ref v1, .ref v2, .ref v3, .ref v4, .ref v5, .ref v6, .ref v7, .ref v8, .ref v9])), (v9, .inr (3, [.ref x0, .ref x1, .ref x2, .int 0])), (v2, .inl (g.2 0, 4, .inl fa2)), (v3, .inl (g.2 0, 4, .inl fa3)), (v0, .inl (g.2 0, 8, .inl u1))] H := hP
  have hD : va_D A [(h0, .inr (0, [.int 0, .int 0, .int 0, .int 0, .int 0, .int 0, .int 0, .int 0, .int 0, .int 0, .ref v0, .ref v1, .ref v2, .ref v3, .ref v4, .ref v5, .ref v6, .ref v7, .ref v8, .ref v9])), (v9, .inr (3, [.ref x0, .ref x1, .ref x2, .int 0])), (v2, .inl (g.2 0, 4, .inl fa2)), (v3, .inl (g.2 0, 4, .inl fa3)), (v0, .inl (g.2 0, 8, .inl u1))] := hD
  refine W.eq (g2 := F0 m 66 ls []) rfl ?_
  refine lv_aload_n hx hb dX0_clear_66 rfl (lv_at hl 0 rfl) ?_
  refine g_get (C := RX0) (T := TX0) (N := 20) (ci := 0) (v := .ref v2) FC hKn hP i_X0 0 rfl rfl 12 (by decide) b_114 rfl dX0_clear_67 ?_
  refine lv_iconst (v := 0) hx hb dX0_clear_70 (by decide) ?_
  refine call_S (As := [.ref v2, .int 0]) (rest := []) (wr := [(h0, .inr (0, [.int 0, .int 0, .int 0, .int 0, .int 0, .int 0, .int 0, .int 0, .int 0, .int 0, .ref v0, .ref v1, .ref v2, .ref v3, .ref v4, .ref v5, .ref v6, .ref v7, .ref v8, .ref v9])), (v9, .inr (3, [.ref x0, .ref x1, .ref x2, .int 0])), (v3, .inl (g.2 0, 4, .inl fa3)), (v0, .inl (g.2 0, 8, .inl u1))]) FC hKn (c_J7_fill_4 l g v2 fa2 0) m_yJ7_fill_53178 b_124 hP hD hS hA [2] [0, 1, 3, 4] rfl (by decide) rfl (by decide) (by decide) rfl hl.1 rfl (Nat.le_of_ble_eq_true rfl) dX0_clear_71 ⟨(Nat.le_of_ble_eq_true rfl), (Nat.le_of_ble_eq_true rfl)⟩ ⟨(Nat.le_of_ble_eq_true rfl), (Nat.le_of_ble_eq_true rfl)⟩ (fun u2 H locs _ hP hD hS => ?_)
  have hP : va_P g.1 vwCl [(h0, .inr (0, [.int 0, .int 0, .int 0, .int 0, .int 0, .int 0, .int 0, .int 0, .int 0, .int 0, .ref v0, .ref v1, .ref v2, .ref v3, .ref v4, .ref v5, .ref v6, .ref v7, .ref v8, .ref v9])), (v9, .inr (3, [.ref x0, .ref x1, .ref x2, .int 0])), (v3, .inl (g.2 0, 4, .inl fa3)), (v0, .inl (g.2 0, 8, .inl u1)), (v2, .inl (g.2 0, 4, .inl u2))] H := hP
  have hD : va_D A [(h0, .inr (0, [.int 0, .int 0, .int 0, .int 0, .int 0, .int 0, .int 0, .int 0, .int 0, .int 0, .ref v0, .ref v1, .ref v2, .ref v3, .ref v4, .ref v5, .ref v6, .ref v7, .ref v8, .ref v9])), (v9, .inr (3, [.ref x0, .ref x1, .ref x2, .int 0])), (v3, .inl (g.2 0, 4, .inl fa3)), (v0, .inl (g.2 0, 8, .inl u1)), (v2, .inl (g.2 0, 4, .inl u2))] := hD
  refine W.eq (g2 := F0 m 74 ls []) rfl ?_
  refine lv_aload_n hx hb dX0_clear_74 rfl (lv_at hl 0 rfl) ?_
  refine g_get (C := RX0) (T := TX0) (N := 20) (ci := 0) (v := .ref v3) FC hKn hP i_X0 0 rfl rfl 13 (by decide) b_115 rfl dX0_clear_75 ?_
  refine lv_iconst (v := 0) hx hb dX0_clear_78 (by decide) ?_
  refine call_S (As := [.ref v3, .int 0]) (rest := []) (wr := [(h0, .inr (0, [.int 0, .int 0, .int 0, .int 0, .int 0, .int 0, .int 0, .int 0, .int 0, .int 0, .ref v0, .ref v1, .ref v2, .ref v3, .ref v4, .ref v5, .ref v6, .ref v7, .ref v8, .ref v9])), (v9, .inr (3, [.ref x0, .ref x1, .ref x2, .int 0])), (v0, .inl (g.2 0, 8, .inl u1)), (v2, .inl (g.2 0, 4, .inl u2))]) FC hKn (c_J7_fill_4 l g v3 fa3 0) m_yJ7_fill_53178 b_124 hP hD hS hA [2] [0, 1, 3, 4] rfl (by decide) rfl (by decide) (by decide) rfl hl.1 rfl (Nat.le_of_ble_eq_true rfl) dX0_clear_79 ⟨(Nat.le_of_ble_eq_true rfl), (Nat.le_of_ble_eq_true rfl)⟩ ⟨(Nat.le_of_ble_eq_true rfl), (Nat.le_of_ble_eq_true rfl)⟩ (fun u3 H locs _ hP hD hS => ?_)
  have hP : va_P g.1 vwCl [(h0, .inr (0, [.int 0, .int 0, .int 0, .int 0, .int 0, .int 0, .int 0, .int 0, .int 0, .int 0, .ref v0, .ref v1, .ref v2, .ref v3, .ref v4, .ref v5, .ref v6, .ref v7, .ref v8, .ref v9])), (v9, .inr (3, [.ref x0, .ref x1, .ref x2, .int 0])), (v0, .inl (g.2 0, 8, .inl u1)), (v2, .inl (g.2 0, 4, .inl u2)), (v3, .inl (g.2 0, 4, .inl u3))] H := hP
  have hD : va_D A [(h0, .inr (0, [.int 0, .int 0, .int 0, .int 0, .int 0, .int 0, .int 0, .int 0, .int 0, .int 0, .ref v0, .ref v1, .ref v2, .ref v3, .ref v4, .ref v5, .ref v6, .ref v7, .ref v8, .ref v9])), (v9, .inr (3, [.ref x0, .ref x1, .ref x2, .int 0])), (v0, .inl (g.2 0, 8, .inl u1)), (v2, .inl (g.2 0, 4, .inl u2)), (v3, .inl (g.2 0, 4, .inl u3))] := hD
  refine W.eq (g2 := F0 m 82 ls []) rfl ?_
  exact rt_v FX (fun k => match k with | 0 => u1 | 1 => u2 | _ => u3) rfl trivial (hP.sub [0, 1, 2, 3, 4] rfl) (hD.sub [0, 1, 2, 3, 4] (by decide) rfl) hS (Nat.le_of_ble_eq_true rfl) (Nat.le_of_ble_eq_true rfl) dX0_clear_82
set_option maxRecDepth 100000 in
set_option maxHeartbeats 4000000 in
theorem c_X9_advance (l : Launch) (g : GG) (h0 : Nat) (b0 : Nat) : Ct l g yX9_advance cX9_advance 1 none { frames := 0, cells := 0, slots := 0, locals := 0 } [.ref h0] [(h0, .inr (9, [.ref b0, .int 0, .int 0, .int 0, .int 0, .int 0]))] (S := Unit) (fun _ => none) (fun _ => True) (fun u => [(h0, .inr (9, [.ref b0, .int 0, .int 0, .int 0, .int 0, .int 0]))]) := by
  refine Ct.of (by decide) (Nat.le_of_ble_eq_true rfl) ?_
  intro p e s m below meth c A ls FX hP hD hS hl
  obtain ⟨FC, hr, hlk, hKn, hA, hnm⟩ := id FX
  have FC : CallFix p m c cX9_advance 1 s _ BIG RX9 := FC
  obtain ⟨hx, hb, hml, hown, hB⟩ := id FC
  have hl : lv_has ls 1 [(0, .ref h0)] := hl
  refine lv_aload_n hx hb dX9_advance_0 rfl (lv_at hl 0 rfl) ?_
  refine lv_aload_n hx hb dX9_advance_1 rfl (lv_at hl 0 rfl) ?_
  refine g_get (C := RX9) (T := TX9) (N := 6) (ci := 9) (v := .int 0) FC hKn hP i_X9 0 rfl rfl 4 (by decide) b_125 rfl dX9_advance_2 ?_
  refine g_put (C := RX9) (T := TX9) (N := 6) (ci := 9) (v := .int 0) FC hKn hP hD hS i_X9 tyX9 tyX9_ok nmX9 0 rfl rfl 3 (by decide) b_126 rfl rfl rfl (Nat.le_of_ble_eq_true rfl) dX9_advance_5 (fun H locs hP hD hS => ?_)
  have hP : va_P g.1 vwCl [(h0, .inr (9, [.ref b0, .int 0, .int 0, .int 0, .int 0, .int 0]))] H := hP
  have hD : va_D A [(h0, .inr (9, [.ref b0, .int 0, .int 0, .int 0, .int 0, .int 0]))] := hD
  refine lv_aload_n hx hb dX9_advance_8 rfl (lv_at hl 0 rfl) ?_
  refine g_get (C := RX9) (T := TX9) (N := 6) (ci := 9) (v := .int 0) FC hKn hP i_X9 0 rfl rfl 3 (by decide) b_126 rfl dX9_advance_9 ?_
  refine lv_aload_n hx hb dX9_advance_12 rfl (lv_at hl 0 rfl) ?_
  refine g_get (C := RX9) (T := TX9) (N := 6) (ci := 9) (v := .int 0) FC hKn hP i_X9 0 rfl rfl 1 (by decide) b_127 rfl dX9_advance_13 ?_
  refine lv_icmp_ge (tgt := 48) hx hb dX9_advance_16 (by decide) (fun _ => ?_) (fun h => absurd h (by decide))
  refine lv_aload_n hx hb dX9_advance_48 rfl (lv_at hl 0 rfl) ?_
  refine lv_aload_n hx hb dX9_advance_49 rfl (lv_at hl 0 rfl) ?_
  refine g_get (C := RX9) (T := TX9) (N := 6) (ci := 9) (v := .int 0) FC hKn hP i_X9 0 rfl rfl 3 (by decide) b_126 rfl dX9_advance_50 ?_
  refine g_put (C := RX9) (T := TX9) (N := 6) (ci := 9) (v := .int 0) FC hKn hP hD hS i_X9 tyX9 tyX9_ok nmX9 0 rfl rfl 4 (by decide) b_125 rfl rfl rfl (Nat.le_of_ble_eq_true rfl) dX9_advance_53 (fun H locs hP hD hS => ?_)
  have hP : va_P g.1 vwCl [(h0, .inr (9, [.ref b0, .int 0, .int 0, .int 0, .int 0, .int 0]))] H := hP
  have hD : va_D A [(h0, .inr (9, [.ref b0, .int 0, .int 0, .int 0, .int 0, .int 0]))] := hD
  refine lv_aload_n hx hb dX9_advance_56 rfl (lv_at hl 0 rfl) ?_
  refine lv_aload_n hx hb dX9_advance_57 rfl (lv_at hl 0 rfl) ?_
  refine g_get (C := RX9) (T := TX9) (N := 6) (ci := 9) (v := .int 0) FC hKn hP i_X9 0 rfl rfl 3 (by decide) b_126 rfl dX9_advance_58 ?_
  refine lv_aload_n hx hb dX9_advance_61 rfl (lv_at hl 0 rfl) ?_
  refine g_get (C := RX9) (T := TX9) (N := 6) (ci := 9) (v := .int 0) FC hKn hP i_X9 0 rfl rfl 1 (by decide) b_127 rfl dX9_advance_62 ?_
  refine lv_icmp_ge (tgt := 83) hx hb dX9_advance_65 (by decide) (fun _ => ?_) (fun h => absurd h (by decide))
  refine lv_iconst (v := 0) hx hb dX9_advance_83 (by decide) ?_
  refine g_put (C := RX9) (T := TX9) (N := 6) (ci := 9) (v := .int 0) FC hKn hP hD hS i_X9 tyX9 tyX9_ok nmX9 0 rfl rfl 2 (by decide) b_128 rfl rfl rfl (Nat.le_of_ble_eq_true rfl) dX9_advance_84 (fun H locs hP hD hS => ?_)
  have hP : va_P g.1 vwCl [(h0, .inr (9, [.ref b0, .int 0, .int 0, .int 0, .int 0, .int 0]))] H := hP
  have hD : va_D A [(h0, .inr (9, [.ref b0, .int 0, .int 0, .int 0, .int 0, .int 0]))] := hD
  refine lv_aload_n hx hb dX9_advance_87 rfl (lv_at hl 0 rfl) ?_
  refine lv_iconst (v := 0) hx hb dX9_advance_88 (by decide) ?_
  refine g_put (C := RX9) (T := TX9) (N := 6) (ci := 9) (v := .int 0) FC hKn hP hD hS i_X9 tyX9 tyX9_ok nmX9 0 rfl rfl 5 (by decide) b_129 rfl rfl rfl (Nat.le_of_ble_eq_true rfl) dX9_advance_89 (fun H locs hP hD hS => ?_)
  have hP : va_P g.1 vwCl [(h0, .inr (9, [.ref b0, .int 0, .int 0, .int 0, .int 0, .int 0]))] H := hP
  have hD : va_D A [(h0, .inr (9, [.ref b0, .int 0, .int 0, .int 0, .int 0, .int 0]))] := hD
  refine lv_aload_n hx hb dX9_advance_92 rfl (lv_at hl 0 rfl) ?_
  refine g_get (C := RX9) (T := TX9) (N := 6) (ci := 9) (v := .int 0) FC hKn hP i_X9 0 rfl rfl 2 (by decide) b_128 rfl dX9_advance_93 ?_
  refine lv_iconst (v := 3) hx hb dX9_advance_96 (by decide) ?_
  refine lv_icmp_eq (tgt := 108) hx hb dX9_advance_97 (by decide) (fun h => absurd h (by decide)) (fun _ => ?_)
  refine lv_aload_n hx hb dX9_advance_100 rfl (lv_at hl 0 rfl) ?_
  refine g_get (C := RX9) (T := TX9) (N := 6) (ci := 9) (v := .int 0) FC hKn hP i_X9 0 rfl rfl 2 (by decide) b_128 rfl dX9_advance_101 ?_
  refine lv_iconst (v := 4) hx hb dX9_advance_104 (by decide) ?_
  refine lv_icmp_ne (tgt := 119) hx hb dX9_advance_105 (by decide) (fun _ => ?_) (fun h => absurd h (by decide))
  refine lv_aload_n hx hb dX9_advance_119 rfl (lv_at hl 0 rfl) ?_
  refine g_get (C := RX9) (T := TX9) (N := 6) (ci := 9) (v := .int 0) FC hKn hP i_X9 0 rfl rfl 4 (by decide) b_125 rfl dX9_advance_120 ?_
  refine lv_aload_n hx hb dX9_advance_123 rfl (lv_at hl 0 rfl) ?_
  refine g_get (C := RX9) (T := TX9) (N := 6) (ci := 9) (v := .int 0) FC hKn hP i_X9 0 rfl rfl 1 (by decide) b_127 rfl dX9_advance_124 ?_
  refine lv_icmp_ge (tgt := 199) hx hb dX9_advance_127 (by decide) (fun _ => ?_) (fun h => absurd h (by decide))
  exact rt_v FX () rfl trivial (hP.sub [0] rfl) (hD.sub [0] (by decide) rfl) hS (Nat.le_of_ble_eq_true rfl) (Nat.le_of_ble_eq_true rfl) dX9_advance_199
set_option maxRecDepth 100000 in
set_option maxHeartbeats 4000000 in
theorem c_X9_rewind (l : Launch) (g : GG) (h0 : Nat) (b0 : Nat) : Ct l g yX9_rewind cX9_rewind 1 none { frames := 1, cells := 0, slots := 0, locals := 20 } [.ref h0] [(h0, .inr (9, [.ref b0, .int 0, .int 0, .int 0, .int 0, .int 0]))] (S := Unit) (fun _ => none) (fun _ => True) (fun u => [(h0, .inr (9, [.ref b0, .int 0, .int 0, .int 0, .int 0, .int 0]))]) := by
  refine Ct.of (by decide) (Nat.le_of_ble_eq_true rfl) ?_
  intro p e s m below meth c A ls FX hP hD hS hl
  obtain ⟨FC, hr, hlk, hKn, hA, hnm⟩ := id FX
  have FC : CallFix p m c cX9_rewind 1 s _ BIG RX9 := FC
  obtain ⟨hx, hb, hml, hown, hB⟩ := id FC
  have hl : lv_has ls 1 [(0, .ref h0)] := hl
  refine lv_aload_n hx hb dX9_rewind_0 rfl (lv_at hl 0 rfl) ?_
  refine lv_iconst (v := 0) hx hb dX9_rewind_1 (by decide) ?_
  refine g_put (C := RX9) (T := TX9) (N := 6) (ci := 9) (v := .int 0) FC hKn hP hD hS i_X9 tyX9 tyX9_ok nmX9 0 rfl rfl 4 (by decide) b_125 rfl rfl rfl (Nat.le_of_ble_eq_true rfl) dX9_rewind_2 (fun H locs hP hD hS => ?_)
  have hP : va_P g.1 vwCl [(h0, .inr (9, [.ref b0, .int 0, .int 0, .int 0, .int 0, .int 0]))] H := hP
  have hD : va_D A [(h0, .inr (9, [.ref b0, .int 0, .int 0, .int 0, .int 0, .int 0]))] := hD
  refine lv_aload_n hx hb dX9_rewind_5 rfl (lv_at hl 0 rfl) ?_
  refine call_V (As := []) (rest := []) (wr := []) FC hKn (c_X9_advance l g h0 b0) m_yX9_advance b_130 (ci := 9) rfl rfl rfl hP hD hS hA [0] [] rfl (by decide) rfl (by decide) (by decide) rfl hl.1 rfl (Nat.le_of_ble_eq_true rfl) dX9_rewind_6 ⟨(Nat.le_of_ble_eq_true rfl), (Nat.le_of_ble_eq_true rfl)⟩ ⟨(Nat.le_of_ble_eq_true rfl), (Nat.le_of_ble_eq_true rfl)⟩ (fun u1 H locs _ hP hD hS => ?_)
  have hP : va_P g.1 vwCl [(h0, .inr (9, [.ref b0, .int 0, .int 0, .int 0, .int 0, .int 0]))] H := hP
  have hD : va_D A [(h0, .inr (9, [.ref b0, .int 0, .int 0, .int 0, .int 0, .int 0]))] := hD
  refine W.eq (g2 := F0 m 9 ls []) rfl ?_
  exact rt_v FX () rfl trivial (hP.sub [0] rfl) (hD.sub [0] (by decide) rfl) hS (Nat.le_of_ble_eq_true rfl) (Nat.le_of_ble_eq_true rfl) dX9_rewind_9
set_option maxRecDepth 100000 in
set_option maxHeartbeats 4000000 in
theorem c_X9_put_0 (l : Launch) (g : GG) (h0 : Nat) (b0 : Nat) (ff : Nat → Int32) (p1 : Int32) : Ct l g yX9_put cX9_put 3 none { frames := 0, cells := 0, slots := 0, locals := 0 } [.ref h0, .int p1] [(h0, .inr (9, [.ref b0, .int 0, .int 0, .int 0, .int 0, .int 0])), (b0, .inl (g.2 1, 900, .inl ff))] (S := Nat → Int32) (fun _ => none) (fun _ => True) (fun u => [(h0, .inr (9, [.ref b0, .int 4, .int 0, .int 0, .int 0, .int 0])), (b0, .inl (g.2 1, 900, .inl u))]) := by
  refine Ct.of (by decide) (Nat.le_of_ble_eq_true rfl) ?_
  intro p e s m below meth c A ls FX hP hD hS hl
  obtain ⟨FC, hr, hlk, hKn, hA, hnm⟩ := id FX
  have FC : CallFix p m c cX9_put 3 s _ BIG RX9 := FC
  obtain ⟨hx, hb, hml, hown, hB⟩ := id FC
  have hl : lv_has ls 3 [(0, .ref h0), (1, .int p1)] := hl
  refine lv_bipush (v := 24) hx hb dX9_put_0 (by decide) ?_
  refine lv_istore_n (lv' := [(2, .int 24), (0, .ref h0), (1, .int p1)]) hx hb dX9_put_2 rfl hl (by decide) rfl (fun ls hl => ?_)
  refine lv_iload_n hx hb dX9_put_3 rfl (lv_at hl 0 rfl) ?_
  refine lv_if_lt (tgt := 46) hx hb dX9_put_4 (by decide) (fun h => absurd h (by decide)) (fun _ => ?_)
  refine lv_aload_n hx hb dX9_put_7 rfl (lv_at hl 1 rfl) ?_
  refine g_get (C := RX9) (T := TX9) (N := 6) (ci := 9) (v := .int 0) FC hKn hP i_X9 0 rfl rfl 1 (by decide) b_127 rfl dX9_put_8 ?_
  refine lv_sipush (v := 900) hx hb dX9_put_11 (by decide) ?_
  refine lv_icmp_ge (tgt := 46) hx hb dX9_put_14 (by decide) (fun h => absurd h (by decide)) (fun _ => ?_)
  refine lv_aload_n hx hb dX9_put_17 rfl (lv_at hl 1 rfl) ?_
  refine g_get (C := RX9) (T := TX9) (N := 6) (ci := 9) (v := .ref b0) FC hKn hP i_X9 0 rfl rfl 0 (by decide) b_131 rfl dX9_put_18 ?_
  refine lv_aload_n hx hb dX9_put_21 rfl (lv_at hl 1 rfl) ?_
  refine g_get (C := RX9) (T := TX9) (N := 6) (ci := 9) (v := .int 0) FC hKn hP i_X9 0 rfl rfl 1 (by decide) b_127 rfl dX9_put_22 ?_
  refine lv_iload_n hx hb dX9_put_25 rfl (lv_at hl 2 rfl) ?_
  refine lv_iload_n hx hb dX9_put_26 rfl (lv_at hl 0 rfl) ?_
  refine lv_ishr hx hb dX9_put_27 ?_
  refine lv_topi (fun z1 e_z1 => ?_)
  refine lv_i2b hx hb dX9_put_28 rfl ?_
  refine lv_topi (fun z2 e_z2 => ?_)
  refine va_bast hx hb hKn.1 hP hD hS 1 1 rfl rfl (by unfold vp_in; decide) dX9_put_29 (fun H locs hP hD hS => ?_)
  have hP : va_P g.1 vwCl [(h0, .inr (9, [.ref b0, .int 0, .int 0, .int 0, .int 0, .int 0])), (b0, .inl (g.2 1, 900, .inl (upd ff ((0 : Int32).toNatClampNeg) (vp_nar .byte z2))))] H := hP
  have hD : va_D A [(h0, .inr (9, [.ref b0, .int 0, .int 0, .int 0, .int 0, .int 0])), (b0, .inl (g.2 1, 900, .inl (upd ff ((0 : Int32).toNatClampNeg) (vp_nar .byte z2))))] := hD
  generalize (upd ff ((0 : Int32).toNatClampNeg) (vp_nar .byte z2) : Nat → Int32) = f3 at hP hD
  refine lv_aload_n hx hb dX9_put_30 rfl (lv_at hl 1 rfl) ?_
  refine lv_dup hx hb dX9_put_31 rfl ?_
  refine g_get (C := RX9) (T := TX9) (N := 6) (ci := 9) (v := .int 0) FC hKn hP i_X9 0 rfl rfl 1 (by decide) b_127 rfl dX9_put_32 ?_
  refine lv_iconst (v := 1) hx hb dX9_put_35 (by decide) ?_
  refine lv_iadd hx hb dX9_put_36 ?_
  refine tp_i (v := 1) (by decide) ?_
  refine g_put (C := RX9) (T := TX9) (N := 6) (ci := 9) (v := .int 1) FC hKn hP hD hS i_X9 tyX9 tyX9_ok nmX9 0 rfl rfl 1 (by decide) b_127 rfl rfl rfl (Nat.le_of_ble_eq_true rfl) dX9_put_37 (fun H locs hP hD hS => ?_)
  have hP : va_P g.1 vwCl [(h0, .inr (9, [.ref b0, .int 1, .int 0, .int 0, .int 0, .int 0])), (b0, .inl (g.2 1, 900, .inl f3))] H := hP
  have hD : va_D A [(h0, .inr (9, [.ref b0, .int 1, .int 0, .int 0, .int 0, .int 0])), (b0, .inl (g.2 1, 900, .inl f3))] := hD
  refine lv_iinc (v := 16) (lv' := [(2, .int 16), (0, .ref h0), (1, .int p1)]) hx hb dX9_put_40 hl (k := 0) rfl (by decide) (by decide) rfl (fun ls hl => ?_)
  refine lv_goto (tgt := 3) hx hb dX9_put_43 (by decide) ?_
  refine lv_iload_n hx hb dX9_put_3 rfl (lv_at hl 0 rfl) ?_
  refine lv_if_lt (tgt := 46) hx hb dX9_put_4 (by decide) (fun h => absurd h (by decide)) (fun _ => ?_)
  refine lv_aload_n hx hb dX9_put_7 rfl (lv_at hl 1 rfl) ?_
  refine g_get (C := RX9) (T := TX9) (N := 6) (ci := 9) (v := .int 1) FC hKn hP i_X9 0 rfl rfl 1 (by decide) b_127 rfl dX9_put_8 ?_
  refine lv_sipush (v := 900) hx hb dX9_put_11 (by decide) ?_
  refine lv_icmp_ge (tgt := 46) hx hb dX9_put_14 (by decide) (fun h => absurd h (by decide)) (fun _ => ?_)
  refine lv_aload_n hx hb dX9_put_17 rfl (lv_at hl 1 rfl) ?_
  refine g_get (C := RX9) (T := TX9) (N := 6) (ci := 9) (v := .ref b0) FC hKn hP i_X9 0 rfl rfl 0 (by decide) b_131 rfl dX9_put_18 ?_
  refine lv_aload_n hx hb dX9_put_21 rfl (lv_at hl 1 rfl) ?_
  refine g_get (C := RX9) (T := TX9) (N := 6) (ci := 9) (v := .int 1) FC hKn hP i_X9 0 rfl rfl 1 (by decide) b_127 rfl dX9_put_22 ?_
  refine lv_iload_n hx hb dX9_put_25 rfl (lv_at hl 2 rfl) ?_
  refine lv_iload_n hx hb dX9_put_26 rfl (lv_at hl 0 rfl) ?_
  refine lv_ishr hx hb dX9_put_27 ?_
  refine lv_topi (fun z4 e_z4 => ?_)
  refine lv_i2b hx hb dX9_put_28 rfl ?_
  refine lv_topi (fun z5 e_z5 => ?_)
  refine va_bast hx hb hKn.1 hP hD hS 1 1 rfl rfl (by unfold vp_in; decide) dX9_put_29 (fun H locs hP hD hS => ?_)
  have hP : va_P g.1 vwCl [(h0, .inr (9, [.ref b0, .int 1, .int 0, .int 0, .int 0, .int 0])), (b0, .inl (g.2 1, 900, .inl (upd f3 ((1 : Int32).toNatClampNeg) (vp_nar .byte z5))))] H := hP
  have hD : va_D A [(h0, .inr (9, [.ref b0, .int 1, .int 0, .int 0, .int 0, .int 0])), (b0, .inl (g.2 1, 900, .inl (upd f3 ((1 : Int32).toNatClampNeg) (vp_nar .byte z5))))] := hD
  generalize (upd f3 ((1 : Int32).toNatClampNeg) (vp_nar .byte z5) : Nat → Int32) = f6 at hP hD
  refine lv_aload_n hx hb dX9_put_30 rfl (lv_at hl 1 rfl) ?_
  refine lv_dup hx hb dX9_put_31 rfl ?_
  refine g_get (C := RX9) (T := TX9) (N := 6) (ci := 9) (v := .int 1) FC hKn hP i_X9 0 rfl rfl 1 (by decide) b_127 rfl dX9_put_32 ?_
  refine lv_iconst (v := 1) hx hb dX9_put_35 (by decide) ?_
  refine lv_iadd hx hb dX9_put_36 ?_
  refine tp_i (v := 2) (by decide) ?_
  refine g_put (C := RX9) (T := TX9) (N := 6) (ci := 9) (v := .int 2) FC hKn hP hD hS i_X9 tyX9 tyX9_ok nmX9 0 rfl rfl 1 (by decide) b_127 rfl rfl rfl (Nat.le_of_ble_eq_true rfl) dX9_put_37 (fun H locs hP hD hS => ?_)
  have hP : va_P g.1 vwCl [(h0, .inr (9, [.ref b0, .int 2, .int 0, .int 0, .int 0, .int 0])), (b0, .inl (g.2 1, 900, .inl f6))] H := hP
  have hD : va_D A [(h0, .inr (9, [.ref b0, .int 2, .int 0, .int 0, .int 0, .int 0])), (b0, .inl (g.2 1, 900, .inl f6))] := hD
  refine lv_iinc (v := 8) (lv' := [(2, .int 8), (0, .ref h0), (1, .int p1)]) hx hb dX9_put_40 hl (k := 0) rfl (by decide) (by decide) rfl (fun ls hl => ?_)
  refine lv_goto (tgt := 3) hx hb dX9_put_43 (by decide) ?_
  refine lv_iload_n hx hb dX9_put_3 rfl (lv_at hl 0 rfl) ?_
  refine lv_if_lt (tgt := 46) hx hb dX9_put_4 (by decide) (fun h => absurd h (by decide)) (fun _ => ?_)
  refine lv_aload_n hx hb dX9_put_7 rfl (lv_at hl 1 rfl) ?_
  refine g_get (C := RX9) (T := TX9) (N := 6) (ci := 9) (v := .int 2) FC hKn hP i_X9 0 rfl rfl 1 (by decide) b_127 rfl dX9_put_8 ?_
  refine lv_sipush (v := 900) hx hb dX9_put_11 (by decide) ?_
  refine lv_icmp_ge (tgt := 46) hx hb dX9_put_14 (by decide) (fun h => absurd h (by decide)) (fun _ => ?_)
  refine lv_aload_n hx hb dX9_put_17 rfl (lv_at hl 1 rfl) ?_
  refine g_get (C := RX9) (T := TX9) (N := 6) (ci := 9) (v := .ref b0) FC hKn hP i_X9 0 rfl rfl 0 (by decide) b_131 rfl dX9_put_18 ?_
  refine lv_aload_n hx hb dX9_put_21 rfl (lv_at hl 1 rfl) ?_
  refine g_get (C := RX9) (T := TX9) (N := 6) (ci := 9) (v := .int 2) FC hKn hP i_X9 0 rfl rfl 1 (by decide) b_127 rfl dX9_put_22 ?_
  refine lv_iload_n hx hb dX9_put_25 rfl (lv_at hl 2 rfl) ?_
  refine lv_iload_n hx hb dX9_put_26 rfl (lv_at hl 0 rfl) ?_
  refine lv_ishr hx hb dX9_put_27 ?_
  refine lv_topi (fun z7 e_z7 => ?_)
  refine lv_i2b hx hb dX9_put_28 rfl ?_
  refine lv_topi (fun z8 e_z8 => ?_)
  refine va_bast hx hb hKn.1 hP hD hS 1 1 rfl rfl (by unfold vp_in; decide) dX9_put_29 (fun H locs hP hD hS => ?_)
  have hP : va_P g.1 vwCl [(h0, .inr (9, [.ref b0, .int 2, .int 0, .int 0, .int 0, .int 0])), (b0, .inl (g.2 1, 900, .inl (upd f6 ((2 : Int32).toNatClampNeg) (vp_nar .byte z8))))] H := hP
  have hD : va_D A [(h0, .inr (9, [.ref b0, .int 2, .int 0, .int 0, .int 0, .int 0])), (b0, .inl (g.2 1, 900, .inl (upd f6 ((2 : Int32).toNatClampNeg) (vp_nar .byte z8))))] := hD
  generalize (upd f6 ((2 : Int32).toNatClampNeg) (vp_nar .byte z8) : Nat → Int32) = f9 at hP hD
  refine lv_aload_n hx hb dX9_put_30 rfl (lv_at hl 1 rfl) ?_
  refine lv_dup hx hb dX9_put_31 rfl ?_
  refine g_get (C := RX9) (T := TX9) (N := 6) (ci := 9) (v := .int 2) FC hKn hP i_X9 0 rfl rfl 1 (by decide) b_127 rfl dX9_put_32 ?_
  refine lv_iconst (v := 1) hx hb dX9_put_35 (by decide) ?_
  refine lv_iadd hx hb dX9_put_36 ?_
  refine tp_i (v := 3) (by decide) ?_
  refine g_put (C := RX9) (T := TX9) (N := 6) (ci := 9) (v := .int 3) FC hKn hP hD hS i_X9 tyX9 tyX9_ok nmX9 0 rfl rfl 1 (by decide) b_127 rfl rfl rfl (Nat.le_of_ble_eq_true rfl) dX9_put_37 (fun H locs hP hD hS => ?_)
  have hP : va_P g.1 vwCl [(h0, .inr (9, [.ref b0, .int 3, .int 0, .int 0, .int 0, .int 0])), (b0, .inl (g.2 1, 900, .inl f9))] H := hP
  have hD : va_D A [(h0, .inr (9, [.ref b0, .int 3, .int 0, .int 0, .int 0, .int 0])), (b0, .inl (g.2 1, 900, .inl f9))] := hD
  refine lv_iinc (v := 0) (lv' := [(2, .int 0), (0, .ref h0), (1, .int p1)]) hx hb dX9_put_40 hl (k := 0) rfl (by decide) (by decide) rfl (fun ls hl => ?_)
  refine lv_goto (tgt := 3) hx hb dX9_put_43 (by decide) ?_
  refine lv_iload_n hx hb dX9_put_3 rfl (lv_at hl 0 rfl) ?_
  refine lv_if_lt (tgt := 46) hx hb dX9_put_4 (by decide) (fun h => absurd h (by decide)) (fun _ => ?_)
  refine lv_aload_n hx hb dX9_put_7 rfl (lv_at hl 1 rfl) ?_
  refine g_get (C := RX9) (T := TX9) (N := 6) (ci := 9) (v := .int 3) FC hKn hP i_X9 0 rfl rfl 1 (by decide) b_127 rfl dX9_put_8 ?_
  refine lv_sipush (v := 900) hx hb dX9_put_11 (by decide) ?_
  refine lv_icmp_ge (tgt := 46) hx hb dX9_put_14 (by decide) (fun h => absurd h (by decide)) (fun _ => ?_)
  refine lv_aload_n hx hb dX9_put_17 rfl (lv_at hl 1 rfl) ?_
  refine g_get (C := RX9) (T := TX9) (N := 6) (ci := 9) (v := .ref b0) FC hKn hP i_X9 0 rfl rfl 0 (by decide) b_131 rfl dX9_put_18 ?_
  refine lv_aload_n hx hb dX9_put_21 rfl (lv_at hl 1 rfl) ?_
  refine g_get (C := RX9) (T := TX9) (N := 6) (ci := 9) (v := .int 3) FC hKn hP i_X9 0 rfl rfl 1 (by decide) b_127 rfl dX9_put_22 ?_
  refine lv_iload_n hx hb dX9_put_25 rfl (lv_at hl 2 rfl) ?_
  refine lv_iload_n hx hb dX9_put_26 rfl (lv_at hl 0 rfl) ?_
  refine lv_ishr hx hb dX9_put_27 ?_
  refine lv_topi (fun z10 e_z10 => ?_)
  refine lv_i2b hx hb dX9_put_28 rfl ?_
  refine lv_topi (fun z11 e_z11 => ?_)
  refine va_bast hx hb hKn.1 hP hD hS 1 1 rfl rfl (by unfold vp_in; decide) dX9_put_29 (fun H locs hP hD hS => ?_)
  have hP : va_P g.1 vwCl [(h0, .inr (9, [.ref b0, .int 3, .int 0, .int 0, .int 0, .int 0])), (b0, .inl (g.2 1, 900, .inl (upd f9 ((3 : Int32).toNatClampNeg) (vp_nar .byte z11))))] H := hP
  have hD : va_D A [(h0, .inr (9, [.ref b0, .int 3, .int 0, .int 0, .int 0, .int 0])), (b0, .inl (g.2 1, 900, .inl (upd f9 ((3 : Int32).toNatClampNeg) (vp_nar .byte z11))))] := hD
  generalize (upd f9 ((3 : Int32).toNatClampNeg) (vp_nar .byte z11) : Nat → Int32) = f12 at hP hD
  refine lv_aload_n hx hb dX9_put_30 rfl (lv_at hl 1 rfl) ?_
  refine lv_dup hx hb dX9_put_31 rfl ?_
  refine g_get (C := RX9) (T := TX9) (N := 6) (ci := 9) (v := .int 3) FC hKn hP i_X9 0 rfl rfl 1 (by decide) b_127 rfl dX9_put_32 ?_
  refine lv_iconst (v := 1) hx hb dX9_put_35 (by decide) ?_
  refine lv_iadd hx hb dX9_put_36 ?_
  refine tp_i (v := 4) (by decide) ?_
  refine g_put (C := RX9) (T := TX9) (N := 6) (ci := 9) (v := .int 4) FC hKn hP hD hS i_X9 tyX9 tyX9_ok nmX9 0 rfl rfl 1 (by decide) b_127 rfl rfl rfl (Nat.le_of_ble_eq_true rfl) dX9_put_37 (fun H locs hP hD hS => ?_)
  have hP : va_P g.1 vwCl [(h0, .inr (9, [.ref b0, .int 4, .int 0, .int 0, .int 0, .int 0])), (b0, .inl (g.2 1, 900, .inl f12))] H := hP
  have hD : va_D A [(h0, .inr (9, [.ref b0, .int 4, .int 0, .int 0, .int 0, .int 0])), (b0, .inl (g.2 1, 900, .inl f12))] := hD
  refine lv_iinc (v := -8) (lv' := [(2, .int (-8)), (0, .ref h0), (1, .int p1)]) hx hb dX9_put_40 hl (k := 0) rfl (by decide) (by decide) rfl (fun ls hl => ?_)
  refine lv_goto (tgt := 3) hx hb dX9_put_43 (by decide) ?_
  refine lv_iload_n hx hb dX9_put_3 rfl (lv_at hl 0 rfl) ?_
  refine lv_if_lt (tgt := 46) hx hb dX9_put_4 (by decide) (fun _ => ?_) (fun h => absurd h (by decide))
  exact rt_v FX f12 rfl trivial (hP.sub [0, 1] rfl) (hD.sub [0, 1] (by decide) rfl) hS (Nat.le_of_ble_eq_true rfl) (Nat.le_of_ble_eq_true rfl) dX9_put_46
set_option maxRecDepth 100000 in
set_option maxHeartbeats 4000000 in
theorem c_X9_put_1 (l : Launch) (g : GG) (h0 : Nat) (b0 : Nat) (ff : Nat → Int32) (p1 : Int32) : Ct l g yX9_put cX9_put 3 none { frames := 0, cells := 0, slots := 0, locals := 0 } [.ref h0, .int p1] [(h0, .inr (9, [.ref b0, .int 4, .int 0, .int 0, .int 0, .int 0])), (b0, .inl (g.2 1, 900, .inl ff))] (S := Nat → Int32) (fun _ => none) (fun _ => True) (fun u => [(h0, .inr (9, [.ref b0, .int 8, .int 0, .int 0, .int 0, .int 0])), (b0, .inl (g.2 1, 900, .inl u))]) := by
  refine Ct.of (by decide) (Nat.le_of_ble_eq_true rfl) ?_
  intro p e s m below meth c A ls FX hP hD hS hl
  obtain ⟨FC, hr, hlk, hKn, hA, hnm⟩ := id FX
  have FC : CallFix p m c cX9_put 3 s _ BIG RX9 := FC
  obtain ⟨hx, hb, hml, hown, hB⟩ := id FC
  have hl : lv_has ls 3 [(0, .ref h0), (1, .int p1)] := hl
  refine lv_bipush (v := 24) hx hb dX9_put_0 (by decide) ?_
  refine lv_istore_n (lv' := [(2, .int 24), (0, .ref h0), (1, .int p1)]) hx hb dX9_put_2 rfl hl (by decide) rfl (fun ls hl => ?_)
  refine lv_iload_n hx hb dX9_put_3 rfl (lv_at hl 0 rfl) ?_
  refine lv_if_lt (tgt := 46) hx hb dX9_put_4 (by decide) (fun h => absurd h (by decide)) (fun _ => ?_)
  refine lv_aload_n hx hb dX9_put_7 rfl (lv_at hl 1 rfl) ?_
  refine g_get (C := RX9) (T := TX9) (N := 6) (ci := 9) (v := .int 4) FC hKn hP i_X9 0 rfl rfl 1 (by decide) b_127 rfl dX9_put_8 ?_
  refine lv_sipush (v := 900) hx hb dX9_put_11 (by decide) ?_
  refine lv_icmp_ge (tgt := 46) hx hb dX9_put_14 (by decide) (fun h => absurd h (by decide)) (fun _ => ?_)
  refine lv_aload_n hx hb dX9_put_17 rfl (lv_at hl 1 rfl) ?_
  refine g_get (C := RX9) (T := TX9) (N := 6) (ci := 9) (v := .ref b0) FC hKn hP i_X9 0 rfl rfl 0 (by decide) b_131 rfl dX9_put_18 ?_
  refine lv_aload_n hx hb dX9_put_21 rfl (lv_at hl 1 rfl) ?_
  refine g_get (C := RX9) (T := TX9) (N := 6) (ci := 9) (v := .int 4) FC hKn hP i_X9 0 rfl rfl 1 (by decide) b_127 rfl dX9_put_22 ?_
  refine lv_iload_n hx hb dX9_put_25 rfl (lv_at hl 2 rfl) ?_
  refine lv_iload_n hx hb dX9_put_26 rfl (lv_at hl 0 rfl) ?_
  refine lv_ishr hx hb dX9_put_27 ?_
  refine lv_topi (fun z1 e_z1 => ?_)
  refine lv_i2b hx hb dX9_put_28 rfl ?_
  refine lv_topi (fun z2 e_z2 => ?_)
  refine va_bast hx hb hKn.1 hP hD hS 1 1 rfl rfl (by unfold vp_in; decide) dX9_put_29 (fun H locs hP hD hS => ?_)
  have hP : va_P g.1 vwCl [(h0, .inr (9, [.ref b0, .int 4, .int 0, .int 0, .int 0, .int 0])), (b0, .inl (g.2 1, 900, .inl (upd ff ((4 : Int32).toNatClampNeg) (vp_nar .byte z2))))] H := hP
  have hD : va_D A [(h0, .inr (9, [.ref b0, .int 4, .int 0, .int 0, .int 0, .int 0])), (b0, .inl (g.2 1, 900, .inl (upd ff ((4 : Int32).toNatClampNeg) (vp_nar .byte z2))))] := hD
  generalize (upd ff ((4 : Int32).toNatClampNeg) (vp_nar .byte z2) : Nat → Int32) = f3 at hP hD
  refine lv_aload_n hx hb dX9_put_30 rfl (lv_at hl 1 rfl) ?_
  refine lv_dup hx hb dX9_put_31 rfl ?_
  refine g_get (C := RX9) (T := TX9) (N := 6) (ci := 9) (v := .int 4) FC hKn hP i_X9 0 rfl rfl 1 (by decide) b_127 rfl dX9_put_32 ?_
  refine lv_iconst (v := 1) hx hb dX9_put_35 (by decide) ?_
  refine lv_iadd hx hb dX9_put_36 ?_
  refine tp_i (v := 5) (by decide) ?_
  refine g_put (C := RX9) (T := TX9) (N := 6) (ci := 9) (v := .int 5) FC hKn hP hD hS i_X9 tyX9 tyX9_ok nmX9 0 rfl rfl 1 (by decide) b_127 rfl rfl rfl (Nat.le_of_ble_eq_true rfl) dX9_put_37 (fun H locs hP hD hS => ?_)
  have hP : va_P g.1 vwCl [(h0, .inr (9, [.ref b0, .int 5, .int 0, .int 0, .int 0, .int 0])), (b0, .inl (g.2 1, 900, .inl f3))] H := hP
  have hD : va_D A [(h0, .inr (9, [.ref b0, .int 5, .int 0, .int 0, .int 0, .int 0])), (b0, .inl (g.2 1, 900, .inl f3))] := hD
  refine lv_iinc (v := 16) (lv' := [(2, .int 16), (0, .ref h0), (1, .int p1)]) hx hb dX9_put_40 hl (k := 0) rfl (by decide) (by decide) rfl (fun ls hl => ?_)
  refine lv_goto (tgt := 3) hx hb dX9_put_43 (by decide) ?_
  refine lv_iload_n hx hb dX9_put_3 rfl (lv_at hl 0 rfl) ?_
  refine lv_if_lt (tgt := 46) hx hb dX9_put_4 (by decide) (fun h => absurd h (by decide)) (fun _ => ?_)
  refine lv_aload_n hx hb dX9_put_7 rfl (lv_at hl 1 rfl) ?_
  refine g_get (C := RX9) (T := TX9) (N := 6) (ci := 9) (v := .int 5) FC hKn hP i_X9 0 rfl rfl 1 (by decide) b_127 rfl dX9_put_8 ?_
  refine lv_sipush (v := 900) hx hb dX9_put_11 (by decide) ?_
  refine lv_icmp_ge (tgt := 46) hx hb dX9_put_14 (by decide) (fun h => absurd h (by decide)) (fun _ => ?_)
  refine lv_aload_n hx hb dX9_put_17 rfl (lv_at hl 1 rfl) ?_
  refine g_get (C := RX9) (T := TX9) (N := 6) (ci := 9) (v := .ref b0) FC hKn hP i_X9 0 rfl rfl 0 (by decide) b_131 rfl dX9_put_18 ?_
  refine lv_aload_n hx hb dX9_put_21 rfl (lv_at hl 1 rfl) ?_
  refine g_get (C := RX9) (T := TX9) (N := 6) (ci := 9) (v := .int 5) FC hKn hP i_X9 0 rfl rfl 1 (by decide) b_127 rfl dX9_put_22 ?_
  refine lv_iload_n hx hb dX9_put_25 rfl (lv_at hl 2 rfl) ?_
  refine lv_iload_n hx hb dX9_put_26 rfl (lv_at hl 0 rfl) ?_
  refine lv_ishr hx hb dX9_put_27 ?_
  refine lv_topi (fun z4 e_z4 => ?_)
  refine lv_i2b hx hb dX9_put_28 rfl ?_
  refine lv_topi (fun z5 e_z5 => ?_)
  refine va_bast hx hb hKn.1 hP hD hS 1 1 rfl rfl (by unfold vp_in; decide) dX9_put_29 (fun H locs hP hD hS => ?_)
  have hP : va_P g.1 vwCl [(h0, .inr (9, [.ref b0, .int 5, .int 0, .int 0, .int 0, .int 0])), (b0, .inl (g.2 1, 900, .inl (upd f3 ((5 : Int32).toNatClampNeg) (vp_nar .byte z5))))] H := hP
  have hD : va_D A [(h0, .inr (9, [.ref b0, .int 5, .int 0, .int 0, .int 0, .int 0])), (b0, .inl (g.2 1, 900, .inl (upd f3 ((5 : Int32).toNatClampNeg) (vp_nar .byte z5))))] := hD
  generalize (upd f3 ((5 : Int32).toNatClampNeg) (vp_nar .byte z5) : Nat → Int32) = f6 at hP hD
  refine lv_aload_n hx hb dX9_put_30 rfl (lv_at hl 1 rfl) ?_
  refine lv_dup hx hb dX9_put_31 rfl ?_
  refine g_get (C := RX9) (T := TX9) (N := 6) (ci := 9) (v := .int 5) FC hKn hP i_X9 0 rfl rfl 1 (by decide) b_127 rfl dX9_put_32 ?_
  refine lv_iconst (v := 1) hx hb dX9_put_35 (by decide) ?_
  refine lv_iadd hx hb dX9_put_36 ?_
  refine tp_i (v := 6) (by decide) ?_
  refine g_put (C := RX9) (T := TX9) (N := 6) (ci := 9) (v := .int 6) FC hKn hP hD hS i_X9 tyX9 tyX9_ok nmX9 0 rfl rfl 1 (by decide) b_127 rfl rfl rfl (Nat.le_of_ble_eq_true rfl) dX9_put_37 (fun H locs hP hD hS => ?_)
  have hP : va_P g.1 vwCl [(h0, .inr (9, [.ref b0, .int 6, .int 0, .int 0, .int 0, .int 0])), (b0, .inl (g.2 1, 900, .inl f6))] H := hP
  have hD : va_D A [(h0, .inr (9, [.ref b0, .int 6, .int 0, .int 0, .int 0, .int 0])), (b0, .inl (g.2 1, 900, .inl f6))] := hD
  refine lv_iinc (v := 8) (lv' := [(2, .int 8), (0, .ref h0), (1, .int p1)]) hx hb dX9_put_40 hl (k := 0) rfl (by decide) (by decide) rfl (fun ls hl => ?_)
  refine lv_goto (tgt := 3) hx hb dX9_put_43 (by decide) ?_
  refine lv_iload_n hx hb dX9_put_3 rfl (lv_at hl 0 rfl) ?_
  refine lv_if_lt (tgt := 46) hx hb dX9_put_4 (by decide) (fun h => absurd h (by decide)) (fun _ => ?_)
  refine lv_aload_n hx hb dX9_put_7 rfl (lv_at hl 1 rfl) ?_
  refine g_get (C := RX9) (T := TX9) (N := 6) (ci := 9) (v := .int 6) FC hKn hP i_X9 0 rfl rfl 1 (by decide) b_127 rfl dX9_put_8 ?_
  refine lv_sipush (v := 900) hx hb dX9_put_11 (by decide) ?_
  refine lv_icmp_ge (tgt := 46) hx hb dX9_put_14 (by decide) (fun h => absurd h (by decide)) (fun _ => ?_)
  refine lv_aload_n hx hb dX9_put_17 rfl (lv_at hl 1 rfl) ?_
  refine g_get (C := RX9) (T := TX9) (N := 6) (ci := 9) (v := .ref b0) FC hKn hP i_X9 0 rfl rfl 0 (by decide) b_131 rfl dX9_put_18 ?_
  refine lv_aload_n hx hb dX9_put_21 rfl (lv_at hl 1 rfl) ?_
  refine g_get (C := RX9) (T := TX9) (N := 6) (ci := 9) (v := .int 6) FC hKn hP i_X9 0 rfl rfl 1 (by decide) b_127 rfl dX9_put_22 ?_
  refine lv_iload_n hx hb dX9_put_25 rfl (lv_at hl 2 rfl) ?_
  refine lv_iload_n hx hb dX9_put_26 rfl (lv_at hl 0 rfl) ?_
  refine lv_ishr hx hb dX9_put_27 ?_
  refine lv_topi (fun z7 e_z7 => ?_)
  refine lv_i2b hx hb dX9_put_28 rfl ?_
  refine lv_topi (fun z8 e_z8 => ?_)
  refine va_bast hx hb hKn.1 hP hD hS 1 1 rfl rfl (by unfold vp_in; decide) dX9_put_29 (fun H locs hP hD hS => ?_)
  have hP : va_P g.1 vwCl [(h0, .inr (9, [.ref b0, .int 6, .int 0, .int 0, .int 0, .int 0])), (b0, .inl (g.2 1, 900, .inl (upd f6 ((6 : Int32).toNatClampNeg) (vp_nar .byte z8))))] H := hP
  have hD : va_D A [(h0, .inr (9, [.ref b0, .int 6, .int 0, .int 0, .int 0, .int 0])), (b0, .inl (g.2 1, 900, .inl (upd f6 ((6 : Int32).toNatClampNeg) (vp_nar .byte z8))))] := hD
  generalize (upd f6 ((6 : Int32).toNatClampNeg) (vp_nar .byte z8) : Nat → Int32) = f9 at hP hD
  refine lv_aload_n hx hb dX9_put_30 rfl (lv_at hl 1 rfl) ?_
  refine lv_dup hx hb dX9_put_31 rfl ?_
  refine g_get (C := RX9) (T := TX9) (N := 6) (ci := 9) (v := .int 6) FC hKn hP i_X9 0 rfl rfl 1 (by decide) b_127 rfl dX9_put_32 ?_
  refine lv_iconst (v := 1) hx hb dX9_put_35 (by decide) ?_
  refine lv_iadd hx hb dX9_put_36 ?_
  refine tp_i (v := 7) (by decide) ?_
  refine g_put (C := RX9) (T := TX9) (N := 6) (ci := 9) (v := .int 7) FC hKn hP hD hS i_X9 tyX9 tyX9_ok nmX9 0 rfl rfl 1 (by decide) b_127 rfl rfl rfl (Nat.le_of_ble_eq_true rfl) dX9_put_37 (fun H locs hP hD hS => ?_)
  have hP : va_P g.1 vwCl [(h0, .inr (9, [.ref b0, .int 7, .int 0, .int 0, .int 0, .int 0])), (b0, .inl (g.2 1, 900, .inl f9))] H := hP
  have hD : va_D A [(h0, .inr (9, [.ref b0, .int 7, .int 0, .int 0, .int 0, .int 0])), (b0, .inl (g.2 1, 900, .inl f9))] := hD
  refine lv_iinc (v := 0) (lv' := [(2, .int 0), (0, .ref h0), (1, .int p1)]) hx hb dX9_put_40 hl (k := 0) rfl (by decide) (by decide) rfl (fun ls hl => ?_)
  refine lv_goto (tgt := 3) hx hb dX9_put_43 (by decide) ?_
  refine lv_iload_n hx hb dX9_put_3 rfl (lv_at hl 0 rfl) ?_
  refine lv_if_lt (tgt := 46) hx hb dX9_put_4 (by decide) (fun h => absurd h (by decide)) (fun _ => ?_)
  refine lv_aload_n hx hb dX9_put_7 rfl (lv_at hl 1 rfl) ?_
  refine g_get (C := RX9) (T := TX9) (N := 6) (ci := 9) (v := .int 7) FC hKn hP i_X9 0 rfl rfl 1 (by decide) b_127 rfl dX9_put_8 ?_
  refine lv_sipush (v := 900) hx hb dX9_put_11 (by decide) ?_
  refine lv_icmp_ge (tgt := 46) hx hb dX9_put_14 (by decide) (fun h => absurd h (by decide)) (fun _ => ?_)
  refine lv_aload_n hx hb dX9_put_17 rfl (lv_at hl 1 rfl) ?_
  refine g_get (C := RX9) (T := TX9) (N := 6) (ci := 9) (v := .ref b0) FC hKn hP i_X9 0 rfl rfl 0 (by decide) b_131 rfl dX9_put_18 ?_
  refine lv_aload_n hx hb dX9_put_21 rfl (lv_at hl 1 rfl) ?_
  refine g_get (C := RX9) (T := TX9) (N := 6) (ci := 9) (v := .int 7) FC hKn hP i_X9 0 rfl rfl 1 (by decide) b_127 rfl dX9_put_22 ?_
  refine lv_iload_n hx hb dX9_put_25 rfl (lv_at hl 2 rfl) ?_
  refine lv_iload_n hx hb dX9_put_26 rfl (lv_at hl 0 rfl) ?_
  refine lv_ishr hx hb dX9_put_27 ?_
  refine lv_topi (fun z10 e_z10 => ?_)
  refine lv_i2b hx hb dX9_put_28 rfl ?_
  refine lv_topi (fun z11 e_z11 => ?_)
  refine va_bast hx hb hKn.1 hP hD hS 1 1 rfl rfl (by unfold vp_in; decide) dX9_put_29 (fun H locs hP hD hS => ?_)
  have hP : va_P g.1 vwCl [(h0, .inr (9, [.ref b0, .int 7, .int 0, .int 0, .int 0, .int 0])), (b0, .inl (g.2 1, 900, .inl (upd f9 ((7 : Int32).toNatClampNeg) (vp_nar .byte z11))))] H := hP
  have hD : va_D A [(h0, .inr (9, [.ref b0, .int 7, .int 0, .int 0, .int 0, .int 0])), (b0, .inl (g.2 1, 900, .inl (upd f9 ((7 : Int32).toNatClampNeg) (vp_nar .byte z11))))] := hD
  generalize (upd f9 ((7 : Int32).toNatClampNeg) (vp_nar .byte z11) : Nat → Int32) = f12 at hP hD
  refine lv_aload_n hx hb dX9_put_30 rfl (lv_at hl 1 rfl) ?_
  refine lv_dup hx hb dX9_put_31 rfl ?_
  refine g_get (C := RX9) (T := TX9) (N := 6) (ci := 9) (v := .int 7) FC hKn hP i_X9 0 rfl rfl 1 (by decide) b_127 rfl dX9_put_32 ?_
  refine lv_iconst (v := 1) hx hb dX9_put_35 (by decide) ?_
  refine lv_iadd hx hb dX9_put_36 ?_
  refine tp_i (v := 8) (by decide) ?_
  refine g_put (C := RX9) (T := TX9) (N := 6) (ci := 9) (v := .int 8) FC hKn hP hD hS i_X9 tyX9 tyX9_ok nmX9 0 rfl rfl 1 (by decide) b_127 rfl rfl rfl (Nat.le_of_ble_eq_true rfl) dX9_put_37 (fun H locs hP hD hS => ?_)
  have hP : va_P g.1 vwCl [(h0, .inr (9, [.ref b0, .int 8, .int 0, .int 0, .int 0, .int 0])), (b0, .inl (g.2 1, 900, .inl f12))] H := hP
  have hD : va_D A [(h0, .inr (9, [.ref b0, .int 8, .int 0, .int 0, .int 0, .int 0])), (b0, .inl (g.2 1, 900, .inl f12))] := hD
  refine lv_iinc (v := -8) (lv' := [(2, .int (-8)), (0, .ref h0), (1, .int p1)]) hx hb dX9_put_40 hl (k := 0) rfl (by decide) (by decide) rfl (fun ls hl => ?_)
  refine lv_goto (tgt := 3) hx hb dX9_put_43 (by decide) ?_
  refine lv_iload_n hx hb dX9_put_3 rfl (lv_at hl 0 rfl) ?_
  refine lv_if_lt (tgt := 46) hx hb dX9_put_4 (by decide) (fun _ => ?_) (fun h => absurd h (by decide))
  exact rt_v FX f12 rfl trivial (hP.sub [0, 1] rfl) (hD.sub [0, 1] (by decide) rfl) hS (Nat.le_of_ble_eq_true rfl) (Nat.le_of_ble_eq_true rfl) dX9_put_46
set_option maxRecDepth 100000 in
set_option maxHeartbeats 4000000 in
theorem c_X9_put_2 (l : Launch) (g : GG) (h0 : Nat) (b0 : Nat) (ff : Nat → Int32) (p1 : Int32) : Ct l g yX9_put cX9_put 3 none { frames := 0, cells := 0, slots := 0, locals := 0 } [.ref h0, .int p1] [(h0, .inr (9, [.ref b0, .int 8, .int 0, .int 0, .int 0, .int 0])), (b0, .inl (g.2 1, 900, .inl ff))] (S := Nat → Int32) (fun _ => none) (fun _ => True) (fun u => [(h0, .inr (9, [.ref b0, .int 12, .int 0, .int 0, .int 0, .int 0])), (b0, .inl (g.2 1, 900, .inl u))]) := by
  refine Ct.of (by decide) (Nat.le_of_ble_eq_true rfl) ?_
  intro p e s m below meth c A ls FX hP hD hS hl
  obtain ⟨FC, hr, hlk, hKn, hA, hnm⟩ := id FX
  have FC : CallFix p m c cX9_put 3 s _ BIG RX9 := FC
  obtain ⟨hx, hb, hml, hown, hB⟩ := id FC
  have hl : lv_has ls 3 [(0, .ref h0), (1, .int p1)] := hl
  refine lv_bipush (v := 24) hx hb dX9_put_0 (by decide) ?_
  refine lv_istore_n (lv' := [(2, .int 24), (0, .ref h0), (1, .int p1)]) hx hb dX9_put_2 rfl hl (by decide) rfl (fun ls hl => ?_)
  refine lv_iload_n hx hb dX9_put_3 rfl (lv_at hl 0 rfl) ?_
  refine lv_if_lt (tgt := 46) hx hb dX9_put_4 (by decide) (fun h => absurd h (by decide)) (fun _ => ?_)
  refine lv_aload_n hx hb dX9_put_7 rfl (lv_at hl 1 rfl) ?_
  refine g_get (C := RX9) (T := TX9) (N := 6) (ci := 9) (v := .int 8) FC hKn hP i_X9 0 rfl rfl 1 (by decide) b_127 rfl dX9_put_8 ?_
  refine lv_sipush (v := 900) hx hb dX9_put_11 (by decide) ?_
  refine lv_icmp_ge (tgt := 46) hx hb dX9_put_14 (by decide) (fun h => absurd h (by decide)) (fun _ => ?_)
  refine lv_aload_n hx hb dX9_put_17 rfl (lv_at hl 1 rfl) ?_
  refine g_get (C := RX9) (T := TX9) (N := 6) (ci := 9) (v := .ref b0) FC hKn hP i_X9 0 rfl rfl 0 (by decide) b_131 rfl dX9_put_18 ?_
  refine lv_aload_n hx hb dX9_put_21 rfl (lv_at hl 1 rfl) ?_
  refine g_get (C := RX9) (T := TX9) (N := 6) (ci := 9) (v := .int 8) FC hKn hP i_X9 0 rfl rfl 1 (by decide) b_127 rfl dX9_put_22 ?_
  refine lv_iload_n hx hb dX9_put_25 rfl (lv_at hl 2 rfl) ?_
  refine lv_iload_n hx hb dX9_put_26 rfl (lv_at hl 0 rfl) ?_
  refine lv_ishr hx hb dX9_put_27 ?_
  refine lv_topi (fun z1 e_z1 => ?_)
  refine lv_i2b hx hb dX9_put_28 rfl ?_
  refine lv_topi (fun z2 e_z2 => ?_)
  refine va_bast hx hb hKn.1 hP hD hS 1 1 rfl rfl (by unfold vp_in; decide) dX9_put_29 (fun H locs hP hD hS => ?_)
  have hP : va_P g.1 vwCl [(h0, .inr (9, [.ref b0, .int 8, .int 0, .int 0, .int 0, .int 0])), (b0, .inl (g.2 1, 900, .inl (upd ff ((8 : Int32).toNatClampNeg) (vp_nar .byte z2))))] H := hP
  have hD : va_D A [(h0, .inr (9, [.ref b0, .int 8, .int 0, .int 0, .int 0, .int 0])), (b0, .inl (g.2 1, 900, .inl (upd ff ((8 : Int32).toNatClampNeg) (vp_nar .byte z2))))] := hD
  generalize (upd ff ((8 : Int32).toNatClampNeg) (vp_nar .byte z2) : Nat → Int32) = f3 at hP hD
  refine lv_aload_n hx hb dX9_put_30 rfl (lv_at hl 1 rfl) ?_
  refine lv_dup hx hb dX9_put_31 rfl ?_
  refine g_get (C := RX9) (T := TX9) (N := 6) (ci := 9) (v := .int 8) FC hKn hP i_X9 0 rfl rfl 1 (by decide) b_127 rfl dX9_put_32 ?_
  refine lv_iconst (v := 1) hx hb dX9_put_35 (by decide) ?_
  refine lv_iadd hx hb dX9_put_36 ?_
  refine tp_i (v := 9) (by decide) ?_
  refine g_put (C := RX9) (T := TX9) (N := 6) (ci := 9) (v := .int 9) FC hKn hP hD hS i_X9 tyX9 tyX9_ok nmX9 0 rfl rfl 1 (by decide) b_127 rfl rfl rfl (Nat.le_of_ble_eq_true rfl) dX9_put_37 (fun H locs hP hD hS => ?_)
  have hP : va_P g.1 vwCl [(h0, .inr (9, [.ref b0, .int 9, .int 0, .int 0, .int 0, .int 0])), (b0, .inl (g.2 1, 900, .inl f3))] H := hP
  have hD : va_D A [(h0, .inr (9, [.ref b0, .int 9, .int 0, .int 0, .int 0, .int 0])), (b0, .inl (g.2 1, 900, .inl f3))] := hD
  refine lv_iinc (v := 16) (lv' := [(2, .int 16), (0, .ref h0), (1, .int p1)]) hx hb dX9_put_40 hl (k := 0) rfl (by decide) (by decide) rfl (fun ls hl => ?_)
  refine lv_goto (tgt := 3) hx hb dX9_put_43 (by decide) ?_
  refine lv_iload_n hx hb dX9_put_3 rfl (lv_at hl 0 rfl) ?_
  refine lv_if_lt (tgt := 46) hx hb dX9_put_4 (by decide) (fun h => absurd h (by decide)) (fun _ => ?_)
  refine lv_aload_n hx hb dX9_put_7 rfl (lv_at hl 1 rfl) ?_
  refine g_get (C := RX9) (T := TX9) (N := 6) (ci := 9) (v := .int 9) FC hKn hP i_X9 0 rfl rfl 1 (by decide) b_127 rfl dX9_put_8 ?_
  refine lv_sipush (v := 900) hx hb dX9_put_11 (by decide) ?_
  refine lv_icmp_ge (tgt := 46) hx hb dX9_put_14 (by decide) (fun h => absurd h (by decide)) (fun _ => ?_)
  refine lv_aload_n hx hb dX9_put_17 rfl (lv_at hl 1 rfl) ?_
  refine g_get (C := RX9) (T := TX9) (N := 6) (ci := 9) (v := .ref b0) FC hKn hP i_X9 0 rfl rfl 0 (by decide) b_131 rfl dX9_put_18 ?_
  refine lv_aload_n hx hb dX9_put_21 rfl (lv_at hl 1 rfl) ?_
  refine g_get (C := RX9) (T := TX9) (N := 6) (ci := 9) (v := .int 9) FC hKn hP i_X9 0 rfl rfl 1 (by decide) b_127 rfl dX9_put_22 ?_
  refine lv_iload_n hx hb dX9_put_25 rfl (lv_at hl 2 rfl) ?_
  refine lv_iload_n hx hb dX9_put_26 rfl (lv_at hl 0 rfl) ?_
  refine lv_ishr hx hb dX9_put_27 ?_
  refine lv_topi (fun z4 e_z4 => ?_)
  refine lv_i2b hx hb dX9_put_28 rfl ?_
  refine lv_topi (fun z5 e_z5 => ?_)
  refine va_bast hx hb hKn.1 hP hD hS 1 1 rfl rfl (by unfold vp_in; decide) dX9_put_29 (fun H locs hP hD hS => ?_)
  have hP : va_P g.1 vwCl [(h0, .inr (9, [.ref b0, .int 9, .int 0, .int 0, .int 0, .int 0])), (b0, .inl (g.2 1, 900, .inl (upd f3 ((9 : Int32).toNatClampNeg) (vp_nar .byte z5))))] H := hP
  have hD : va_D A [(h0, .inr (9, [.ref b0, .int 9, .int 0, .int 0, .int 0, .int 0])), (b0, .inl (g.2 1, 900, .inl (upd f3 ((9 : Int32).toNatClampNeg) (vp_nar .byte z5))))] := hD
  generalize (upd f3 ((9 : Int32).toNatClampNeg) (vp_nar .byte z5) : Nat → Int32) = f6 at hP hD
  refine lv_aload_n hx hb dX9_put_30 rfl (lv_at hl 1 rfl) ?_
  refine lv_dup hx hb dX9_put_31 rfl ?_
  refine g_get (C := RX9) (T := TX9) (N := 6) (ci := 9) (v := .int 9) FC hKn hP i_X9 0 rfl rfl 1 (by decide) b_127 rfl dX9_put_32 ?_
  refine lv_iconst (v := 1) hx hb dX9_put_35 (by decide) ?_
  refine lv_iadd hx hb dX9_put_36 ?_
  refine tp_i (v := 10) (by decide) ?_
  refine g_put (C := RX9) (T := TX9) (N := 6) (ci := 9) (v := .int 10) FC hKn hP hD hS i_X9 tyX9 tyX9_ok nmX9 0 rfl rfl 1 (by decide) b_127 rfl rfl rfl (Nat.le_of_ble_eq_true rfl) dX9_put_37 (fun H locs hP hD hS => ?_)
  have hP : va_P g.1 vwCl [(h0, .inr (9, [.ref b0, .int 10, .int 0, .int 0, .int 0, .int 0])), (b0, .inl (g.2 1, 900, .inl f6))] H := hP
  have hD : va_D A [(h0, .inr (9, [.ref b0, .int 10, .int 0, .int 0, .int 0, .int 0])), (b0, .inl (g.2 1, 900, .inl f6))] := hD
  refine lv_iinc (v := 8) (lv' := [(2, .int 8), (0, .ref h0), (1, .int p1)]) hx hb dX9_put_40 hl (k := 0) rfl (by decide) (by decide) rfl (fun ls hl => ?_)
  refine lv_goto (tgt := 3) hx hb dX9_put_43 (by decide) ?_
  refine lv_iload_n hx hb dX9_put_3 rfl (lv_at hl 0 rfl) ?_
  refine lv_if_lt (tgt := 46) hx hb dX9_put_4 (by decide) (fun h => absurd h (by decide)) (fun _ => ?_)
  refine lv_aload_n hx hb dX9_put_7 rfl (lv_at hl 1 rfl) ?_
  refine g_get (C := RX9) (T := TX9) (N := 6) (ci := 9) (v := .int 10) FC hKn hP i_X9 0 rfl rfl 1 (by decide) b_127 rfl dX9_put_8 ?_
  refine lv_sipush (v := 900) hx hb dX9_put_11 (by decide) ?_
  refine lv_icmp_ge (tgt := 46) hx hb dX9_put_14 (by decide) (fun h => absurd h (by decide)) (fun _ => ?_)
  refine lv_aload_n hx hb dX9_put_17 rfl (lv_at hl 1 rfl) ?_
  refine g_get (C := RX9) (T := TX9) (N := 6) (ci := 9) (v := .ref b0) FC hKn hP i_X9 0 rfl rfl 0 (by decide) b_131 rfl dX9_put_18 ?_
  refine lv_aload_n hx hb dX9_put_21 rfl (lv_at hl 1 rfl) ?_
  refine g_get (C := RX9) (T := TX9) (N := 6) (ci := 9) (v := .int 10) FC hKn hP i_X9 0 rfl rfl 1 (by decide) b_127 rfl dX9_put_22 ?_
  refine lv_iload_n hx hb dX9_put_25 rfl (lv_at hl 2 rfl) ?_
  refine lv_iload_n hx hb dX9_put_26 rfl (lv_at hl 0 rfl) ?_
  refine lv_ishr hx hb dX9_put_27 ?_
  refine lv_topi (fun z7 e_z7 => ?_)
  refine lv_i2b hx hb dX9_put_28 rfl ?_
  refine lv_topi (fun z8 e_z8 => ?_)
  refine va_bast hx hb hKn.1 hP hD hS 1 1 rfl rfl (by unfold vp_in; decide) dX9_put_29 (fun H locs hP hD hS => ?_)
  have hP : va_P g.1 vwCl [(h0, .inr (9, [.ref b0, .int 10, .int 0, .int 0, .int 0, .int 0])), (b0, .inl (g.2 1, 900, .inl (upd f6 ((10 : Int32).toNatClampNeg) (vp_nar .byte z8))))] H := hP
  have hD : va_D A [(h0, .inr (9, [.ref b0, .int 10, .int 0, .int 0, .int 0, .int 0])), (b0, .inl (g.2 1, 900, .inl (upd f6 ((10 : Int32).toNatClampNeg) (vp_nar .byte z8))))] := hD
  generalize (upd f6 ((10 : Int32).toNatClampNeg) (vp_nar .byte z8) : Nat → Int32) = f9 at hP hD
  refine lv_aload_n hx hb dX9_put_30 rfl (lv_at hl 1 rfl) ?_
  refine lv_dup hx hb dX9_put_31 rfl ?_
  refine g_get (C := RX9) (T := TX9) (N := 6) (ci := 9) (v := .int 10) FC hKn hP i_X9 0 rfl rfl 1 (by decide) b_127 rfl dX9_put_32 ?_
  refine lv_iconst (v := 1) hx hb dX9_put_35 (by decide) ?_
  refine lv_iadd hx hb dX9_put_36 ?_
  refine tp_i (v := 11) (by decide) ?_
  refine g_put (C := RX9) (T := TX9) (N := 6) (ci := 9) (v := .int 11) FC hKn hP hD hS i_X9 tyX9 tyX9_ok nmX9 0 rfl rfl 1 (by decide) b_127 rfl rfl rfl (Nat.le_of_ble_eq_true rfl) dX9_put_37 (fun H locs hP hD hS => ?_)
  have hP : va_P g.1 vwCl [(h0, .inr (9, [.ref b0, .int 11, .int 0, .int 0, .int 0, .int 0])), (b0, .inl (g.2 1, 900, .inl f9))] H := hP
  have hD : va_D A [(h0, .inr (9, [.ref b0, .int 11, .int 0, .int 0, .int 0, .int 0])), (b0, .inl (g.2 1, 900, .inl f9))] := hD
  refine lv_iinc (v := 0) (lv' := [(2, .int 0), (0, .ref h0), (1, .int p1)]) hx hb dX9_put_40 hl (k := 0) rfl (by decide) (by decide) rfl (fun ls hl => ?_)
  refine lv_goto (tgt := 3) hx hb dX9_put_43 (by decide) ?_
  refine lv_iload_n hx hb dX9_put_3 rfl (lv_at hl 0 rfl) ?_
  refine lv_if_lt (tgt := 46) hx hb dX9_put_4 (by decide) (fun h => absurd h (by decide)) (fun _ => ?_)
  refine lv_aload_n hx hb dX9_put_7 rfl (lv_at hl 1 rfl) ?_
  refine g_get (C := RX9) (T := TX9) (N := 6) (ci := 9) (v := .int 11) FC hKn hP i_X9 0 rfl rfl 1 (by decide) b_127 rfl dX9_put_8 ?_
  refine lv_sipush (v := 900) hx hb dX9_put_11 (by decide) ?_
  refine lv_icmp_ge (tgt := 46) hx hb dX9_put_14 (by decide) (fun h => absurd h (by decide)) (fun _ => ?_)
  refine lv_aload_n hx hb dX9_put_17 rfl (lv_at hl 1 rfl) ?_
  refine g_get (C := RX9) (T := TX9) (N := 6) (ci := 9) (v := .ref b0) FC hKn hP i_X9 0 rfl rfl 0 (by decide) b_131 rfl dX9_put_18 ?_
  refine lv_aload_n hx hb dX9_put_21 rfl (lv_at hl 1 rfl) ?_
  refine g_get (C := RX9) (T := TX9) (N := 6) (ci := 9) (v := .int 11) FC hKn hP i_X9 0 rfl rfl 1 (by decide) b_127 rfl dX9_put_22 ?_
  refine lv_iload_n hx hb dX9_put_25 rfl (lv_at hl 2 rfl) ?_
  refine lv_iload_n hx hb dX9_put_26 rfl (lv_at hl 0 rfl) ?_
  refine lv_ishr hx hb dX9_put_27 ?_
  refine lv_topi (fun z10 e_z10 => ?_)
  refine lv_i2b hx hb dX9_put_28 rfl ?_
  refine lv_topi (fun z11 e_z11 => ?_)
  refine va_bast hx hb hKn.1 hP hD hS 1 1 rfl rfl (by unfold vp_in; decide) dX9_put_29 (fun H locs hP hD hS => ?_)
  have hP : va_P g.1 vwCl [(h0, .inr (9, [.ref b0, .int 11, .int 0, .int 0, .int 0, .int 0])), (b0, .inl (g.2 1, 900, .inl (upd f9 ((11 : Int32).toNatClampNeg) (vp_nar .byte z11))))] H := hP
  have hD : va_D A [(h0, .inr (9, [.ref b0, .int 11, .int 0, .int 0, .int 0, .int 0])), (b0, .inl (g.2 1, 900, .inl (upd f9 ((11 : Int32).toNatClampNeg) (vp_nar .byte z11))))] := hD
  generalize (upd f9 ((11 : Int32).toNatClampNeg) (vp_nar .byte z11) : Nat → Int32) = f12 at hP hD
  refine lv_aload_n hx hb dX9_put_30 rfl (lv_at hl 1 rfl) ?_
  refine lv_dup hx hb dX9_put_31 rfl ?_
  refine g_get (C := RX9) (T := TX9) (N := 6) (ci := 9) (v := .int 11) FC hKn hP i_X9 0 rfl rfl 1 (by decide) b_127 rfl dX9_put_32 ?_
  refine lv_iconst (v := 1) hx hb dX9_put_35 (by decide) ?_
  refine lv_iadd hx hb dX9_put_36 ?_
  refine tp_i (v := 12) (by decide) ?_
  refine g_put (C := RX9) (T := TX9) (N := 6) (ci := 9) (v := .int 12) FC hKn hP hD hS i_X9 tyX9 tyX9_ok nmX9 0 rfl rfl 1 (by decide) b_127 rfl rfl rfl (Nat.le_of_ble_eq_true rfl) dX9_put_37 (fun H locs hP hD hS => ?_)
  have hP : va_P g.1 vwCl [(h0, .inr (9, [.ref b0, .int 12, .int 0, .int 0, .int 0, .int 0])), (b0, .inl (g.2 1, 900, .inl f12))] H := hP
  have hD : va_D A [(h0, .inr (9, [.ref b0, .int 12, .int 0, .int 0, .int 0, .int 0])), (b0, .inl (g.2 1, 900, .inl f12))] := hD
  refine lv_iinc (v := -8) (lv' := [(2, .int (-8)), (0, .ref h0), (1, .int p1)]) hx hb dX9_put_40 hl (k := 0) rfl (by decide) (by decide) rfl (fun ls hl => ?_)
  refine lv_goto (tgt := 3) hx hb dX9_put_43 (by decide) ?_
  refine lv_iload_n hx hb dX9_put_3 rfl (lv_at hl 0 rfl) ?_
  refine lv_if_lt (tgt := 46) hx hb dX9_put_4 (by decide) (fun _ => ?_) (fun h => absurd h (by decide))
  exact rt_v FX f12 rfl trivial (hP.sub [0, 1] rfl) (hD.sub [0, 1] (by decide) rfl) hS (Nat.le_of_ble_eq_true rfl) (Nat.le_of_ble_eq_true rfl) dX9_put_46
set_option maxRecDepth 100000 in
set_option maxHeartbeats 4000000 in
theorem c_X9_put_3 (l : Launch) (g : GG) (h0 : Nat) (b0 : Nat) (ff : Nat → Int32) (p1 : Int32) : Ct l g yX9_put cX9_put 3 none { frames := 0, cells := 0, slots := 0, locals := 0 } [.ref h0, .int p1] [(h0, .inr (9, [.ref b0, .int 12, .int 0, .int 0, .int 0, .int 0])), (b0, .inl (g.2 1, 900, .inl ff))] (S := Nat → Int32) (fun _ => none) (fun _ => True) (fun u => [(h0, .inr (9, [.ref b0, .int 16, .int 0, .int 0, .int 0, .int 0])), (b0, .inl (g.2 1, 900, .inl u))]) := by
  refine Ct.of (by decide) (Nat.le_of_ble_eq_true rfl) ?_
  intro p e s m below meth c A ls FX hP hD hS hl
  obtain ⟨FC, hr, hlk, hKn, hA, hnm⟩ := id FX
  have FC : CallFix p m c cX9_put 3 s _ BIG RX9 := FC
  obtain ⟨hx, hb, hml, hown, hB⟩ := id FC
  have hl : lv_has ls 3 [(0, .ref h0), (1, .int p1)] := hl
  refine lv_bipush (v := 24) hx hb dX9_put_0 (by decide) ?_
  refine lv_istore_n (lv' := [(2, .int 24), (0, .ref h0), (1, .int p1)]) hx hb dX9_put_2 rfl hl (by decide) rfl (fun ls hl => ?_)
  refine lv_iload_n hx hb dX9_put_3 rfl (lv_at hl 0 rfl) ?_
  refine lv_if_lt (tgt := 46) hx hb dX9_put_4 (by decide) (fun h => absurd h (by decide)) (fun _ => ?_)
  refine lv_aload_n hx hb dX9_put_7 rfl (lv_at hl 1 rfl) ?_
  refine g_get (C := RX9) (T := TX9) (N := 6) (ci := 9) (v := .int 12) FC hKn hP i_X9 0 rfl rfl 1 (by decide) b_127 rfl dX9_put_8 ?_
  refine lv_sipush (v := 900) hx hb dX9_put_11 (by decide) ?_
  refine lv_icmp_ge (tgt := 46) hx hb dX9_put_14 (by decide) (fun h => absurd h (by decide)) (fun _ => ?_)
  refine lv_aload_n hx hb dX9_put_17 rfl (lv_at hl 1 rfl) ?_
  refine g_get (C := RX9) (T := TX9) (N := 6) (ci := 9) (v := .ref b0) FC hKn hP i_X9 0 rfl rfl 0 (by decide) b_131 rfl dX9_put_18 ?_
  refine lv_aload_n hx hb dX9_put_21 rfl (lv_at hl 1 rfl) ?_
  refine g_get (C := RX9) (T := TX9) (N := 6) (ci := 9) (v := .int 12) FC hKn hP i_X9 0 rfl rfl 1 (by decide) b_127 rfl dX9_put_22 ?_
  refine lv_iload_n hx hb dX9_put_25 rfl (lv_at hl 2 rfl) ?_
  refine lv_iload_n hx hb dX9_put_26 rfl (lv_at hl 0 rfl) ?_
  refine lv_ishr hx hb dX9_put_27 ?_
  refine lv_topi (fun z1 e_z1 => ?_)
  refine lv_i2b hx hb dX9_put_28 rfl ?_
  refine lv_topi (fun z2 e_z2 => ?_)
  refine va_bast hx hb hKn.1 hP hD hS 1 1 rfl rfl (by unfold vp_in; decide) dX9_put_29 (fun H locs hP hD hS => ?_)
  have hP : va_P g.1 vwCl [(h0, .inr (9, [.ref b0, .int 12, .int 0, .int 0, .int 0, .int 0])), (b0, .inl (g.2 1, 900, .inl (upd ff ((12 : Int32).toNatClampNeg) (vp_nar .byte z2))))] H := hP
  have hD : va_D A [(h0, .inr (9, [.ref b0, .int 12, .int 0, .int 0, .int 0, .int 0])), (b0, .inl (g.2 1, 900, .inl (upd ff ((12 : Int32).toNatClampNeg) (vp_nar .byte z2))))] := hD
  generalize (upd ff ((12 : Int32).toNatClampNeg) (vp_nar .byte z2) : Nat → Int32) = f3 at hP hD
  refine lv_aload_n hx hb dX9_put_30 rfl (lv_at hl 1 rfl) ?_
  refine lv_dup hx hb dX9_put_31 rfl ?_
  refine g_get (C := RX9) (T := TX9) (N := 6) (ci := 9) (v := .int 12) FC hKn hP i_X9 0 rfl rfl 1 (by decide) b_127 rfl dX9_put_32 ?_
  refine lv_iconst (v := 1) hx hb dX9_put_35 (by decide) ?_
  refine lv_iadd hx hb dX9_put_36 ?_
  refine tp_i (v := 13) (by decide) ?_
  refine g_put (C := RX9) (T := TX9) (N := 6) (ci := 9) (v := .int 13) FC hKn hP hD hS i_X9 tyX9 tyX9_ok nmX9 0 rfl rfl 1 (by decide) b_127 rfl rfl rfl (Nat.le_of_ble_eq_true rfl) dX9_put_37 (fun H locs hP hD hS => ?_)
  have hP : va_P g.1 vwCl [(h0, .inr (9, [.ref b0, .int 13, .int 0, .int 0, .int 0, .int 0])), (b0, .inl (g.2 1, 900, .inl f3))] H := hP
  have hD : va_D A [(h0, .inr (9, [.ref b0, .int 13, .int 0, .int 0, .int 0, .int 0])), (b0, .inl (g.2 1, 900, .inl f3))] := hD
  refine lv_iinc (v := 16) (lv' := [(2, .int 16), (0, .ref h0), (1, .int p1)]) hx hb dX9_put_40 hl (k := 0) rfl (by decide) (by decide) rfl (fun ls hl => ?_)
  refine lv_goto (tgt := 3) hx hb dX9_put_43 (by decide) ?_
  refine lv_iload_n hx hb dX9_put_3 rfl (lv_at hl 0 rfl) ?_
  refine lv_if_lt (tgt := 46) hx hb dX9_put_4 (by decide) (fun h => absurd h (by decide)) (fun _ => ?_)
  refine lv_aload_n hx hb dX9_put_7 rfl (lv_at hl 1 rfl) ?_
  refine g_get (C := RX9) (T := TX9) (N := 6) (ci := 9) (v := .int 13) FC hKn hP i_X9 0 rfl rfl 1 (by decide) b_127 rfl dX9_put_8 ?_
  refine lv_sipush (v := 900) hx hb dX9_put_11 (by decide) ?_
  refine lv_icmp_ge (tgt := 46) hx hb dX9_put_14 (by decide) (fun h => absurd h (by decide)) (fun _ => ?_)
  refine lv_aload_n hx hb dX9_put_17 rfl (lv_at hl 1 rfl) ?_
  refine g_get (C := RX9) (T := TX9) (N := 6) (ci := 9) (v := .ref b0) FC hKn hP i_X9 0 rfl rfl 0 (by decide) b_131 rfl dX9_put_18 ?_
  refine lv_aload_n hx hb dX9_put_21 rfl (lv_at hl 1 rfl) ?_
  refine g_get (C := RX9) (T := TX9) (N := 6) (ci := 9) (v := .int 13) FC hKn hP i_X9 0 rfl rfl 1 (by decide) b_127 rfl dX9_put_22 ?_
  refine lv_iload_n hx hb dX9_put_25 rfl (lv_at hl 2 rfl) ?_
  refine lv_iload_n hx hb dX9_put_26 rfl (lv_at hl 0 rfl) ?_
  refine lv_ishr hx hb dX9_put_27 ?_
  refine lv_topi (fun z4 e_z4 => ?_)
  refine lv_i2b hx hb dX9_put_28 rfl ?_
  refine lv_topi (fun z5 e_z5 => ?_)
  refine va_bast hx hb hKn.1 hP hD hS 1 1 rfl rfl (by unfold vp_in; decide) dX9_put_29 (fun H locs hP hD hS => ?_)
  have hP : va_P g.1 vwCl [(h0, .inr (9, [.ref b0, .int 13, .int 0, .int 0, .int 0, .int 0])), (b0, .inl (g.2 1, 900, .inl (upd f3 ((13 : Int32).toNatClampNeg) (vp_nar .byte z5))))] H := hP
  have hD : va_D A [(h0, .inr (9, [.ref b0, .int 13, .int 0, .int 0, .int 0, .int 0])), (b0, .inl (g.2 1, 900, .inl (upd f3 ((13 : Int32).toNatClampNeg) (vp_nar .byte z5))))] := hD
  generalize (upd f3 ((13 : Int32).toNatClampNeg) (vp_nar .byte z5) : Nat → Int32) = f6 at hP hD
  refine lv_aload_n hx hb dX9_put_30 rfl (lv_at hl 1 rfl) ?_
  refine lv_dup hx hb dX9_put_31 rfl ?_
  refine g_get (C := RX9) (T := TX9) (N := 6) (ci := 9) (v := .int 13) FC hKn hP i_X9 0 rfl rfl 1 (by decide) b_127 rfl dX9_put_32 ?_
  refine lv_iconst (v := 1) hx hb dX9_put_35 (by decide) ?_
  refine lv_iadd hx hb dX9_put_36 ?_
  refine tp_i (v := 14) (by decide) ?_
  refine g_put (C := RX9) (T := TX9) (N := 6) (ci := 9) (v := .int 14) FC hKn hP hD hS i_X9 tyX9 tyX9_ok nmX9 0 rfl rfl 1 (by decide) b_127 rfl rfl rfl (Nat.le_of_ble_eq_true rfl) dX9_put_37 (fun H locs hP hD hS => ?_)
  have hP : va_P g.1 vwCl [(h0, .inr (9, [.ref b0, .int 14, .int 0, .int 0, .int 0, .int 0])), (b0, .inl (g.2 1, 900, .inl f6))] H := hP
  have hD : va_D A [(h0, .inr (9, [.ref b0, .int 14, .int 0, .int 0, .int 0, .int 0])), (b0, .inl (g.2 1, 900, .inl f6))] := hD
  refine lv_iinc (v := 8) (lv' := [(2, .int 8), (0, .ref h0), (1, .int p1)]) hx hb dX9_put_40 hl (k := 0) rfl (by decide) (by decide) rfl (fun ls hl => ?_)
  refine lv_goto (tgt := 3) hx hb dX9_put_43 (by decide) ?_
  refine lv_iload_n hx hb dX9_put_3 rfl (lv_at hl 0 rfl) ?_
  refine lv_if_lt (tgt := 46) hx hb dX9_put_4 (by decide) (fun h => absurd h (by decide)) (fun _ => ?_)
  refine lv_aload_n hx hb dX9_put_7 rfl (lv_at hl 1 rfl) ?_
  refine g_get (C := RX9) (T := TX9) (N := 6) (ci := 9) (v := .int 14) FC hKn hP i_X9 0 rfl rfl 1 (by decide) b_127 rfl dX9_put_8 ?_
  refine lv_sipush (v := 900) hx hb dX9_put_11 (by decide) ?_
  refine lv_icmp_ge (tgt := 46) hx hb dX9_put_14 (by decide) (fun h => absurd h (by decide)) (fun _ => ?_)
  refine lv_aload_n hx hb dX9_put_17 rfl (lv_at hl 1 rfl) ?_
  refine g_get (C := RX9) (T := TX9) (N := 6) (ci := 9) (v := .ref b0) FC hKn hP i_X9 0 rfl rfl 0 (by decide) b_131 rfl dX9_put_18 ?_
  refine lv_aload_n hx hb dX9_put_21 rfl (lv_at hl 1 rfl) ?_
  refine g_get (C := RX9) (T := TX9) (N := 6) (ci := 9) (v := .int 14) FC hKn hP i_X9 0 rfl rfl 1 (by decide) b_127 rfl dX9_put_22 ?_
  refine lv_iload_n hx hb dX9_put_25 rfl (lv_at hl 2 rfl) ?_
  refine lv_iload_n hx hb dX9_put_26 rfl (lv_at hl 0 rfl) ?_
  refine lv_ishr hx hb dX9_put_27 ?_
  refine lv_topi (fun z7 e_z7 => ?_)
  refine lv_i2b hx hb dX9_put_28 rfl ?_
  refine lv_topi (fun z8 e_z8 => ?_)
  refine va_bast hx hb hKn.1 hP hD hS 1 1 rfl rfl (by unfold vp_in; decide) dX9_put_29 (fun H locs hP hD hS => ?_)
  have hP : va_P g.1 vwCl [(h0, .inr (9, [.ref b0, .int 14, .int 0, .int 0, .int 0, .int 0])), (b0, .inl (g.2 1, 900, .inl (upd f6 ((14 : Int32).toNatClampNeg) (vp_nar .byte z8))))] H := hP
  have hD : va_D A [(h0, .inr (9, [.ref b0, .int 14, .int 0, .int 0, .int 0, .int 0])), (b0, .inl (g.2 1, 900, .inl (upd f6 ((14 : Int32).toNatClampNeg) (vp_nar .byte z8))))] := hD
  generalize (upd f6 ((14 : Int32).toNatClampNeg) (vp_nar .byte z8) : Nat → Int32) = f9 at hP hD
  refine lv_aload_n hx hb dX9_put_30 rfl (lv_at hl 1 rfl) ?_
  refine lv_dup hx hb dX9_put_31 rfl ?_
  refine g_get (C := RX9) (T := TX9) (N := 6) (ci := 9) (v := .int 14) FC hKn hP i_X9 0 rfl rfl 1 (by decide) b_127 rfl dX9_put_32 ?_
  refine lv_iconst (v := 1) hx hb dX9_put_35 (by decide) ?_
  refine lv_iadd hx hb dX9_put_36 ?_
  refine tp_i (v := 15) (by decide) ?_
  refine g_put (C := RX9) (T := TX9) (N := 6) (ci := 9) (v := .int 15) FC hKn hP hD hS i_X9 tyX9 tyX9_ok nmX9 0 rfl rfl 1 (by decide) b_127 rfl rfl rfl (Nat.le_of_ble_eq_true rfl) dX9_put_37 (fun H locs hP hD hS => ?_)
  have hP : va_P g.1 vwCl [(h0, .inr (9, [.ref b0, .int 15, .int 0, .int 0, .int 0, .int 0])), (b0, .inl (g.2 1, 900, .inl f9))] H := hP
  have hD : va_D A [(h0, .inr (9, [.ref b0, .int 15, .int 0, .int 0, .int 0, .int 0])), (b0, .inl (g.2 1, 900, .inl f9))] := hD
  refine lv_iinc (v := 0) (lv' := [(2, .int 0), (0, .ref h0), (1, .int p1)]) hx hb dX9_put_40 hl (k := 0) rfl (by decide) (by decide) rfl (fun ls hl => ?_)
  refine lv_goto (tgt := 3) hx hb dX9_put_43 (by decide) ?_
  refine lv_iload_n hx hb dX9_put_3 rfl (lv_at hl 0 rfl) ?_
  refine lv_if_lt (tgt := 46) hx hb dX9_put_4 (by decide) (fun h => absurd h (by decide)) (fun _ => ?_)
  refine lv_aload_n hx hb dX9_put_7 rfl (lv_at hl 1 rfl) ?_
  refine g_get (C := RX9) (T := TX9) (N := 6) (ci := 9) (v := .int 15) FC hKn hP i_X9 0 rfl rfl 1 (by decide) b_127 rfl dX9_put_8 ?_
  refine lv_sipush (v := 900) hx hb dX9_put_11 (by decide) ?_
  refine lv_icmp_ge (tgt := 46) hx hb dX9_put_14 (by decide) (fun h => absurd h (by decide)) (fun _ => ?_)
  refine lv_aload_n hx hb dX9_put_17 rfl (lv_at hl 1 rfl) ?_
  refine g_get (C := RX9) (T := TX9) (N := 6) (ci := 9) (v := .ref b0) FC hKn hP i_X9 0 rfl rfl 0 (by decide) b_131 rfl dX9_put_18 ?_
  refine lv_aload_n hx hb dX9_put_21 rfl (lv_at hl 1 rfl) ?_
  refine g_get (C := RX9) (T := TX9) (N := 6) (ci := 9) (v := .int 15) FC hKn hP i_X9 0 rfl rfl 1 (by decide) b_127 rfl dX9_put_22 ?_
  refine lv_iload_n hx hb dX9_put_25 rfl (lv_at hl 2 rfl) ?_
  refine lv_iload_n hx hb dX9_put_26 rfl (lv_at hl 0 rfl) ?_
  refine lv_ishr hx hb dX9_put_27 ?_
  refine lv_topi (fun z10 e_z10 => ?_)
  refine lv_i2b hx hb dX9_put_28 rfl ?_
  refine lv_topi (fun z11 e_z11 => ?_)
  refine va_bast hx hb hKn.1 hP hD hS 1 1 rfl rfl (by unfold vp_in; decide) dX9_put_29 (fun H locs hP hD hS => ?_)
  have hP : va_P g.1 vwCl [(h0, .inr (9, [.ref b0, .int 15, .int 0, .int 0, .int 0, .int 0])), (b0, .inl (g.2 1, 900, .inl (upd f9 ((15 : Int32).toNatClampNeg) (vp_nar .byte z11))))] H := hP
  have hD : va_D A [(h0, .inr (9, [.ref b0, .int 15, .int 0, .int 0, .int 0, .int 0])), (b0, .inl (g.2 1, 900, .inl (upd f9 ((15 : Int32).toNatClampNeg) (vp_nar .byte z11))))] := hD
  generalize (upd f9 ((15 : Int32).toNatClampNeg) (vp_nar .byte z11) : Nat → Int32) = f12 at hP hD
  refine lv_aload_n hx hb dX9_put_30 rfl (lv_at hl 1 rfl) ?_
  refine lv_dup hx hb dX9_put_31 rfl ?_
  refine g_get (C := RX9) (T := TX9) (N := 6) (ci := 9) (v := .int 15) FC hKn hP i_X9 0 rfl rfl 1 (by decide) b_127 rfl dX9_put_32 ?_
  refine lv_iconst (v := 1) hx hb dX9_put_35 (by decide) ?_
  refine lv_iadd hx hb dX9_put_36 ?_
  refine tp_i (v := 16) (by decide) ?_
  refine g_put (C := RX9) (T := TX9) (N := 6) (ci := 9) (v := .int 16) FC hKn hP hD hS i_X9 tyX9 tyX9_ok nmX9 0 rfl rfl 1 (by decide) b_127 rfl rfl rfl (Nat.le_of_ble_eq_true rfl) dX9_put_37 (fun H locs hP hD hS => ?_)
  have hP : va_P g.1 vwCl [(h0, .inr (9, [.ref b0, .int 16, .int 0, .int 0, .int 0, .int 0])), (b0, .inl (g.2 1, 900, .inl f12))] H := hP
  have hD : va_D A [(h0, .inr (9, [.ref b0, .int 16, .int 0, .int 0, .int 0, .int 0])), (b0, .inl (g.2 1, 900, .inl f12))] := hD
  refine lv_iinc (v := -8) (lv' := [(2, .int (-8)), (0, .ref h0), (1, .int p1)]) hx hb dX9_put_40 hl (k := 0) rfl (by decide) (by decide) rfl (fun ls hl => ?_)
  refine lv_goto (tgt := 3) hx hb dX9_put_43 (by decide) ?_
  refine lv_iload_n hx hb dX9_put_3 rfl (lv_at hl 0 rfl) ?_
  refine lv_if_lt (tgt := 46) hx hb dX9_put_4 (by decide) (fun _ => ?_) (fun h => absurd h (by decide))
  exact rt_v FX f12 rfl trivial (hP.sub [0, 1] rfl) (hD.sub [0, 1] (by decide) rfl) hS (Nat.le_of_ble_eq_true rfl) (Nat.le_of_ble_eq_true rfl) dX9_put_46
set_option maxRecDepth 100000 in
set_option maxHeartbeats 4000000 in
theorem c_X9_put_4 (l : Launch) (g : GG) (h0 : Nat) (b0 : Nat) (ff : Nat → Int32) (p1 : Int32) : Ct l g yX9_put cX9_put 3 none { frames := 0, cells := 0, slots := 0, locals := 0 } [.ref h0, .int p1] [(h0, .inr (9, [.ref b0, .int 16, .int 0, .int 0, .int 0, .int 0])), (b0, .inl (g.2 1, 900, .inl ff))] (S := Nat → Int32) (fun _ => none) (fun _ => True) (fun u => [(h0, .inr (9, [.ref b0, .int 20, .int 0, .int 0, .int 0, .int 0])), (b0, .inl (g.2 1, 900, .inl u))]) := by
  refine Ct.of (by decide) (Nat.le_of_ble_eq_true rfl) ?_
  intro p e s m below meth c A ls FX hP hD hS hl
  obtain ⟨FC, hr, hlk, hKn, hA, hnm⟩ := id FX
  have FC : CallFix p m c cX9_put 3 s _ BIG RX9 := FC
  obtain ⟨hx, hb, hml, hown, hB⟩ := id FC
  have hl : lv_has ls 3 [(0, .ref h0), (1, .int p1)] := hl
  refine lv_bipush (v := 24) hx hb dX9_put_0 (by decide) ?_
  refine lv_istore_n (lv' := [(2, .int 24), (0, .ref h0), (1, .int p1)]) hx hb dX9_put_2 rfl hl (by decide) rfl (fun ls hl => ?_)
  refine lv_iload_n hx hb dX9_put_3 rfl (lv_at hl 0 rfl) ?_
  refine lv_if_lt (tgt := 46) hx hb dX9_put_4 (by decide) (fun h => absurd h (by decide)) (fun _ => ?_)
  refine lv_aload_n hx hb dX9_put_7 rfl (lv_at hl 1 rfl) ?_
  refine g_get (C := RX9) (T := TX9) (N := 6) (ci := 9) (v := .int 16) FC hKn hP i_X9 0 rfl rfl 1 (by decide) b_127 rfl dX9_put_8 ?_
  refine lv_sipush (v := 900) hx hb dX9_put_11 (by decide) ?_
  refine lv_icmp_ge (tgt := 46) hx hb dX9_put_14 (by decide) (fun h => absurd h (by decide)) (fun _ => ?_)
  refine lv_aload_n hx hb dX9_put_17 rfl (lv_at hl 1 rfl) ?_
  refine g_get (C := RX9) (T := TX9) (N := 6) (ci := 9) (v := .ref b0) FC hKn hP i_X9 0 rfl rfl 0 (by decide) b_131 rfl dX9_put_18 ?_
  refine lv_aload_n hx hb dX9_put_21 rfl (lv_at hl 1 rfl) ?_
  refine g_get (C := RX9) (T := TX9) (N := 6) (ci := 9) (v := .int 16) FC hKn hP i_X9 0 rfl rfl 1 (by decide) b_127 rfl dX9_put_22 ?_
  refine lv_iload_n hx hb dX9_put_25 rfl (lv_at hl 2 rfl) ?_
  refine lv_iload_n hx hb dX9_put_26 rfl (lv_at hl 0 rfl) ?_
  refine lv_ishr hx hb dX9_put_27 ?_
  refine lv_topi (fun z1 e_z1 => ?_)
  refine lv_i2b hx hb dX9_put_28 rfl ?_
  refine lv_topi (fun z2 e_z2 => ?_)
  refine va_bast hx hb hKn.1 hP hD hS 1 1 rfl rfl (by unfold vp_in; decide) dX9_put_29 (fun H locs hP hD hS => ?_)
  have hP : va_P g.1 vwCl [(h0, .inr (9, [.ref b0, .int 16, .int 0, .int 0, .int 0, .int 0])), (b0, .inl (g.2 1, 900, .inl (upd ff ((16 : Int32).toNatClampNeg) (vp_nar .byte z2))))] H := hP
  have hD : va_D A [(h0, .inr (9, [.ref b0, .int 16, .int 0, .int 0, .int 0, .int 0])), (b0, .inl (g.2 1, 900, .inl (upd ff ((16 : Int32).toNatClampNeg) (vp_nar .byte z2))))] := hD
  generalize (upd ff ((16 : Int32).toNatClampNeg) (vp_nar .byte z2) : Nat → Int32) = f3 at hP hD
  refine lv_aload_n hx hb dX9_put_30 rfl (lv_at hl 1 rfl) ?_
  refine lv_dup hx hb dX9_put_31 rfl ?_
  refine g_get (C := RX9) (T := TX9) (N := 6) (ci := 9) (v := .int 16) FC hKn hP i_X9 0 rfl rfl 1 (by decide) b_127 rfl dX9_put_32 ?_
  refine lv_iconst (v := 1) hx hb dX9_put_35 (by decide) ?_
  refine lv_iadd hx hb dX9_put_36 ?_
  refine tp_i (v := 17) (by decide) ?_
  refine g_put (C := RX9) (T := TX9) (N := 6) (ci := 9) (v := .int 17) FC hKn hP hD hS i_X9 tyX9 tyX9_ok nmX9 0 rfl rfl 1 (by decide) b_127 rfl rfl rfl (Nat.le_of_ble_eq_true rfl) dX9_put_37 (fun H locs hP hD hS => ?_)
  have hP : va_P g.1 vwCl [(h0, .inr (9, [.ref b0, .int 17, .int 0, .int 0, .int 0, .int 0])), (b0, .inl (g.2 1, 900, .inl f3))] H := hP
  have hD : va_D A [(h0, .inr (9, [.ref b0, .int 17, .int 0, .int 0, .int 0, .int 0])), (b0, .inl (g.2 1, 900, .inl f3))] := hD
  refine lv_iinc (v := 16) (lv' := [(2, .int 16), (0, .ref h0), (1, .int p1)]) hx hb dX9_put_40 hl (k := 0) rfl (by decide) (by decide) rfl (fun ls hl => ?_)
  refine lv_goto (tgt := 3) hx hb dX9_put_43 (by decide) ?_
  refine lv_iload_n hx hb dX9_put_3 rfl (lv_at hl 0 rfl) ?_
  refine lv_if_lt (tgt := 46) hx hb dX9_put_4 (by decide) (fun h => absurd h (by decide)) (fun _ => ?_)
  refine lv_aload_n hx hb dX9_put_7 rfl (lv_at hl 1 rfl) ?_
  refine g_get (C := RX9) (T := TX9) (N := 6) (ci := 9) (v := .int 17) FC hKn hP i_X9 0 rfl rfl 1 (by decide) b_127 rfl dX9_put_8 ?_
  refine lv_sipush (v := 900) hx hb dX9_put_11 (by decide) ?_
  refine lv_icmp_ge (tgt := 46) hx hb dX9_put_14 (by decide) (fun h => absurd h (by decide)) (fun _ => ?_)
  refine lv_aload_n hx hb dX9_put_17 rfl (lv_at hl 1 rfl) ?_
  refine g_get (C := RX9) (T := TX9) (N := 6) (ci := 9) (v := .ref b0) FC hKn hP i_X9 0 rfl rfl 0 (by decide) b_131 rfl dX9_put_18 ?_
  refine lv_aload_n hx hb dX9_put_21 rfl (lv_at hl 1 rfl) ?_
  refine g_get (C := RX9) (T := TX9) (N := 6) (ci := 9) (v := .int 17) FC hKn hP i_X9 0 rfl rfl 1 (by decide) b_127 rfl dX9_put_22 ?_
  refine lv_iload_n hx hb dX9_put_25 rfl (lv_at hl 2 rfl) ?_
  refine lv_iload_n hx hb dX9_put_26 rfl (lv_at hl 0 rfl) ?_
  refine lv_ishr hx hb dX9_put_27 ?_
  refine lv_topi (fun z4 e_z4 => ?_)
  refine lv_i2b hx hb dX9_put_28 rfl ?_
  refine lv_topi (fun z5 e_z5 => ?_)
  refine va_bast hx hb hKn.1 hP hD hS 1 1 rfl rfl (by unfold vp_in; decide) dX9_put_29 (fun H locs hP hD hS => ?_)
  have hP : va_P g.1 vwCl [(h0, .inr (9, [.ref b0, .int 17, .int 0, .int 0, .int 0, .int 0])), (b0, .inl (g.2 1, 900, .inl (upd f3 ((17 : Int32).toNatClampNeg) (vp_nar .byte z5))))] H := hP
  have hD : va_D A [(h0, .inr (9, [.ref b0, .int 17, .int 0, .int 0, .int 0, .int 0])), (b0, .inl (g.2 1, 900, .inl (upd f3 ((17 : Int32).toNatClampNeg) (vp_nar .byte z5))))] := hD
  generalize (upd f3 ((17 : Int32).toNatClampNeg) (vp_nar .byte z5) : Nat → Int32) = f6 at hP hD
  refine lv_aload_n hx hb dX9_put_30 rfl (lv_at hl 1 rfl) ?_
  refine lv_dup hx hb dX9_put_31 rfl ?_
  refine g_get (C := RX9) (T := TX9) (N := 6) (ci := 9) (v := .int 17) FC hKn hP i_X9 0 rfl rfl 1 (by decide) b_127 rfl dX9_put_32 ?_
  refine lv_iconst (v := 1) hx hb dX9_put_35 (by decide) ?_
  refine lv_iadd hx hb dX9_put_36 ?_
  refine tp_i (v := 18) (by decide) ?_
  refine g_put (C := RX9) (T := TX9) (N := 6) (ci := 9) (v := .int 18) FC hKn hP hD hS i_X9 tyX9 tyX9_ok nmX9 0 rfl rfl 1 (by decide) b_127 rfl rfl rfl (Nat.le_of_ble_eq_true rfl) dX9_put_37 (fun H locs hP hD hS => ?_)
  have hP : va_P g.1 vwCl [(h0, .inr (9, [.ref b0, .int 18, .int 0, .int 0, .int 0, .int 0])), (b0, .inl (g.2 1, 900, .inl f6))] H := hP
  have hD : va_D A [(h0, .inr (9, [.ref b0, .int 18, .int 0, .int 0, .int 0, .int 0])), (b0, .inl (g.2 1, 900, .inl f6))] := hD
  refine lv_iinc (v := 8) (lv' := [(2, .int 8), (0, .ref h0), (1, .int p1)]) hx hb dX9_put_40 hl (k := 0) rfl (by decide) (by decide) rfl (fun ls hl => ?_)
  refine lv_goto (tgt := 3) hx hb dX9_put_43 (by decide) ?_
  refine lv_iload_n hx hb dX9_put_3 rfl (lv_at hl 0 rfl) ?_
  refine lv_if_lt (tgt := 46) hx hb dX9_put_4 (by decide) (fun h => absurd h (by decide)) (fun _ => ?_)
  refine lv_aload_n hx hb dX9_put_7 rfl (lv_at hl 1 rfl) ?_
  refine g_get (C := RX9) (T := TX9) (N := 6) (ci := 9) (v := .int 18) FC hKn hP i_X9 0 rfl rfl 1 (by decide) b_127 rfl dX9_put_8 ?_
  refine lv_sipush (v := 900) hx hb dX9_put_11 (by decide) ?_
  refine lv_icmp_ge (tgt := 46) hx hb dX9_put_14 (by decide) (fun h => absurd h (by decide)) (fun _ => ?_)
  refine lv_aload_n hx hb dX9_put_17 rfl (lv_at hl 1 rfl) ?_
  refine g_get (C := RX9) (T := TX9) (N := 6) (ci := 9) (v := .ref b0) FC hKn hP i_X9 0 rfl rfl 0 (by decide) b_131 rfl dX9_put_18 ?_
  refine lv_aload_n hx hb dX9_put_21 rfl (lv_at hl 1 rfl) ?_
  refine g_get (C := RX9) (T := TX9) (N := 6) (ci := 9) (v := .int 18) FC hKn hP i_X9 0 rfl rfl 1 (by decide) b_127 rfl dX9_put_22 ?_
  refine lv_iload_n hx hb dX9_put_25 rfl (lv_at hl 2 rfl) ?_
  refine lv_iload_n hx hb dX9_put_26 rfl (lv_at hl 0 rfl) ?_
  refine lv_ishr hx hb dX9_put_27 ?_
  refine lv_topi (fun z7 e_z7 => ?_)
  refine lv_i2b hx hb dX9_put_28 rfl ?_
  refine lv_topi (fun z8 e_z8 => ?_)
  refine va_bast hx hb hKn.1 hP hD hS 1 1 rfl rfl (by unfold vp_in; decide) dX9_put_29 (fun H locs hP hD hS => ?_)
  have hP : va_P g.1 vwCl [(h0, .inr (9, [.ref b0, .int 18, .int 0, .int 0, .int 0, .int 0])), (b0, .inl (g.2 1, 900, .inl (upd f6 ((18 : Int32).toNatClampNeg) (vp_nar .byte z8))))] H := hP
  have hD : va_D A [(h0, .inr (9, [.ref b0, .int 18, .int 0, .int 0, .int 0, .int 0])), (b0, .inl (g.2 1, 900, .inl (upd f6 ((18 : Int32).toNatClampNeg) (vp_nar .byte z8))))] := hD
  generalize (upd f6 ((18 : Int32).toNatClampNeg) (vp_nar .byte z8) : Nat → Int32) = f9 at hP hD
  refine lv_aload_n hx hb dX9_put_30 rfl (lv_at hl 1 rfl) ?_
  refine lv_dup hx hb dX9_put_31 rfl ?_
  refine g_get (C := RX9) (T := TX9) (N := 6) (ci := 9) (v := .int 18) FC hKn hP i_X9 0 rfl rfl 1 (by decide) b_127 rfl dX9_put_32 ?_
  refine lv_iconst (v := 1) hx hb dX9_put_35 (by decide) ?_
  refine lv_iadd hx hb dX9_put_36 ?_
  refine tp_i (v := 19) (by decide) ?_
  refine g_put (C := RX9) (T := TX9) (N := 6) (ci := 9) (v := .int 19) FC hKn hP hD hS i_X9 tyX9 tyX9_ok nmX9 0 rfl rfl 1 (by decide) b_127 rfl rfl rfl (Nat.le_of_ble_eq_true rfl) dX9_put_37 (fun H locs hP hD hS => ?_)
  have hP : va_P g.1 vwCl [(h0, .inr (9, [.ref b0, .int 19, .int 0, .int 0, .int 0, .int 0])), (b0, .inl (g.2 1, 900, .inl f9))] H := hP
  have hD : va_D A [(h0, .inr (9, [.ref b0, .int 19, .int 0, .int 0, .int 0, .int 0])), (b0, .inl (g.2 1, 900, .inl f9))] := hD
  refine lv_iinc (v := 0) (lv' := [(2, .int 0), (0, .ref h0), (1, .int p1)]) hx hb dX9_put_40 hl (k := 0) rfl (by decide) (by decide) rfl (fun ls hl => ?_)
  refine lv_goto (tgt := 3) hx hb dX9_put_43 (by decide) ?_
  refine lv_iload_n hx hb dX9_put_3 rfl (lv_at hl 0 rfl) ?_
  refine lv_if_lt (tgt := 46) hx hb dX9_put_4 (by decide) (fun h => absurd h (by decide)) (fun _ => ?_)
  refine lv_aload_n hx hb dX9_put_7 rfl (lv_at hl 1 rfl) ?_
  refine g_get (C := RX9) (T := TX9) (N := 6) (ci := 9) (v := .int 19) FC hKn hP i_X9 0 rfl rfl 1 (by decide) b_127 rfl dX9_put_8 ?_
  refine lv_sipush (v := 900) hx hb dX9_put_11 (by decide) ?_
  refine lv_icmp_ge (tgt := 46) hx hb dX9_put_14 (by decide) (fun h => absurd h (by decide)) (fun _ => ?_)
  refine lv_aload_n hx hb dX9_put_17 rfl (lv_at hl 1 rfl) ?_
  refine g_get (C := RX9) (T := TX9) (N := 6) (ci := 9) (v := .ref b0) FC hKn hP i_X9 0 rfl rfl 0 (by decide) b_131 rfl dX9_put_18 ?_
  refine lv_aload_n hx hb dX9_put_21 rfl (lv_at hl 1 rfl) ?_
  refine g_get (C := RX9) (T := TX9) (N := 6) (ci := 9) (v := .int 19) FC hKn hP i_X9 0 rfl rfl 1 (by decide) b_127 rfl dX9_put_22 ?_
  refine lv_iload_n hx hb dX9_put_25 rfl (lv_at hl 2 rfl) ?_
  refine lv_iload_n hx hb dX9_put_26 rfl (lv_at hl 0 rfl) ?_
  refine lv_ishr hx hb dX9_put_27 ?_
  refine lv_topi (fun z10 e_z10 => ?_)
  refine lv_i2b hx hb dX9_put_28 rfl ?_
  refine lv_topi (fun z11 e_z11 => ?_)
  refine va_bast hx hb hKn.1 hP hD hS 1 1 rfl rfl (by unfold vp_in; decide) dX9_put_29 (fun H locs hP hD hS => ?_)
  have hP : va_P g.1 vwCl [(h0, .inr (9, [.ref b0, .int 19, .int 0, .int 0, .int 0, .int 0])), (b0, .inl (g.2 1, 900, .inl (upd f9 ((19 : Int32).toNatClampNeg) (vp_nar .byte z11))))] H := hP
  have hD : va_D A [(h0, .inr (9, [.ref b0, .int 19, .int 0, .int 0, .int 0, .int 0])), (b0, .inl (g.2 1, 900, .inl (upd f9 ((19 : Int32).toNatClampNeg) (vp_nar .byte z11))))] := hD
  generalize (upd f9 ((19 : Int32).toNatClampNeg) (vp_nar .byte z11) : Nat → Int32) = f12 at hP hD
  refine lv_aload_n hx hb dX9_put_30 rfl (lv_at hl 1 rfl) ?_
  refine lv_dup hx hb dX9_put_31 rfl ?_
  refine g_get (C := RX9) (T := TX9) (N := 6) (ci := 9) (v := .int 19) FC hKn hP i_X9 0 rfl rfl 1 (by decide) b_127 rfl dX9_put_32 ?_
  refine lv_iconst (v := 1) hx hb dX9_put_35 (by decide) ?_
  refine lv_iadd hx hb dX9_put_36 ?_
  refine tp_i (v := 20) (by decide) ?_
  refine g_put (C := RX9) (T := TX9) (N := 6) (ci := 9) (v := .int 20) FC hKn hP hD hS i_X9 tyX9 tyX9_ok nmX9 0 rfl rfl 1 (by decide) b_127 rfl rfl rfl (Nat.le_of_ble_eq_true rfl) dX9_put_37 (fun H locs hP hD hS => ?_)
  have hP : va_P g.1 vwCl [(h0, .inr (9, [.ref b0, .int 20, .int 0, .int 0, .int 0, .int 0])), (b0, .inl (g.2 1, 900, .inl f12))] H := hP
  have hD : va_D A [(h0, .inr (9, [.ref b0, .int 20, .int 0, .int 0, .int 0, .int 0])), (b0, .inl (g.2 1, 900, .inl f12))] := hD
  refine lv_iinc (v := -8) (lv' := [(2, .int (-8)), (0, .ref h0), (1, .int p1)]) hx hb dX9_put_40 hl (k := 0) rfl (by decide) (by decide) rfl (fun ls hl => ?_)
  refine lv_goto (tgt := 3) hx hb dX9_put_43 (by decide) ?_
  refine lv_iload_n hx hb dX9_put_3 rfl (lv_at hl 0 rfl) ?_
  refine lv_if_lt (tgt := 46) hx hb dX9_put_4 (by decide) (fun _ => ?_) (fun h => absurd h (by decide))
  exact rt_v FX f12 rfl trivial (hP.sub [0, 1] rfl) (hD.sub [0, 1] (by decide) rfl) hS (Nat.le_of_ble_eq_true rfl) (Nat.le_of_ble_eq_true rfl) dX9_put_46
set_option maxRecDepth 100000 in
set_option maxHeartbeats 4000000 in
theorem c_X1_readDesk (l : Launch) (g : GG) (h0 : Nat) (t0 : Nat) (b0 : Nat) (k0 : Nat) (v0 : Nat) (v1 : Nat) (v2 : Nat) (v3 : Nat) (v4 : Nat) (v5 : Nat) (v6 : Nat) (v7 : Nat) (v8 : Nat) (v9 : Nat) (x0 : Nat) (x1 : Nat) (x2 : Nat) (fa0 : Nat → Int32) (fa2 : Nat → Int32) (fa3 : Nat → Int32) : Ct l g yX1_readDesk cX1_readDesk 2 (some .boolean) { frames := 2, cells := 0, slots := 0, locals := 43 } [.ref h0] [(h0, .inr (1, [.ref t0, .ref k0, .int 0, .int (-1), .int 0])), (t0, .inr (9, [.ref b0, .int 0, .int 0, .int 0, .int 0, .int 0])), (k0, .inr (0, [.int 0, .int 0, .int 0, .int 0, .int 0, .int 0, .int 0, .int 0, .int 0, .int 0, .ref v0, .ref v1, .ref v2, .ref v3, .ref v4, .ref v5, .ref v6, .ref v7, .ref v8, .ref v9])), (v9, .inr (3, [.ref x0, .ref x1, .ref x2, .int 0])), (v0, .inl (g.2 0, 8, .inl fa0)), (v2, .inl (g.2 0, 4, .inl fa2)), (v3, .inl (g.2 0, 4, .inl fa3))] (S := Nat → Nat → Int32) (fun _ => some (.int 1)) (fun _ => True) (fun u => [(h0, .inr (1, [.ref t0, .ref k0, .int 0, .int (-1), .int 0])), (t0, .inr (9, [.ref b0, .int 0, .int 0, .int 0, .int 0, .int 0])), (k0, .inr (0, [.int 0, .int 0, .int 0, .int 0, .int 0, .int 0, .int 0, .int 0, .int 0, .int 0, .ref v0, .ref v1, .ref v2, .ref v3, .ref v4, .ref v5, .ref v6, .ref v7, .ref v8, .ref v9])), (v9, .inr (3, [.ref x0, .ref x1, .ref x2, .int 0])), (v0, .inl (g.2 0, 8, .inl (u 0))), (v2, .inl (g.2 0, 4, .inl (u 1))), (v3, .inl (g.2 0, 4, .inl (u 2)))]) := by
  refine Ct.of (by decide) (Nat.le_of_ble_eq_true rfl) ?_
  intro p e s m below meth c A ls FX hP hD hS hl
  obtain ⟨FC, hr, hlk, hKn, hA, hnm⟩ := id FX
  have FC : CallFix p m c cX1_readDesk 2 s _ BIG RX1 := FC
  obtain ⟨hx, hb, hml, hown, hB⟩ := id FC
  have hl : lv_has ls 2 [(0, .ref h0)] := hl
  refine lv_aload_n hx hb dX1_readDesk_0 rfl (lv_at hl 0 rfl) ?_
  refine lv_iconst (v := 0) hx hb dX1_readDesk_1 (by decide) ?_
  refine g_put (C := RX1) (T := TX1) (N := 5) (ci := 1) (v := .int 0) FC hKn hP hD hS i_X1 tyX1 tyX1_ok nmX1 0 rfl rfl 2 (by decide) b_132 rfl rfl rfl (Nat.le_of_ble_eq_true rfl) dX1_readDesk_2 (fun H locs hP hD hS => ?_)
  have hP : va_P g.1 vwCl [(h0, .inr (1, [.ref t0, .ref k0, .int 0, .int (-1), .int 0])), (t0, .inr (9, [.ref b0, .int 0, .int 0, .int 0, .int 0, .int 0])), (k0, .inr (0, [.int 0, .int 0, .int 0, .int 0, .int 0, .int 0, .int 0, .int 0, .int 0, .int 0, .ref v0, .ref v1, .ref v2, .ref v3, .ref v4, .ref v5, .ref v6, .ref v7, .ref v8, .ref v9])), (v9, .inr (3, [.ref x0, .ref x1, .ref x2, .int 0])), (v0, .inl (g.2 0, 8, .inl fa0)), (v2, .inl (g.2 0, 4, .inl fa2)), (v3, .inl (g.2 0, 4, .inl fa3))] H := hP
  have hD : va_D A [(h0, .inr (1, [.ref t0, .ref k0, .int 0, .int (-1), .int 0])), (t0, .inr (9, [.ref b0, .int 0, .int 0, .int 0, .int 0, .int 0])), (k0, .inr (0, [.int 0, .int 0, .int 0, .int 0, .int 0, .int 0, .int 0, .int 0, .int 0, .int 0, .ref v0, .ref v1, .ref v2, .ref v3, .ref v4, .ref v5, .ref v6, .ref v7, .ref v8, .ref v9])), (v9, .inr (3, [.ref x0, .ref x1, .ref x2, .int 0])), (v0, .inl (g.2 0, 8, .inl fa0)), (v2, .inl (g.2 0, 4, .inl fa2)), (v3, .inl (g.2 0, 4, .inl fa3))] := hD
  refine lv_aload_n hx hb dX1_readDesk_5 rfl (lv_at hl 0 rfl) ?_
  refine lv_iconst (v := -1) hx hb dX1_readDesk_6 (by decide) ?_
  refine g_put (C := RX1) (T := TX1) (N := 5) (ci := 1) (v := .int (-1)) FC hKn hP hD hS i_X1 tyX1 tyX1_ok nmX1 0 rfl rfl 3 (by decide) b_133 rfl rfl rfl (Nat.le_of_ble_eq_true rfl) dX1_readDesk_7 (fun H locs hP hD hS => ?_)
  have hP : va_P g.1 vwCl [(h0, .inr (1, [.ref t0, .ref k0, .int 0, .int (-1), .int 0])), (t0, .inr (9, [.ref b0, .int 0, .int 0, .int 0, .int 0, .int 0])), (k0, .inr (0, [.int 0, .int 0, .int 0, .int 0, .int 0, .int 0, .int 0, .int 0, .int 0, .int 0, .ref v0, .ref v1, .ref v2, .ref v3, .ref v4, .ref v5, .ref v6, .ref v7, .ref v8, .ref v9])), (v9, .inr (3, [.ref x0, .ref x1, .ref x2, .int 0])), (v0, .inl (g.2 0, 8, .inl fa0)), (v2, .inl (g.2 0, 4, .inl fa2)), (v3, .inl (g.2 0, 4, .inl fa3))] H := hP
  have hD : va_D A [(h0, .inr (1, [.ref t0, .ref k0, .int 0, .int (-1), .int 0])), (t0, .inr (9, [.ref b0, .int 0, .int 0, .int 0, .int 0, .int 0])), (k0, .inr (0, [.int 0, .int 0, .int 0, .int 0, .int 0, .int 0, .int 0, .int 0, .int 0, .int 0, .ref v0, .ref v1, .ref v2, .ref v3, .ref v4, .ref v5, .ref v6, .ref v7, .ref v8, .ref v9])), (v9, .inr (3, [.ref x0, .ref x1, .ref x2, .int 0])), (v0, .inl (g.2 0, 8, .inl fa0)), (v2, .inl (g.2 0, 4, .inl fa2)), (v3, .inl (g.2 0, 4, .inl fa3))] := hD
  refine lv_aload_n hx hb dX1_readDesk_10 rfl (lv_at hl 0 rfl) ?_
  refine g_get (C := RX1) (T := TX1) (N := 5) (ci := 1) (v := .ref k0) FC hKn hP i_X1 0 rfl rfl 1 (by decide) b_134 rfl dX1_readDesk_11 ?_
  refine call_VN (As := []) (rest := []) (wr := [(h0, .inr (1, [.ref t0, .ref k0, .int 0, .int (-1), .int 0])), (t0, .inr (9, [.ref b0, .int 0, .int 0, .int 0, .int 0, .int 0]))]) FC hKn (c_X0_clear l g k0 v0 v1 v2 v3 v4 v5 v6 v7 v8 v9 x0 x1 x2 fa0 fa2 fa3) m_yX0_clear b_135 (ci := 0) rfl rfl rfl hP hD hS hA [2, 3, 4, 5, 6] [0, 1] rfl (by decide) rfl (by decide) (by decide) rfl hl.1 rfl (Nat.le_of_ble_eq_true rfl) dX1_readDesk_14 ⟨(Nat.le_of_ble_eq_true rfl), (Nat.le_of_ble_eq_true rfl)⟩ ⟨(Nat.le_of_ble_eq_true rfl), (Nat.le_of_ble_eq_true rfl)⟩ (fun u1 H locs _ hP hD hS => ?_)
  have hP : va_P g.1 vwCl [(h0, .inr (1, [.ref t0, .ref k0, .int 0, .int (-1), .int 0])), (t0, .inr (9, [.ref b0, .int 0, .int 0, .int 0, .int 0, .int 0])), (k0, .inr (0, [.int 0, .int 0, .int 0, .int 0, .int 0, .int 0, .int 0, .int 0, .int 0, .int 0, .ref v0, .ref v1, .ref v2, .ref v3, .ref v4, .ref v5, .ref v6, .ref v7, .ref v8, .ref v9])), (v9, .inr (3, [.ref x0, .ref x1, .ref x2, .int 0])), (v0, .inl (g.2 0, 8, .inl (u1 0))), (v2, .inl (g.2 0, 4, .inl (u1 1))), (v3, .inl (g.2 0, 4, .inl (u1 2)))] H := hP
  have hD : va_D A [(h0, .inr (1, [.ref t0, .ref k0, .int 0, .int (-1), .int 0])), (t0, .inr (9, [.ref b0, .int 0, .int 0, .int 0, .int 0, .int 0])), (k0, .inr (0, [.int 0, .int 0, .int 0, .int 0, .int 0, .int 0, .int 0, .int 0, .int 0, .int 0, .ref v0, .ref v1, .ref v2, .ref v3, .ref v4, .ref v5, .ref v6, .ref v7, .ref v8, .ref v9])), (v9, .inr (3, [.ref x0, .ref x1, .ref x2, .int 0])), (v0, .inl (g.2 0, 8, .inl (u1 0))), (v2, .inl (g.2 0, 4, .inl (u1 1))), (v3, .inl (g.2 0, 4, .inl (u1 2)))] := hD
  refine W.eq (g2 := F0 m 17 ls []) rfl ?_
  refine lv_aload_n hx hb dX1_readDesk_17 rfl (lv_at hl 0 rfl) ?_
  refine g_get (C := RX1) (T := TX1) (N := 5) (ci := 1) (v := .ref t0) FC hKn hP i_X1 0 rfl rfl 0 (by decide) b_136 rfl dX1_readDesk_18 ?_
  refine call_VN (As := []) (rest := []) (wr := [(h0, .inr (1, [.ref t0, .ref k0, .int 0, .int (-1), .int 0])), (k0, .inr (0, [.int 0, .int 0, .int 0, .int 0, .int 0, .int 0, .int 0, .int 0, .int 0, .int 0, .ref v0, .ref v1, .ref v2, .ref v3, .ref v4, .ref v5, .ref v6, .ref v7, .ref v8, .ref v9])), (v9, .inr (3, [.ref x0, .ref x1, .ref x2, .int 0])), (v0, .inl (g.2 0, 8, .inl (u1 0))), (v2, .inl (g.2 0, 4, .inl (u1 1))), (v3, .inl (g.2 0, 4, .inl (u1 2)))]) FC hKn (c_X9_rewind l g t0 b0) m_yX9_rewind b_137 (ci := 9) rfl rfl rfl hP hD hS hA [1] [0, 2, 3, 4, 5, 6] rfl (by decide) rfl (by decide) (by decide) rfl hl.1 rfl (Nat.le_of_ble_eq_true rfl) dX1_readDesk_21 ⟨(Nat.le_of_ble_eq_true rfl), (Nat.le_of_ble_eq_true rfl)⟩ ⟨(Nat.le_of_ble_eq_true rfl), (Nat.le_of_ble_eq_true rfl)⟩ (fun u2 H locs _ hP hD hS => ?_)
  have hP : va_P g.1 vwCl [(h0, .inr (1, [.ref t0, .ref k0, .int 0, .int (-1), .int 0])), (k0, .inr (0, [.int 0, .int 0, .int 0, .int 0, .int 0, .int 0, .int 0, .int 0, .int 0, .int 0, .ref v0, .ref v1, .ref v2, .ref v3, .ref v4, .ref v5, .ref v6, .ref v7, .ref v8, .ref v9])), (v9, .inr (3, [.ref x0, .ref x1, .ref x2, .int 0])), (v0, .inl (g.2 0, 8, .inl (u1 0))), (v2, .inl (g.2 0, 4, .inl (u1 1))), (v3, .inl (g.2 0, 4, .inl (u1 2))), (t0, .inr (9, [.ref b0, .int 0, .int 0, .int 0, .int 0, .int 0]))] H := hP
  have hD : va_D A [(h0, .inr (1, [.ref t0, .ref k0, .int 0, .int (-1), .int 0])), (k0, .inr (0, [.int 0, .int 0, .int 0, .int 0, .int 0, .int 0, .int 0, .int 0, .int 0, .int 0, .ref v0, .ref v1, .ref v2, .ref v3, .ref v4, .ref v5, .ref v6, .ref v7, .ref v8, .ref v9])), (v9, .inr (3, [.ref x0, .ref x1, .ref x2, .int 0])), (v0, .inl (g.2 0, 8, .inl (u1 0))), (v2, .inl (g.2 0, 4, .inl (u1 1))), (v3, .inl (g.2 0, 4, .inl (u1 2))), (t0, .inr (9, [.ref b0, .int 0, .int 0, .int 0, .int 0, .int 0]))] := hD
  refine W.eq (g2 := F0 m 24 ls []) rfl ?_
  refine lv_iconst (v := 0) hx hb dX1_readDesk_24 (by decide) ?_
  refine lv_istore_n (lv' := [(1, .int 0), (0, .ref h0)]) hx hb dX1_readDesk_25 rfl hl (by decide) rfl (fun ls hl => ?_)
  refine lv_iload_n hx hb dX1_readDesk_26 rfl (lv_at hl 0 rfl) ?_
  refine lv_sipush (v := 900) hx hb dX1_readDesk_27 (by decide) ?_
  refine lv_icmp_ge (tgt := 78) hx hb dX1_readDesk_30 (by decide) (fun h => absurd h (by decide)) (fun _ => ?_)
  refine lv_aload_n hx hb dX1_readDesk_33 rfl (lv_at hl 1 rfl) ?_
  refine g_get (C := RX1) (T := TX1) (N := 5) (ci := 1) (v := .ref t0) FC hKn hP i_X1 0 rfl rfl 0 (by decide) b_136 rfl dX1_readDesk_34 ?_
  refine g_getN (C := RX9) (T := TX9) (N := 6) (ci := 9) (v := .int 0) FC hKn hP i_X9 6 rfl rfl 2 (by decide) b_138 rfl dX1_readDesk_37 ?_
  refine lv_if_eq (tgt := 78) hx hb dX1_readDesk_40 (by decide) (fun _ => ?_) (fun h => absurd h (by decide))
  refine lv_iconst (v := 1) hx hb dX1_readDesk_78 (by decide) ?_
  exact rt_z FX rfl (fun k => match k with | 0 => u1 0 | 1 => u1 1 | _ => u1 2) rfl trivial (hP.sub [0, 6, 1, 2, 3, 4, 5] rfl) (hD.sub [0, 6, 1, 2, 3, 4, 5] (by decide) rfl) hS (Nat.le_of_ble_eq_true rfl) (Nat.le_of_ble_eq_true rfl) dX1_readDesk_79
