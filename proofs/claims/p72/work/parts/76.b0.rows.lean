set_option maxRecDepth 100000 in
set_option maxHeartbeats 4000000 in
theorem k_X12_image (l : Launch) (g : GG) (h0 : Nat) (a1 : Nat) (a2 : Nat) (a3 : Nat) (a4 : Nat) (a6 : Nat) (a14 : Nat) (a15 : Nat) (a19 : Nat) (a20 : Nat) (a23 : Nat) (a24 : Nat) (a25 : Nat) (a26 : Nat) (a27 : Nat) (a28 : Nat) (mthrown : Int32) (mtaped : Int32) (msize : Int32) (mat : Int32) (mfrom : Int32) (mtoken : Int32) (mvalue : Int32) (mfaultKind : Int32) (mfaultPlace : Int32) (mgoal : Int32) (mgoalDays : Int32) (mgoalHearer : Int32) (mleastOrder : Int32) (mwordsMany : Int32) (mworld : Nat → Int32) (mimages : Nat → Int32) (mhasImage : Nat → Int32) (p1 : Int32) (i_mtaped : 0 ≤ mtaped.toInt ∧ mtaped.toInt ≤ 900) (i_msize : 0 ≤ msize.toInt ∧ msize.toInt ≤ 900) (i_mat : 0 ≤ mat.toInt ∧ mat.toInt ≤ 900) (i_mfrom : 0 ≤ mfrom.toInt ∧ mfrom.toInt ≤ 900) (i_mtoken : 0 ≤ mtoken.toInt ∧ mtoken.toInt ≤ 4) (i_mvalue : 0 ≤ mvalue.toInt ∧ mvalue.toInt ≤ 99999) (i_mgoalHearer : 0 ≤ mgoalHearer.toInt ∧ mgoalHearer.toInt ≤ 3) (i_mwordsMany : 0 ≤ mwordsMany.toInt ∧ mwordsMany.toInt ≤ 10) (i_mworld : wod mworld) (i_mimages : imok mimages) : Ct l g yX12_image cX12_image 3 (some .int) { frames := 1, cells := 0, slots := 0, locals := 25 } [.ref h0, .int p1] [(h0, .inr (12, [.int mthrown, .ref a1, .ref a2, .ref a3, .ref a4, .int mtaped, .ref a6, .int msize, .int mat, .int mfrom, .int mtoken, .int mvalue, .int mfaultKind, .int mfaultPlace, .ref a14, .ref a15, .int mgoal, .int mgoalDays, .int mgoalHearer, .ref a19, .ref a20, .int mleastOrder, .int mwordsMany, .ref a23, .ref a24, .ref a25, .ref a26, .ref a27, .ref a28])), (a1, .inl (g.2 0, 225, .inl mworld)), (a2, .inl (g.2 0, 675, .inl mimages)), (a3, .inl (g.2 2, 3, .inl mhasImage))] (S := (Nat → Int32) × (Nat → Nat → Int32) × (Nat → Nat → Int64)) (fun u => some (.int (u.1 0))) (fun u => (imok (u.2.1 0)) ∧ (((0 ≤ p1.toInt ∧ p1.toInt ≤ 2) ∧ (u.1 0).toInt = 0) ∨ ((p1.toInt < 0 ∨ 2 < p1.toInt) ∧ (u.1 0).toInt = -2)) ∧ ((((u.1 0).toInt = 0 ∧ p1.toInt = 0) ∧ ((u.2.1 1) 0).toInt = 1) ∨ (((u.1 0).toInt ≠ 0 ∨ p1.toInt ≠ 0) ∧ ((u.2.1 1) 0).toInt = (mhasImage 0).toInt)) ∧ ((((u.1 0).toInt = 0 ∧ p1.toInt = 1) ∧ ((u.2.1 1) 1).toInt = 1) ∨ (((u.1 0).toInt ≠ 0 ∨ p1.toInt ≠ 1) ∧ ((u.2.1 1) 1).toInt = (mhasImage 1).toInt)) ∧ ((((u.1 0).toInt = 0 ∧ p1.toInt = 2) ∧ ((u.2.1 1) 2).toInt = 1) ∨ (((u.1 0).toInt ≠ 0 ∨ p1.toInt ≠ 2) ∧ ((u.2.1 1) 2).toInt = (mhasImage 2).toInt))) (fun u => [(h0, .inr (12, [.int mthrown, .ref a1, .ref a2, .ref a3, .ref a4, .int mtaped, .ref a6, .int msize, .int mat, .int mfrom, .int mtoken, .int mvalue, .int mfaultKind, .int mfaultPlace, .ref a14, .ref a15, .int mgoal, .int mgoalDays, .int mgoalHearer, .ref a19, .ref a20, .int mleastOrder, .int mwordsMany, .ref a23, .ref a24, .ref a25, .ref a26, .ref a27, .ref a28])), (a1, .inl (g.2 0, 225, .inl mworld)), (a2, .inl (g.2 0, 675, .inl (u.2.1 0))), (a3, .inl (g.2 2, 3, .inl (u.2.1 1)))]) := by
  refine Ct.of (by decide) (Nat.le_of_ble_eq_true rfl) ?_
  intro p e s m below meth c A ls FX hP hD hS hl
  obtain ⟨FC, hr, hlk, hKn, hA, hnm, hZ⟩ := id FX
  have FC : CallFix p m c cX12_image 3 s _ BIG RX12 := FC
  obtain ⟨hx, hb, hml, hown, hB⟩ := id FC
  have hl : lv_has ls 3 [(0, .ref h0), (1, .int p1)] := hl
  refine lv_iload_n hx hb dX12_image_0 rfl (lv_at hl 1 rfl) ?_
  refine lv_i2l (v := p1.toInt64) hx hb dX12_image_1 rfl ?_
  refine lv_topl (fun z1 e_z1 => ?_)
  have t_z1 : z1.toInt = p1.toInt := by rw [e_z1]; exact Int32.toInt_toInt64 _
  refine lv_lconst (v := 0) hx hb dX12_image_2 (by decide) ?_
  refine lv_ldc2 hx hb hown (hB _ b_883) dX12_image_3 ?_
  have kcl0 : (0 : Int64).toInt = 0 := by decide
  have kcl2 : (2 : Int64).toInt = 2 := by decide
  refine call_S (As := [.long z1, .long 0, .long 2]) (rest := []) (wr := [(h0, .inr (12, [.int mthrown, .ref a1, .ref a2, .ref a3, .ref a4, .int mtaped, .ref a6, .int msize, .int mat, .int mfrom, .int mtoken, .int mvalue, .int mfaultKind, .int mfaultPlace, .ref a14, .ref a15, .int mgoal, .int mgoalDays, .int mgoalHearer, .ref a19, .ref a20, .int mleastOrder, .int mwordsMany, .ref a23, .ref a24, .ref a25, .ref a26, .ref a27, .ref a28])), (a1, .inl (g.2 0, 225, .inl mworld)), (a2, .inl (g.2 0, 675, .inl mimages)), (a3, .inl (g.2 2, 3, .inl mhasImage))]) FC hKn hZ (k_X12_in l g z1 ((0 : Int64)) ((2 : Int64))) m_yX12_in b_802 hP hD hS hA [] [0, 1, 2, 3] rfl (by decide) rfl (by decide) (by decide) rfl hl.1 rfl (Nat.le_of_ble_eq_true rfl) dX12_image_6 ⟨(Nat.le_of_ble_eq_true rfl), (Nat.le_of_ble_eq_true rfl)⟩ ⟨(Nat.le_of_ble_eq_true rfl), (Nat.le_of_ble_eq_true rfl)⟩ (fun u2 H locs q3 hP hD hS => ?_)
  obtain ⟨q3_0, q3_1, q3_2⟩ := q3
  have hP : va_P g.1 vwCl [(h0, .inr (12, [.int mthrown, .ref a1, .ref a2, .ref a3, .ref a4, .int mtaped, .ref a6, .int msize, .int mat, .int mfrom, .int mtoken, .int mvalue, .int mfaultKind, .int mfaultPlace, .ref a14, .ref a15, .int mgoal, .int mgoalDays, .int mgoalHearer, .ref a19, .ref a20, .int mleastOrder, .int mwordsMany, .ref a23, .ref a24, .ref a25, .ref a26, .ref a27, .ref a28])), (a1, .inl (g.2 0, 225, .inl mworld)), (a2, .inl (g.2 0, 675, .inl mimages)), (a3, .inl (g.2 2, 3, .inl mhasImage))] H := hP
  have hD : va_D A [(h0, .inr (12, [.int mthrown, .ref a1, .ref a2, .ref a3, .ref a4, .int mtaped, .ref a6, .int msize, .int mat, .int mfrom, .int mtoken, .int mvalue, .int mfaultKind, .int mfaultPlace, .ref a14, .ref a15, .int mgoal, .int mgoalDays, .int mgoalHearer, .ref a19, .ref a20, .int mleastOrder, .int mwordsMany, .ref a23, .ref a24, .ref a25, .ref a26, .ref a27, .ref a28])), (a1, .inl (g.2 0, 225, .inl mworld)), (a2, .inl (g.2 0, 675, .inl mimages)), (a3, .inl (g.2 2, 3, .inl mhasImage))] := hD
  refine W.eq (g2 := F0 m 9 ls [.int (u2.1 0)]) rfl ?_
  rcases (show (u2.1 0).toInt = 0 ∨ (u2.1 0).toInt = 1 by omega) with c4 | c4
  · skip
    refine lv_if_ne (tgt := 15) hx hb dX12_image_9 (by decide) (fun c5 => ?_) (fun c5 => ?_)
    · have c5 := k_ne (a := (u2.1 0).toInt) (b := 0) rfl (by decide) c5
      exfalso; omega
    · have c5 := k_eq (a := (u2.1 0).toInt) (b := 0) rfl (by decide) c5
      refine lv_bipush (v := -2) hx hb dX12_image_12 (by decide) ?_
      have kcm2 : (-2 : Int32).toInt = -2 := by decide
      exact rt_i FX ((fun k => match k with | 0 => (-2 : Int32) | _ => 0), (fun k => match k with | 0 => mimages | 1 => mhasImage | _ => fun _ => 0), (fun _ => fun _ => 0)) rfl ⟨i_mimages, (show ((0 ≤ p1.toInt ∧ p1.toInt ≤ 2) ∧ ((-2 : Int32)).toInt = 0) ∨ ((p1.toInt < 0 ∨ 2 < p1.toInt) ∧ ((-2 : Int32)).toInt = -2) from (by omega)), (show ((((-2 : Int32)).toInt = 0 ∧ p1.toInt = 0) ∧ ((mhasImage) 0).toInt = 1) ∨ ((((-2 : Int32)).toInt ≠ 0 ∨ p1.toInt ≠ 0) ∧ ((mhasImage) 0).toInt = (mhasImage 0).toInt) from (by omega)), (show ((((-2 : Int32)).toInt = 0 ∧ p1.toInt = 1) ∧ ((mhasImage) 1).toInt = 1) ∨ ((((-2 : Int32)).toInt ≠ 0 ∨ p1.toInt ≠ 1) ∧ ((mhasImage) 1).toInt = (mhasImage 1).toInt) from (by omega)), (show ((((-2 : Int32)).toInt = 0 ∧ p1.toInt = 2) ∧ ((mhasImage) 2).toInt = 1) ∨ ((((-2 : Int32)).toInt ≠ 0 ∨ p1.toInt ≠ 2) ∧ ((mhasImage) 2).toInt = (mhasImage 2).toInt) from (by omega))⟩ (hP.sub [0, 1, 2, 3] rfl) (hD.sub [0, 1, 2, 3] (by decide) rfl) hS (Nat.le_of_ble_eq_true rfl) (Nat.le_of_ble_eq_true rfl) dX12_image_14
  · have c4_r := q3_2 c4
    refine lv_if_ne (tgt := 15) hx hb dX12_image_9 (by decide) (fun c6 => ?_) (fun c6 => ?_)
    · have c6 := k_ne (a := (u2.1 0).toInt) (b := 0) rfl (by decide) c6
      refine lv_iconst (v := 0) hx hb dX12_image_15 (by decide) ?_
      refine lv_istore_n (lv' := [(2, .int 0), (0, .ref h0), (1, .int p1)]) hx hb dX12_image_16 rfl hl (by decide) rfl (fun ls hl => ?_)
      have lp73 : ∀ (n75 : Nat) (x70 : Int32) (x71 : Nat → Int32) (H : Heap) (locs : List Loc) (ls : Array Slot), 0 ≤ x70.toInt ∧ x70.toInt ≤ 225 → (cf x71 mworld (225 * p1.toInt.toNat) 0 x70.toInt.toNat ∧ co x71 mimages (225 * p1.toInt.toNat)) → (225 - x70.toInt).toNat < n75 → va_P g.1 vwCl [(h0, .inr (12, [.int mthrown, .ref a1, .ref a2, .ref a3, .ref a4, .int mtaped, .ref a6, .int msize, .int mat, .int mfrom, .int mtoken, .int mvalue, .int mfaultKind, .int mfaultPlace, .ref a14, .ref a15, .int mgoal, .int mgoalDays, .int mgoalHearer, .ref a19, .ref a20, .int mleastOrder, .int mwordsMany, .ref a23, .ref a24, .ref a25, .ref a26, .ref a27, .ref a28])), (a1, .inl (g.2 0, 225, .inl mworld)), (a2, .inl (g.2 0, 675, .inl x71)), (a3, .inl (g.2 2, 3, .inl mhasImage))] H → va_D A [(h0, .inr (12, [.int mthrown, .ref a1, .ref a2, .ref a3, .ref a4, .int mtaped, .ref a6, .int msize, .int mat, .int mfrom, .int mtoken, .int mvalue, .int mfaultKind, .int mfaultPlace, .ref a14, .ref a15, .int mgoal, .int mgoalDays, .int mgoalHearer, .ref a19, .ref a20, .int mleastOrder, .int mwordsMany, .ref a23, .ref a24, .ref a25, .ref a26, .ref a27, .ref a28])), (a1, .inl (g.2 0, 225, .inl mworld)), (a2, .inl (g.2 0, 675, .inl x71)), (a3, .inl (g.2 2, 3, .inl mhasImage))] → va_S A s.heap H locs → lv_has ls 3 [(2, .int x70), (0, .ref h0), (1, .int p1)] → W p l e { frames := 1, cells := 0, slots := 0, locals := 25 } s m ([.ref h0, .int p1].toArray) below meth c H locs 0 0 (MQ below (QX (S := (Nat → Int32) × (Nat → Nat → Int32) × (Nat → Nat → Int64)) (fun u => some (.int (u.1 0))) (fun u => (imok (u.2.1 0)) ∧ (((0 ≤ p1.toInt ∧ p1.toInt ≤ 2) ∧ (u.1 0).toInt = 0) ∨ ((p1.toInt < 0 ∨ 2 < p1.toInt) ∧ (u.1 0).toInt = -2)) ∧ ((((u.1 0).toInt = 0 ∧ p1.toInt = 0) ∧ ((u.2.1 1) 0).toInt = 1) ∨ (((u.1 0).toInt ≠ 0 ∨ p1.toInt ≠ 0) ∧ ((u.2.1 1) 0).toInt = (mhasImage 0).toInt)) ∧ ((((u.1 0).toInt = 0 ∧ p1.toInt = 1) ∧ ((u.2.1 1) 1).toInt = 1) ∨ (((u.1 0).toInt ≠ 0 ∨ p1.toInt ≠ 1) ∧ ((u.2.1 1) 1).toInt = (mhasImage 1).toInt)) ∧ ((((u.1 0).toInt = 0 ∧ p1.toInt = 2) ∧ ((u.2.1 1) 2).toInt = 1) ∨ (((u.1 0).toInt ≠ 0 ∨ p1.toInt ≠ 2) ∧ ((u.2.1 1) 2).toInt = (mhasImage 2).toInt))) g (fun u => [(h0, .inr (12, [.int mthrown, .ref a1, .ref a2, .ref a3, .ref a4, .int mtaped, .ref a6, .int msize, .int mat, .int mfrom, .int mtoken, .int mvalue, .int mfaultKind, .int mfaultPlace, .ref a14, .ref a15, .int mgoal, .int mgoalDays, .int mgoalHearer, .ref a19, .ref a20, .int mleastOrder, .int mwordsMany, .ref a23, .ref a24, .ref a25, .ref a26, .ref a27, .ref a28])), (a1, .inl (g.2 0, 225, .inl mworld)), (a2, .inl (g.2 0, 675, .inl (u.2.1 0))), (a3, .inl (g.2 2, 3, .inl (u.2.1 1)))]) A) ([.ref h0, .int p1].toArray) s 0 0 A) (F0 m 17 ls []) := by
        intro n75
        induction n75 with
        | zero =>
          intro x70 x71 H locs ls h_x70 hi72 hn76
          exact absurd hn76 (Nat.not_lt_zero _)
        | succ n75 ih74 =>
          intro x70 x71 H locs ls h_x70 hi72 hn76 hP hD hS hl
          refine lv_iload_n hx hb dX12_image_17 rfl (lv_at hl 0 rfl) ?_
          refine lv_sipush (v := 225) hx hb dX12_image_18 (by decide) ?_
          refine lv_icmp_ge (tgt := 48) hx hb dX12_image_21 (by decide) (fun c77 => ?_) (fun c77 => ?_)
          · have c77 := k_le (a := 225) (b := x70.toInt) (by decide) rfl c77
            have im78 : imok x71 := im_n i_mimages i_mworld (by have q9 := hi72.1; rw [show x70.toInt.toNat = 225 by omega] at q9; exact q9) hi72.2
            refine lv_aload_n hx hb dX12_image_48 rfl (lv_at hl 1 rfl) ?_
            refine g_get (C := RX12) (T := TX12) (N := 29) (ci := 12) (v := .ref a3) FC hKn hP i_X12 0 rfl rfl 3 (by decide) b_1103 rfl dX12_image_49 ?_
            refine lv_iload_n hx hb dX12_image_52 rfl (lv_at hl 2 rfl) ?_
            refine lv_iconst (v := 1) hx hb dX12_image_53 (by decide) ?_
            refine va_zast hx hb hKn.1 hP hD hS 3 2 rfl rfl (vp_in_iff.mpr ⟨by omega, by omega⟩) dX12_image_54 (fun H locs hP hD hS => ?_)
            have hP : va_P g.1 vwCl [(h0, .inr (12, [.int mthrown, .ref a1, .ref a2, .ref a3, .ref a4, .int mtaped, .ref a6, .int msize, .int mat, .int mfrom, .int mtoken, .int mvalue, .int mfaultKind, .int mfaultPlace, .ref a14, .ref a15, .int mgoal, .int mgoalDays, .int mgoalHearer, .ref a19, .ref a20, .int mleastOrder, .int mwordsMany, .ref a23, .ref a24, .ref a25, .ref a26, .ref a27, .ref a28])), (a1, .inl (g.2 0, 225, .inl mworld)), (a2, .inl (g.2 0, 675, .inl x71)), (a3, .inl (g.2 2, 3, .inl (upd mhasImage (p1.toNatClampNeg) (vp_nar .boolean 1))))] H := hP
            have hD : va_D A [(h0, .inr (12, [.int mthrown, .ref a1, .ref a2, .ref a3, .ref a4, .int mtaped, .ref a6, .int msize, .int mat, .int mfrom, .int mtoken, .int mvalue, .int mfaultKind, .int mfaultPlace, .ref a14, .ref a15, .int mgoal, .int mgoalDays, .int mgoalHearer, .ref a19, .ref a20, .int mleastOrder, .int mwordsMany, .ref a23, .ref a24, .ref a25, .ref a26, .ref a27, .ref a28])), (a1, .inl (g.2 0, 225, .inl mworld)), (a2, .inl (g.2 0, 675, .inl x71)), (a3, .inl (g.2 2, 3, .inl (upd mhasImage (p1.toNatClampNeg) (vp_nar .boolean 1))))] := hD
            generalize E_f79 : (upd mhasImage (p1.toNatClampNeg) (vp_nar .boolean 1) : Nat → Int32) = f79 at hP hD
            have kc1 : (1 : Int32).toInt = 1 := by decide
            have g_f79_0 : (p1.toInt = 0 ∧ (f79 0).toInt = ((1 : Int32)).toInt) ∨ (p1.toInt ≠ 0 ∧ (f79 0).toInt = (mhasImage 0).toInt) := by rw [← E_f79]; exact updc (k := 0) (by omega)
            have g_f79_1 : (p1.toInt = 1 ∧ (f79 1).toInt = ((1 : Int32)).toInt) ∨ (p1.toInt ≠ 1 ∧ (f79 1).toInt = (mhasImage 1).toInt) := by rw [← E_f79]; exact updc (k := 1) (by omega)
            have g_f79_2 : (p1.toInt = 2 ∧ (f79 2).toInt = ((1 : Int32)).toInt) ∨ (p1.toInt ≠ 2 ∧ (f79 2).toInt = (mhasImage 2).toInt) := by rw [← E_f79]; exact updc (k := 2) (by omega)
            refine lv_iconst (v := 0) hx hb dX12_image_55 (by decide) ?_
            have kc0 : (0 : Int32).toInt = 0 := by decide
            exact rt_i FX ((fun k => match k with | 0 => (0 : Int32) | _ => 0), (fun k => match k with | 0 => x71 | 1 => f79 | _ => fun _ => 0), (fun _ => fun _ => 0)) rfl ⟨im78, (show ((0 ≤ p1.toInt ∧ p1.toInt ≤ 2) ∧ ((0 : Int32)).toInt = 0) ∨ ((p1.toInt < 0 ∨ 2 < p1.toInt) ∧ ((0 : Int32)).toInt = -2) from (by omega)), (show ((((0 : Int32)).toInt = 0 ∧ p1.toInt = 0) ∧ ((f79) 0).toInt = 1) ∨ ((((0 : Int32)).toInt ≠ 0 ∨ p1.toInt ≠ 0) ∧ ((f79) 0).toInt = (mhasImage 0).toInt) from (by omega)), (show ((((0 : Int32)).toInt = 0 ∧ p1.toInt = 1) ∧ ((f79) 1).toInt = 1) ∨ ((((0 : Int32)).toInt ≠ 0 ∨ p1.toInt ≠ 1) ∧ ((f79) 1).toInt = (mhasImage 1).toInt) from (by omega)), (show ((((0 : Int32)).toInt = 0 ∧ p1.toInt = 2) ∧ ((f79) 2).toInt = 1) ∨ ((((0 : Int32)).toInt ≠ 0 ∨ p1.toInt ≠ 2) ∧ ((f79) 2).toInt = (mhasImage 2).toInt) from (by omega))⟩ (hP.sub [0, 1, 2, 3] rfl) (hD.sub [0, 1, 2, 3] (by decide) rfl) hS (Nat.le_of_ble_eq_true rfl) (Nat.le_of_ble_eq_true rfl) dX12_image_56
          · have c77 := k_nle (a := 225) (b := x70.toInt) (by decide) rfl c77
            refine lv_aload_n hx hb dX12_image_24 rfl (lv_at hl 1 rfl) ?_
            refine g_get (C := RX12) (T := TX12) (N := 29) (ci := 12) (v := .ref a2) FC hKn hP i_X12 0 rfl rfl 2 (by decide) b_1102 rfl dX12_image_25 ?_
            refine lv_sipush (v := 225) hx hb dX12_image_28 (by decide) ?_
            refine lv_iload_n hx hb dX12_image_31 rfl (lv_at hl 2 rfl) ?_
            refine lv_imul hx hb dX12_image_32 ?_
            have kc225 : (225 : Int32).toInt = 225 := by decide
            refine lv_topi (fun z80 e_z80 => ?_)
            have t_z80 : z80.toInt = 225 * p1.toInt := by rw [e_z80, fb_mulI (by rw [show (225 : Int32).toInt = 225 by decide]; omega) (by rw [show (225 : Int32).toInt = 225 by decide]; omega), show (225 : Int32).toInt = 225 by decide]
            refine lv_iload_n hx hb dX12_image_33 rfl (lv_at hl 0 rfl) ?_
            refine lv_iadd hx hb dX12_image_34 ?_
            refine lv_topi (fun z81 e_z81 => ?_)
            have t_z81 : z81.toInt = z80.toInt + x70.toInt := by rw [e_z81]; exact fb_addI (by omega) (by omega)
            refine lv_aload_n hx hb dX12_image_35 rfl (lv_at hl 1 rfl) ?_
            refine g_get (C := RX12) (T := TX12) (N := 29) (ci := 12) (v := .ref a1) FC hKn hP i_X12 0 rfl rfl 1 (by decide) b_801 rfl dX12_image_36 ?_
            refine lv_iload_n hx hb dX12_image_39 rfl (lv_at hl 0 rfl) ?_
            refine va_iald hx hb hKn.1 hP 1 0 rfl rfl (vp_in_iff.mpr ⟨by omega, by omega⟩) dX12_image_40 ?_
            refine lv_topi (fun z82 e_z82 => ?_)
            have q_z82 : z82.toInt = (mworld x70.toNatClampNeg).toInt := by rw [e_z82]
            refine va_iast hx hb hKn.1 hP hD hS 2 0 rfl rfl (vp_in_iff.mpr ⟨by omega, by omega⟩) dX12_image_41 (fun H locs hP hD hS => ?_)
            have hP : va_P g.1 vwCl [(h0, .inr (12, [.int mthrown, .ref a1, .ref a2, .ref a3, .ref a4, .int mtaped, .ref a6, .int msize, .int mat, .int mfrom, .int mtoken, .int mvalue, .int mfaultKind, .int mfaultPlace, .ref a14, .ref a15, .int mgoal, .int mgoalDays, .int mgoalHearer, .ref a19, .ref a20, .int mleastOrder, .int mwordsMany, .ref a23, .ref a24, .ref a25, .ref a26, .ref a27, .ref a28])), (a1, .inl (g.2 0, 225, .inl mworld)), (a2, .inl (g.2 0, 675, .inl (upd x71 (z81.toNatClampNeg) z82))), (a3, .inl (g.2 2, 3, .inl mhasImage))] H := hP
            have hD : va_D A [(h0, .inr (12, [.int mthrown, .ref a1, .ref a2, .ref a3, .ref a4, .int mtaped, .ref a6, .int msize, .int mat, .int mfrom, .int mtoken, .int mvalue, .int mfaultKind, .int mfaultPlace, .ref a14, .ref a15, .int mgoal, .int mgoalDays, .int mgoalHearer, .ref a19, .ref a20, .int mleastOrder, .int mwordsMany, .ref a23, .ref a24, .ref a25, .ref a26, .ref a27, .ref a28])), (a1, .inl (g.2 0, 225, .inl mworld)), (a2, .inl (g.2 0, 675, .inl (upd x71 (z81.toNatClampNeg) z82))), (a3, .inl (g.2 2, 3, .inl mhasImage))] := hD
            generalize E_f83 : (upd x71 (z81.toNatClampNeg) z82 : Nat → Int32) = f83 at hP hD
            obtain ⟨z84, e_z84⟩ : ∃ y : Int32, y = x70 + 1 := ⟨_, rfl⟩
            have t_z84 : z84.toInt = x70.toInt + 1 := by rw [e_z84]; exact addk (by decide) (by omega) (by omega)
            refine lv_iinc (v := z84) (lv' := [(2, .int z84), (0, .ref h0), (1, .int p1)]) hx hb dX12_image_42 hl (k := 0) rfl (by rw [e_z84]; rfl) (by decide) rfl (fun ls hl => ?_)
            refine lv_goto (tgt := 17) hx hb dX12_image_45 (by decide) ?_
            exact ih74 z84 f83 _ _ ls (by omega) (by rw [← E_f83]; exact ⟨cf_s hi72.1 (n := x70.toInt.toNat) (by omega) (ixe (by omega)) (by rw [Nat.zero_add]; exact e_z82), co_s hi72.2 (by have := cln (x := z81) (by omega); omega) (by have := cln (x := z81) (by omega); omega)⟩) (by omega) hP hD hS (lv_sub hl [0, 1, 2] rfl)
      have kc0 : (0 : Int32).toInt = 0 := by decide
      exact lp73 _ (0 : Int32) mimages _ _ ls (by decide) (⟨fun j hj => absurd hj (by rw [show (0 : Int32).toInt = 0 by decide]; omega), fun _ _ => rfl⟩) (Nat.lt_succ_self _) hP hD hS (lv_sub hl [0, 1, 2] rfl)
    · have c6 := k_eq (a := (u2.1 0).toInt) (b := 0) rfl (by decide) c6
      exfalso; omega
set_option maxRecDepth 100000 in
set_option maxHeartbeats 4000000 in
theorem k_X12_back (l : Launch) (g : GG) (h0 : Nat) (a1 : Nat) (a2 : Nat) (a3 : Nat) (a4 : Nat) (a6 : Nat) (a14 : Nat) (a15 : Nat) (a19 : Nat) (a20 : Nat) (a23 : Nat) (a24 : Nat) (a25 : Nat) (a26 : Nat) (a27 : Nat) (a28 : Nat) (mthrown : Int32) (mtaped : Int32) (msize : Int32) (mat : Int32) (mfrom : Int32) (mtoken : Int32) (mvalue : Int32) (mfaultKind : Int32) (mfaultPlace : Int32) (mgoal : Int32) (mgoalDays : Int32) (mgoalHearer : Int32) (mleastOrder : Int32) (mwordsMany : Int32) (mworld : Nat → Int32) (mimages : Nat → Int32) (mhasImage : Nat → Int32) (p1 : Int32) (i_mtaped : 0 ≤ mtaped.toInt ∧ mtaped.toInt ≤ 900) (i_msize : 0 ≤ msize.toInt ∧ msize.toInt ≤ 900) (i_mat : 0 ≤ mat.toInt ∧ mat.toInt ≤ 900) (i_mfrom : 0 ≤ mfrom.toInt ∧ mfrom.toInt ≤ 900) (i_mtoken : 0 ≤ mtoken.toInt ∧ mtoken.toInt ≤ 4) (i_mvalue : 0 ≤ mvalue.toInt ∧ mvalue.toInt ≤ 99999) (i_mgoalHearer : 0 ≤ mgoalHearer.toInt ∧ mgoalHearer.toInt ≤ 3) (i_mwordsMany : 0 ≤ mwordsMany.toInt ∧ mwordsMany.toInt ≤ 10) (i_mworld : wod mworld) (i_mimages : imok mimages) : Ct l g yX12_back cX12_back 3 (some .int) { frames := 1, cells := 0, slots := 0, locals := 25 } [.ref h0, .int p1] [(h0, .inr (12, [.int mthrown, .ref a1, .ref a2, .ref a3, .ref a4, .int mtaped, .ref a6, .int msize, .int mat, .int mfrom, .int mtoken, .int mvalue, .int mfaultKind, .int mfaultPlace, .ref a14, .ref a15, .int mgoal, .int mgoalDays, .int mgoalHearer, .ref a19, .ref a20, .int mleastOrder, .int mwordsMany, .ref a23, .ref a24, .ref a25, .ref a26, .ref a27, .ref a28])), (a1, .inl (g.2 0, 225, .inl mworld)), (a2, .inl (g.2 0, 675, .inl mimages)), (a3, .inl (g.2 2, 3, .inl mhasImage))] (S := (Nat → Int32) × (Nat → Nat → Int32) × (Nat → Nat → Int64)) (fun u => some (.int (u.1 0))) (fun u => (wod (u.2.1 0)) ∧ (((p1.toInt < 0 ∨ 2 < p1.toInt) ∧ (u.1 0).toInt = -2) ∨ ((0 ≤ p1.toInt ∧ p1.toInt ≤ 2) ∧ (((mhasImage p1.toNatClampNeg).toInt = 0 ∧ (u.1 0).toInt = -6) ∨ ((mhasImage p1.toNatClampNeg).toInt ≠ 0 ∧ (u.1 0).toInt = 0))))) (fun u => [(h0, .inr (12, [.int mthrown, .ref a1, .ref a2, .ref a3, .ref a4, .int mtaped, .ref a6, .int msize, .int mat, .int mfrom, .int mtoken, .int mvalue, .int mfaultKind, .int mfaultPlace, .ref a14, .ref a15, .int mgoal, .int mgoalDays, .int mgoalHearer, .ref a19, .ref a20, .int mleastOrder, .int mwordsMany, .ref a23, .ref a24, .ref a25, .ref a26, .ref a27, .ref a28])), (a1, .inl (g.2 0, 225, .inl (u.2.1 0))), (a2, .inl (g.2 0, 675, .inl mimages)), (a3, .inl (g.2 2, 3, .inl mhasImage))]) := by
  refine Ct.of (by decide) (Nat.le_of_ble_eq_true rfl) ?_
  intro p e s m below meth c A ls FX hP hD hS hl
  obtain ⟨FC, hr, hlk, hKn, hA, hnm, hZ⟩ := id FX
  have FC : CallFix p m c cX12_back 3 s _ BIG RX12 := FC
  obtain ⟨hx, hb, hml, hown, hB⟩ := id FC
  have hl : lv_has ls 3 [(0, .ref h0), (1, .int p1)] := hl
  refine lv_iload_n hx hb dX12_back_0 rfl (lv_at hl 1 rfl) ?_
  refine lv_i2l (v := p1.toInt64) hx hb dX12_back_1 rfl ?_
  refine lv_topl (fun z1 e_z1 => ?_)
  have t_z1 : z1.toInt = p1.toInt := by rw [e_z1]; exact Int32.toInt_toInt64 _
  refine lv_lconst (v := 0) hx hb dX12_back_2 (by decide) ?_
  refine lv_ldc2 hx hb hown (hB _ b_883) dX12_back_3 ?_
  have kcl0 : (0 : Int64).toInt = 0 := by decide
  have kcl2 : (2 : Int64).toInt = 2 := by decide
  refine call_S (As := [.long z1, .long 0, .long 2]) (rest := []) (wr := [(h0, .inr (12, [.int mthrown, .ref a1, .ref a2, .ref a3, .ref a4, .int mtaped, .ref a6, .int msize, .int mat, .int mfrom, .int mtoken, .int mvalue, .int mfaultKind, .int mfaultPlace, .ref a14, .ref a15, .int mgoal, .int mgoalDays, .int mgoalHearer, .ref a19, .ref a20, .int mleastOrder, .int mwordsMany, .ref a23, .ref a24, .ref a25, .ref a26, .ref a27, .ref a28])), (a1, .inl (g.2 0, 225, .inl mworld)), (a2, .inl (g.2 0, 675, .inl mimages)), (a3, .inl (g.2 2, 3, .inl mhasImage))]) FC hKn hZ (k_X12_in l g z1 ((0 : Int64)) ((2 : Int64))) m_yX12_in b_802 hP hD hS hA [] [0, 1, 2, 3] rfl (by decide) rfl (by decide) (by decide) rfl hl.1 rfl (Nat.le_of_ble_eq_true rfl) dX12_back_6 ⟨(Nat.le_of_ble_eq_true rfl), (Nat.le_of_ble_eq_true rfl)⟩ ⟨(Nat.le_of_ble_eq_true rfl), (Nat.le_of_ble_eq_true rfl)⟩ (fun u2 H locs q3 hP hD hS => ?_)
  obtain ⟨q3_0, q3_1, q3_2⟩ := q3
  have hP : va_P g.1 vwCl [(h0, .inr (12, [.int mthrown, .ref a1, .ref a2, .ref a3, .ref a4, .int mtaped, .ref a6, .int msize, .int mat, .int mfrom, .int mtoken, .int mvalue, .int mfaultKind, .int mfaultPlace, .ref a14, .ref a15, .int mgoal, .int mgoalDays, .int mgoalHearer, .ref a19, .ref a20, .int mleastOrder, .int mwordsMany, .ref a23, .ref a24, .ref a25, .ref a26, .ref a27, .ref a28])), (a1, .inl (g.2 0, 225, .inl mworld)), (a2, .inl (g.2 0, 675, .inl mimages)), (a3, .inl (g.2 2, 3, .inl mhasImage))] H := hP
  have hD : va_D A [(h0, .inr (12, [.int mthrown, .ref a1, .ref a2, .ref a3, .ref a4, .int mtaped, .ref a6, .int msize, .int mat, .int mfrom, .int mtoken, .int mvalue, .int mfaultKind, .int mfaultPlace, .ref a14, .ref a15, .int mgoal, .int mgoalDays, .int mgoalHearer, .ref a19, .ref a20, .int mleastOrder, .int mwordsMany, .ref a23, .ref a24, .ref a25, .ref a26, .ref a27, .ref a28])), (a1, .inl (g.2 0, 225, .inl mworld)), (a2, .inl (g.2 0, 675, .inl mimages)), (a3, .inl (g.2 2, 3, .inl mhasImage))] := hD
  refine W.eq (g2 := F0 m 9 ls [.int (u2.1 0)]) rfl ?_
  rcases (show (u2.1 0).toInt = 0 ∨ (u2.1 0).toInt = 1 by omega) with c4 | c4
  · skip
    refine lv_if_ne (tgt := 15) hx hb dX12_back_9 (by decide) (fun c5 => ?_) (fun c5 => ?_)
    · have c5 := k_ne (a := (u2.1 0).toInt) (b := 0) rfl (by decide) c5
      exfalso; omega
    · have c5 := k_eq (a := (u2.1 0).toInt) (b := 0) rfl (by decide) c5
      refine lv_bipush (v := -2) hx hb dX12_back_12 (by decide) ?_
      have kcm2 : (-2 : Int32).toInt = -2 := by decide
      exact rt_i FX ((fun k => match k with | 0 => (-2 : Int32) | _ => 0), (fun k => match k with | 0 => mworld | _ => fun _ => 0), (fun _ => fun _ => 0)) rfl ⟨i_mworld, (show ((p1.toInt < 0 ∨ 2 < p1.toInt) ∧ ((-2 : Int32)).toInt = -2) ∨ ((0 ≤ p1.toInt ∧ p1.toInt ≤ 2) ∧ (((mhasImage p1.toNatClampNeg).toInt = 0 ∧ ((-2 : Int32)).toInt = -6) ∨ ((mhasImage p1.toNatClampNeg).toInt ≠ 0 ∧ ((-2 : Int32)).toInt = 0))) by omega)⟩ (hP.sub [0, 1, 2, 3] rfl) (hD.sub [0, 1, 2, 3] (by decide) rfl) hS (Nat.le_of_ble_eq_true rfl) (Nat.le_of_ble_eq_true rfl) dX12_back_14
  · have c4_r := q3_2 c4
    refine lv_if_ne (tgt := 15) hx hb dX12_back_9 (by decide) (fun c6 => ?_) (fun c6 => ?_)
    · have c6 := k_ne (a := (u2.1 0).toInt) (b := 0) rfl (by decide) c6
      refine lv_aload_n hx hb dX12_back_15 rfl (lv_at hl 0 rfl) ?_
      refine g_get (C := RX12) (T := TX12) (N := 29) (ci := 12) (v := .ref a3) FC hKn hP i_X12 0 rfl rfl 3 (by decide) b_1103 rfl dX12_back_16 ?_
      refine lv_iload_n hx hb dX12_back_19 rfl (lv_at hl 1 rfl) ?_
      refine va_zald hx hb hKn.1 hP 3 2 rfl rfl (vp_in_iff.mpr ⟨by omega, by omega⟩) dX12_back_20 ?_
      refine lv_topi (fun z7 e_z7 => ?_)
      have q_z7 : z7.toInt = (mhasImage p1.toNatClampNeg).toInt := by rw [e_z7]
      refine lv_if_ne (tgt := 27) hx hb dX12_back_21 (by decide) (fun c8 => ?_) (fun c8 => ?_)
      · have c8 := k_ne (a := z7.toInt) (b := 0) rfl (by decide) c8
        refine lv_iconst (v := 0) hx hb dX12_back_27 (by decide) ?_
        refine lv_istore_n (lv' := [(2, .int 0), (0, .ref h0), (1, .int p1)]) hx hb dX12_back_28 rfl hl (by decide) rfl (fun ls hl => ?_)
        have lp73 : ∀ (n75 : Nat) (x70 : Int32) (x71 : Nat → Int32) (H : Heap) (locs : List Loc) (ls : Array Slot), 0 ≤ x70.toInt ∧ x70.toInt ≤ 225 → cf x71 mimages 0 (225 * p1.toInt.toNat) x70.toInt.toNat → (225 - x70.toInt).toNat < n75 → va_P g.1 vwCl [(h0, .inr (12, [.int mthrown, .ref a1, .ref a2, .ref a3, .ref a4, .int mtaped, .ref a6, .int msize, .int mat, .int mfrom, .int mtoken, .int mvalue, .int mfaultKind, .int mfaultPlace, .ref a14, .ref a15, .int mgoal, .int mgoalDays, .int mgoalHearer, .ref a19, .ref a20, .int mleastOrder, .int mwordsMany, .ref a23, .ref a24, .ref a25, .ref a26, .ref a27, .ref a28])), (a1, .inl (g.2 0, 225, .inl x71)), (a2, .inl (g.2 0, 675, .inl mimages)), (a3, .inl (g.2 2, 3, .inl mhasImage))] H → va_D A [(h0, .inr (12, [.int mthrown, .ref a1, .ref a2, .ref a3, .ref a4, .int mtaped, .ref a6, .int msize, .int mat, .int mfrom, .int mtoken, .int mvalue, .int mfaultKind, .int mfaultPlace, .ref a14, .ref a15, .int mgoal, .int mgoalDays, .int mgoalHearer, .ref a19, .ref a20, .int mleastOrder, .int mwordsMany, .ref a23, .ref a24, .ref a25, .ref a26, .ref a27, .ref a28])), (a1, .inl (g.2 0, 225, .inl x71)), (a2, .inl (g.2 0, 675, .inl mimages)), (a3, .inl (g.2 2, 3, .inl mhasImage))] → va_S A s.heap H locs → lv_has ls 3 [(2, .int x70), (0, .ref h0), (1, .int p1)] → W p l e { frames := 1, cells := 0, slots := 0, locals := 25 } s m ([.ref h0, .int p1].toArray) below meth c H locs 0 0 (MQ below (QX (S := (Nat → Int32) × (Nat → Nat → Int32) × (Nat → Nat → Int64)) (fun u => some (.int (u.1 0))) (fun u => (wod (u.2.1 0)) ∧ (((p1.toInt < 0 ∨ 2 < p1.toInt) ∧ (u.1 0).toInt = -2) ∨ ((0 ≤ p1.toInt ∧ p1.toInt ≤ 2) ∧ (((mhasImage p1.toNatClampNeg).toInt = 0 ∧ (u.1 0).toInt = -6) ∨ ((mhasImage p1.toNatClampNeg).toInt ≠ 0 ∧ (u.1 0).toInt = 0))))) g (fun u => [(h0, .inr (12, [.int mthrown, .ref a1, .ref a2, .ref a3, .ref a4, .int mtaped, .ref a6, .int msize, .int mat, .int mfrom, .int mtoken, .int mvalue, .int mfaultKind, .int mfaultPlace, .ref a14, .ref a15, .int mgoal, .int mgoalDays, .int mgoalHearer, .ref a19, .ref a20, .int mleastOrder, .int mwordsMany, .ref a23, .ref a24, .ref a25, .ref a26, .ref a27, .ref a28])), (a1, .inl (g.2 0, 225, .inl (u.2.1 0))), (a2, .inl (g.2 0, 675, .inl mimages)), (a3, .inl (g.2 2, 3, .inl mhasImage))]) A) ([.ref h0, .int p1].toArray) s 0 0 A) (F0 m 29 ls []) := by
          intro n75
          induction n75 with
          | zero =>
            intro x70 x71 H locs ls h_x70 hi72 hn76
            exact absurd hn76 (Nat.not_lt_zero _)
          | succ n75 ih74 =>
            intro x70 x71 H locs ls h_x70 hi72 hn76 hP hD hS hl
            refine lv_iload_n hx hb dX12_back_29 rfl (lv_at hl 0 rfl) ?_
            refine lv_sipush (v := 225) hx hb dX12_back_30 (by decide) ?_
            refine lv_icmp_ge (tgt := 60) hx hb dX12_back_33 (by decide) (fun c77 => ?_) (fun c77 => ?_)
            · have c77 := k_le (a := 225) (b := x70.toInt) (by decide) rfl c77
              have im78 : wod x71 := wod_eq (i_mimages p1.toInt.toNat (by omega)) (fun j hj => by have q9 := hi72; rw [show x70.toInt.toNat = 225 by omega] at q9; have q8 := q9 j hj; rw [Nat.zero_add] at q8; exact q8)
              refine lv_iconst (v := 0) hx hb dX12_back_60 (by decide) ?_
              have kc0 : (0 : Int32).toInt = 0 := by decide
              exact rt_i FX ((fun k => match k with | 0 => (0 : Int32) | _ => 0), (fun k => match k with | 0 => x71 | _ => fun _ => 0), (fun _ => fun _ => 0)) rfl ⟨im78, (show ((p1.toInt < 0 ∨ 2 < p1.toInt) ∧ ((0 : Int32)).toInt = -2) ∨ ((0 ≤ p1.toInt ∧ p1.toInt ≤ 2) ∧ (((mhasImage p1.toNatClampNeg).toInt = 0 ∧ ((0 : Int32)).toInt = -6) ∨ ((mhasImage p1.toNatClampNeg).toInt ≠ 0 ∧ ((0 : Int32)).toInt = 0))) by omega)⟩ (hP.sub [0, 1, 2, 3] rfl) (hD.sub [0, 1, 2, 3] (by decide) rfl) hS (Nat.le_of_ble_eq_true rfl) (Nat.le_of_ble_eq_true rfl) dX12_back_61
            · have c77 := k_nle (a := 225) (b := x70.toInt) (by decide) rfl c77
              refine lv_aload_n hx hb dX12_back_36 rfl (lv_at hl 1 rfl) ?_
              refine g_get (C := RX12) (T := TX12) (N := 29) (ci := 12) (v := .ref a1) FC hKn hP i_X12 0 rfl rfl 1 (by decide) b_801 rfl dX12_back_37 ?_
              refine lv_iload_n hx hb dX12_back_40 rfl (lv_at hl 0 rfl) ?_
              refine lv_aload_n hx hb dX12_back_41 rfl (lv_at hl 1 rfl) ?_
              refine g_get (C := RX12) (T := TX12) (N := 29) (ci := 12) (v := .ref a2) FC hKn hP i_X12 0 rfl rfl 2 (by decide) b_1102 rfl dX12_back_42 ?_
              refine lv_sipush (v := 225) hx hb dX12_back_45 (by decide) ?_
              refine lv_iload_n hx hb dX12_back_48 rfl (lv_at hl 2 rfl) ?_
              refine lv_imul hx hb dX12_back_49 ?_
              have kc225 : (225 : Int32).toInt = 225 := by decide
              refine lv_topi (fun z79 e_z79 => ?_)
              have t_z79 : z79.toInt = 225 * p1.toInt := by rw [e_z79, fb_mulI (by rw [show (225 : Int32).toInt = 225 by decide]; omega) (by rw [show (225 : Int32).toInt = 225 by decide]; omega), show (225 : Int32).toInt = 225 by decide]
              refine lv_iload_n hx hb dX12_back_50 rfl (lv_at hl 0 rfl) ?_
              refine lv_iadd hx hb dX12_back_51 ?_
              refine lv_topi (fun z80 e_z80 => ?_)
              have t_z80 : z80.toInt = z79.toInt + x70.toInt := by rw [e_z80]; exact fb_addI (by omega) (by omega)
              refine va_iald hx hb hKn.1 hP 2 0 rfl rfl (vp_in_iff.mpr ⟨by omega, by omega⟩) dX12_back_52 ?_
              refine lv_topi (fun z81 e_z81 => ?_)
              refine va_iast hx hb hKn.1 hP hD hS 1 0 rfl rfl (vp_in_iff.mpr ⟨by omega, by omega⟩) dX12_back_53 (fun H locs hP hD hS => ?_)
              have hP : va_P g.1 vwCl [(h0, .inr (12, [.int mthrown, .ref a1, .ref a2, .ref a3, .ref a4, .int mtaped, .ref a6, .int msize, .int mat, .int mfrom, .int mtoken, .int mvalue, .int mfaultKind, .int mfaultPlace, .ref a14, .ref a15, .int mgoal, .int mgoalDays, .int mgoalHearer, .ref a19, .ref a20, .int mleastOrder, .int mwordsMany, .ref a23, .ref a24, .ref a25, .ref a26, .ref a27, .ref a28])), (a1, .inl (g.2 0, 225, .inl (upd x71 (x70.toNatClampNeg) z81))), (a2, .inl (g.2 0, 675, .inl mimages)), (a3, .inl (g.2 2, 3, .inl mhasImage))] H := hP
              have hD : va_D A [(h0, .inr (12, [.int mthrown, .ref a1, .ref a2, .ref a3, .ref a4, .int mtaped, .ref a6, .int msize, .int mat, .int mfrom, .int mtoken, .int mvalue, .int mfaultKind, .int mfaultPlace, .ref a14, .ref a15, .int mgoal, .int mgoalDays, .int mgoalHearer, .ref a19, .ref a20, .int mleastOrder, .int mwordsMany, .ref a23, .ref a24, .ref a25, .ref a26, .ref a27, .ref a28])), (a1, .inl (g.2 0, 225, .inl (upd x71 (x70.toNatClampNeg) z81))), (a2, .inl (g.2 0, 675, .inl mimages)), (a3, .inl (g.2 2, 3, .inl mhasImage))] := hD
              generalize E_f82 : (upd x71 (x70.toNatClampNeg) z81 : Nat → Int32) = f82 at hP hD
              obtain ⟨z83, e_z83⟩ : ∃ y : Int32, y = x70 + 1 := ⟨_, rfl⟩
              have t_z83 : z83.toInt = x70.toInt + 1 := by rw [e_z83]; exact addk (by decide) (by omega) (by omega)
              refine lv_iinc (v := z83) (lv' := [(2, .int z83), (0, .ref h0), (1, .int p1)]) hx hb dX12_back_54 hl (k := 0) rfl (by rw [e_z83]; rfl) (by decide) rfl (fun ls hl => ?_)
              refine lv_goto (tgt := 29) hx hb dX12_back_57 (by decide) ?_
              exact ih74 z83 f82 _ _ ls (by omega) (by rw [← E_f82]; exact cf_s hi72 (n := x70.toInt.toNat) (by omega) (by rw [Nat.zero_add]; exact ixe (by omega)) (by rw [e_z81, ixe (x := z80) (n := 225 * p1.toInt.toNat + x70.toInt.toNat) (by omega)])) (by omega) hP hD hS (lv_sub hl [0, 1, 2] rfl)
        have kc0 : (0 : Int32).toInt = 0 := by decide
        exact lp73 _ (0 : Int32) mworld _ _ ls (by decide) (fun j hj => absurd hj (by rw [show (0 : Int32).toInt = 0 by decide]; omega)) (Nat.lt_succ_self _) hP hD hS (lv_sub hl [0, 1, 2] rfl)
      · have c8 := k_eq (a := z7.toInt) (b := 0) rfl (by decide) c8
        refine lv_bipush (v := -6) hx hb dX12_back_24 (by decide) ?_
        have kcm6 : (-6 : Int32).toInt = -6 := by decide
        exact rt_i FX ((fun k => match k with | 0 => (-6 : Int32) | _ => 0), (fun k => match k with | 0 => mworld | _ => fun _ => 0), (fun _ => fun _ => 0)) rfl ⟨i_mworld, (show ((p1.toInt < 0 ∨ 2 < p1.toInt) ∧ ((-6 : Int32)).toInt = -2) ∨ ((0 ≤ p1.toInt ∧ p1.toInt ≤ 2) ∧ (((mhasImage p1.toNatClampNeg).toInt = 0 ∧ ((-6 : Int32)).toInt = -6) ∨ ((mhasImage p1.toNatClampNeg).toInt ≠ 0 ∧ ((-6 : Int32)).toInt = 0))) by omega)⟩ (hP.sub [0, 1, 2, 3] rfl) (hD.sub [0, 1, 2, 3] (by decide) rfl) hS (Nat.le_of_ble_eq_true rfl) (Nat.le_of_ble_eq_true rfl) dX12_back_26
    · have c6 := k_eq (a := (u2.1 0).toInt) (b := 0) rfl (by decide) c6
      exfalso; omega
set_option maxRecDepth 100000 in
set_option maxHeartbeats 4000000 in
theorem k_X12_feed (l : Launch) (g : GG) (h0 : Nat) (a1 : Nat) (a2 : Nat) (a3 : Nat) (a4 : Nat) (a6 : Nat) (a14 : Nat) (a15 : Nat) (a19 : Nat) (a20 : Nat) (a23 : Nat) (a24 : Nat) (a25 : Nat) (a26 : Nat) (a27 : Nat) (a28 : Nat) (mthrown : Int32) (mtaped : Int32) (msize : Int32) (mat : Int32) (mfrom : Int32) (mtoken : Int32) (mvalue : Int32) (mfaultKind : Int32) (mfaultPlace : Int32) (mgoal : Int32) (mgoalDays : Int32) (mgoalHearer : Int32) (mleastOrder : Int32) (mwordsMany : Int32) (mtape : Nat → Int32) (mfive : Nat → Int32) (p1 : Int32) (p2 : Int32) (p3 : Int32) (p4 : Int32) (p5 : Int32) (i_mtaped : 0 ≤ mtaped.toInt ∧ mtaped.toInt ≤ 900) (i_msize : 0 ≤ msize.toInt ∧ msize.toInt ≤ 900) (i_mat : 0 ≤ mat.toInt ∧ mat.toInt ≤ 900) (i_mfrom : 0 ≤ mfrom.toInt ∧ mfrom.toInt ≤ 900) (i_mtoken : 0 ≤ mtoken.toInt ∧ mtoken.toInt ≤ 4) (i_mvalue : 0 ≤ mvalue.toInt ∧ mvalue.toInt ≤ 99999) (i_mgoalHearer : 0 ≤ mgoalHearer.toInt ∧ mgoalHearer.toInt ≤ 3) (i_mwordsMany : 0 ≤ mwordsMany.toInt ∧ mwordsMany.toInt ≤ 10) : Ct l g yX12_feed cX12_feed 7 (some .int) { frames := 0, cells := 0, slots := 0, locals := 0 } [.ref h0, .int p1, .int p2, .int p3, .int p4, .int p5] [(h0, .inr (12, [.int mthrown, .ref a1, .ref a2, .ref a3, .ref a4, .int mtaped, .ref a6, .int msize, .int mat, .int mfrom, .int mtoken, .int mvalue, .int mfaultKind, .int mfaultPlace, .ref a14, .ref a15, .int mgoal, .int mgoalDays, .int mgoalHearer, .ref a19, .ref a20, .int mleastOrder, .int mwordsMany, .ref a23, .ref a24, .ref a25, .ref a26, .ref a27, .ref a28])), (a4, .inl (g.2 1, 900, .inl mtape)), (a6, .inl (g.2 0, 5, .inl mfive))] (S := (Nat → Int32) × (Nat → Nat → Int32) × (Nat → Nat → Int64)) (fun u => some (.int (u.1 0))) (fun u => (0 ≤ (u.1 1).toInt ∧ (u.1 1).toInt ≤ 900)) (fun u => [(h0, .inr (12, [.int mthrown, .ref a1, .ref a2, .ref a3, .ref a4, .int (u.1 1), .ref a6, .int msize, .int mat, .int mfrom, .int mtoken, .int mvalue, .int mfaultKind, .int mfaultPlace, .ref a14, .ref a15, .int mgoal, .int mgoalDays, .int mgoalHearer, .ref a19, .ref a20, .int mleastOrder, .int mwordsMany, .ref a23, .ref a24, .ref a25, .ref a26, .ref a27, .ref a28])), (a4, .inl (g.2 1, 900, .inl (u.2.1 0))), (a6, .inl (g.2 0, 5, .inl (u.2.1 1)))]) := by
  refine Ct.of (by decide) (Nat.le_of_ble_eq_true rfl) ?_
  intro p e s m below meth c A ls FX hP hD hS hl
  obtain ⟨FC, hr, hlk, hKn, hA, hnm, hZ⟩ := id FX
  have FC : CallFix p m c cX12_feed 7 s _ BIG RX12 := FC
  obtain ⟨hx, hb, hml, hown, hB⟩ := id FC
  have hl : lv_has ls 7 [(0, .ref h0), (1, .int p1), (2, .int p2), (3, .int p3), (4, .int p4), (5, .int p5)] := hl
  refine lv_aload_n hx hb dX12_feed_0 rfl (lv_at hl 0 rfl) ?_
  refine g_get (C := RX12) (T := TX12) (N := 29) (ci := 12) (v := .int mtaped) FC hKn hP i_X12 0 rfl rfl 5 (by decide) b_1065 rfl dX12_feed_1 ?_
  refine lv_bipush (v := 20) hx hb dX12_feed_4 (by decide) ?_
  refine lv_iadd hx hb dX12_feed_6 ?_
  have kc20 : (20 : Int32).toInt = 20 := by decide
  refine lv_topi (fun z1 e_z1 => ?_)
  have t_z1 : z1.toInt = mtaped.toInt + ((20 : Int32)).toInt := by rw [e_z1]; exact fb_addI (by omega) (by omega)
  refine lv_sipush (v := 900) hx hb dX12_feed_7 (by decide) ?_
  refine lv_icmp_le (tgt := 15) hx hb dX12_feed_10 (by decide) (fun c2 => ?_) (fun c2 => ?_)
  · have c2 := k_le (a := z1.toInt) (b := 900) rfl (by decide) c2
    refine lv_aload_n hx hb dX12_feed_15 rfl (lv_at hl 0 rfl) ?_
    refine g_get (C := RX12) (T := TX12) (N := 29) (ci := 12) (v := .ref a6) FC hKn hP i_X12 0 rfl rfl 6 (by decide) b_1104 rfl dX12_feed_16 ?_
    refine lv_iconst (v := 0) hx hb dX12_feed_19 (by decide) ?_
    refine lv_iload_n hx hb dX12_feed_20 rfl (lv_at hl 1 rfl) ?_
    refine va_iast hx hb hKn.1 hP hD hS 2 0 rfl rfl (by unfold vp_in; decide) dX12_feed_21 (fun H locs hP hD hS => ?_)
    have hP : va_P g.1 vwCl [(h0, .inr (12, [.int mthrown, .ref a1, .ref a2, .ref a3, .ref a4, .int mtaped, .ref a6, .int msize, .int mat, .int mfrom, .int mtoken, .int mvalue, .int mfaultKind, .int mfaultPlace, .ref a14, .ref a15, .int mgoal, .int mgoalDays, .int mgoalHearer, .ref a19, .ref a20, .int mleastOrder, .int mwordsMany, .ref a23, .ref a24, .ref a25, .ref a26, .ref a27, .ref a28])), (a4, .inl (g.2 1, 900, .inl mtape)), (a6, .inl (g.2 0, 5, .inl (upd mfive ((0 : Int32).toNatClampNeg) p1)))] H := hP
    have hD : va_D A [(h0, .inr (12, [.int mthrown, .ref a1, .ref a2, .ref a3, .ref a4, .int mtaped, .ref a6, .int msize, .int mat, .int mfrom, .int mtoken, .int mvalue, .int mfaultKind, .int mfaultPlace, .ref a14, .ref a15, .int mgoal, .int mgoalDays, .int mgoalHearer, .ref a19, .ref a20, .int mleastOrder, .int mwordsMany, .ref a23, .ref a24, .ref a25, .ref a26, .ref a27, .ref a28])), (a4, .inl (g.2 1, 900, .inl mtape)), (a6, .inl (g.2 0, 5, .inl (upd mfive ((0 : Int32).toNatClampNeg) p1)))] := hD
    generalize (upd mfive ((0 : Int32).toNatClampNeg) p1 : Nat → Int32) = f3 at hP hD
    refine lv_aload_n hx hb dX12_feed_22 rfl (lv_at hl 0 rfl) ?_
    refine g_get (C := RX12) (T := TX12) (N := 29) (ci := 12) (v := .ref a6) FC hKn hP i_X12 0 rfl rfl 6 (by decide) b_1104 rfl dX12_feed_23 ?_
    refine lv_iconst (v := 1) hx hb dX12_feed_26 (by decide) ?_
    refine lv_iload_n hx hb dX12_feed_27 rfl (lv_at hl 2 rfl) ?_
    refine va_iast hx hb hKn.1 hP hD hS 2 0 rfl rfl (by unfold vp_in; decide) dX12_feed_28 (fun H locs hP hD hS => ?_)
    have hP : va_P g.1 vwCl [(h0, .inr (12, [.int mthrown, .ref a1, .ref a2, .ref a3, .ref a4, .int mtaped, .ref a6, .int msize, .int mat, .int mfrom, .int mtoken, .int mvalue, .int mfaultKind, .int mfaultPlace, .ref a14, .ref a15, .int mgoal, .int mgoalDays, .int mgoalHearer, .ref a19, .ref a20, .int mleastOrder, .int mwordsMany, .ref a23, .ref a24, .ref a25, .ref a26, .ref a27, .ref a28])), (a4, .inl (g.2 1, 900, .inl mtape)), (a6, .inl (g.2 0, 5, .inl (upd f3 ((1 : Int32).toNatClampNeg) p2)))] H := hP
    have hD : va_D A [(h0, .inr (12, [.int mthrown, .ref a1, .ref a2, .ref a3, .ref a4, .int mtaped, .ref a6, .int msize, .int mat, .int mfrom, .int mtoken, .int mvalue, .int mfaultKind, .int mfaultPlace, .ref a14, .ref a15, .int mgoal, .int mgoalDays, .int mgoalHearer, .ref a19, .ref a20, .int mleastOrder, .int mwordsMany, .ref a23, .ref a24, .ref a25, .ref a26, .ref a27, .ref a28])), (a4, .inl (g.2 1, 900, .inl mtape)), (a6, .inl (g.2 0, 5, .inl (upd f3 ((1 : Int32).toNatClampNeg) p2)))] := hD
    generalize (upd f3 ((1 : Int32).toNatClampNeg) p2 : Nat → Int32) = f4 at hP hD
    refine lv_aload_n hx hb dX12_feed_29 rfl (lv_at hl 0 rfl) ?_
    refine g_get (C := RX12) (T := TX12) (N := 29) (ci := 12) (v := .ref a6) FC hKn hP i_X12 0 rfl rfl 6 (by decide) b_1104 rfl dX12_feed_30 ?_
    refine lv_iconst (v := 2) hx hb dX12_feed_33 (by decide) ?_
    refine lv_iload_n hx hb dX12_feed_34 rfl (lv_at hl 3 rfl) ?_
    refine va_iast hx hb hKn.1 hP hD hS 2 0 rfl rfl (by unfold vp_in; decide) dX12_feed_35 (fun H locs hP hD hS => ?_)
    have hP : va_P g.1 vwCl [(h0, .inr (12, [.int mthrown, .ref a1, .ref a2, .ref a3, .ref a4, .int mtaped, .ref a6, .int msize, .int mat, .int mfrom, .int mtoken, .int mvalue, .int mfaultKind, .int mfaultPlace, .ref a14, .ref a15, .int mgoal, .int mgoalDays, .int mgoalHearer, .ref a19, .ref a20, .int mleastOrder, .int mwordsMany, .ref a23, .ref a24, .ref a25, .ref a26, .ref a27, .ref a28])), (a4, .inl (g.2 1, 900, .inl mtape)), (a6, .inl (g.2 0, 5, .inl (upd f4 ((2 : Int32).toNatClampNeg) p3)))] H := hP
    have hD : va_D A [(h0, .inr (12, [.int mthrown, .ref a1, .ref a2, .ref a3, .ref a4, .int mtaped, .ref a6, .int msize, .int mat, .int mfrom, .int mtoken, .int mvalue, .int mfaultKind, .int mfaultPlace, .ref a14, .ref a15, .int mgoal, .int mgoalDays, .int mgoalHearer, .ref a19, .ref a20, .int mleastOrder, .int mwordsMany, .ref a23, .ref a24, .ref a25, .ref a26, .ref a27, .ref a28])), (a4, .inl (g.2 1, 900, .inl mtape)), (a6, .inl (g.2 0, 5, .inl (upd f4 ((2 : Int32).toNatClampNeg) p3)))] := hD
    generalize (upd f4 ((2 : Int32).toNatClampNeg) p3 : Nat → Int32) = f5 at hP hD
    refine lv_aload_n hx hb dX12_feed_36 rfl (lv_at hl 0 rfl) ?_
    refine g_get (C := RX12) (T := TX12) (N := 29) (ci := 12) (v := .ref a6) FC hKn hP i_X12 0 rfl rfl 6 (by decide) b_1104 rfl dX12_feed_37 ?_
    refine lv_iconst (v := 3) hx hb dX12_feed_40 (by decide) ?_
    refine lv_iload hx hb dX12_feed_41 (lv_at hl 4 rfl) ?_
    refine va_iast hx hb hKn.1 hP hD hS 2 0 rfl rfl (by unfold vp_in; decide) dX12_feed_43 (fun H locs hP hD hS => ?_)
    have hP : va_P g.1 vwCl [(h0, .inr (12, [.int mthrown, .ref a1, .ref a2, .ref a3, .ref a4, .int mtaped, .ref a6, .int msize, .int mat, .int mfrom, .int mtoken, .int mvalue, .int mfaultKind, .int mfaultPlace, .ref a14, .ref a15, .int mgoal, .int mgoalDays, .int mgoalHearer, .ref a19, .ref a20, .int mleastOrder, .int mwordsMany, .ref a23, .ref a24, .ref a25, .ref a26, .ref a27, .ref a28])), (a4, .inl (g.2 1, 900, .inl mtape)), (a6, .inl (g.2 0, 5, .inl (upd f5 ((3 : Int32).toNatClampNeg) p4)))] H := hP
    have hD : va_D A [(h0, .inr (12, [.int mthrown, .ref a1, .ref a2, .ref a3, .ref a4, .int mtaped, .ref a6, .int msize, .int mat, .int mfrom, .int mtoken, .int mvalue, .int mfaultKind, .int mfaultPlace, .ref a14, .ref a15, .int mgoal, .int mgoalDays, .int mgoalHearer, .ref a19, .ref a20, .int mleastOrder, .int mwordsMany, .ref a23, .ref a24, .ref a25, .ref a26, .ref a27, .ref a28])), (a4, .inl (g.2 1, 900, .inl mtape)), (a6, .inl (g.2 0, 5, .inl (upd f5 ((3 : Int32).toNatClampNeg) p4)))] := hD
    generalize (upd f5 ((3 : Int32).toNatClampNeg) p4 : Nat → Int32) = f6 at hP hD
    refine lv_aload_n hx hb dX12_feed_44 rfl (lv_at hl 0 rfl) ?_
    refine g_get (C := RX12) (T := TX12) (N := 29) (ci := 12) (v := .ref a6) FC hKn hP i_X12 0 rfl rfl 6 (by decide) b_1104 rfl dX12_feed_45 ?_
    refine lv_iconst (v := 4) hx hb dX12_feed_48 (by decide) ?_
    refine lv_iload hx hb dX12_feed_49 (lv_at hl 5 rfl) ?_
    refine va_iast hx hb hKn.1 hP hD hS 2 0 rfl rfl (by unfold vp_in; decide) dX12_feed_51 (fun H locs hP hD hS => ?_)
    have hP : va_P g.1 vwCl [(h0, .inr (12, [.int mthrown, .ref a1, .ref a2, .ref a3, .ref a4, .int mtaped, .ref a6, .int msize, .int mat, .int mfrom, .int mtoken, .int mvalue, .int mfaultKind, .int mfaultPlace, .ref a14, .ref a15, .int mgoal, .int mgoalDays, .int mgoalHearer, .ref a19, .ref a20, .int mleastOrder, .int mwordsMany, .ref a23, .ref a24, .ref a25, .ref a26, .ref a27, .ref a28])), (a4, .inl (g.2 1, 900, .inl mtape)), (a6, .inl (g.2 0, 5, .inl (upd f6 ((4 : Int32).toNatClampNeg) p5)))] H := hP
    have hD : va_D A [(h0, .inr (12, [.int mthrown, .ref a1, .ref a2, .ref a3, .ref a4, .int mtaped, .ref a6, .int msize, .int mat, .int mfrom, .int mtoken, .int mvalue, .int mfaultKind, .int mfaultPlace, .ref a14, .ref a15, .int mgoal, .int mgoalDays, .int mgoalHearer, .ref a19, .ref a20, .int mleastOrder, .int mwordsMany, .ref a23, .ref a24, .ref a25, .ref a26, .ref a27, .ref a28])), (a4, .inl (g.2 1, 900, .inl mtape)), (a6, .inl (g.2 0, 5, .inl (upd f6 ((4 : Int32).toNatClampNeg) p5)))] := hD
    generalize (upd f6 ((4 : Int32).toNatClampNeg) p5 : Nat → Int32) = f7 at hP hD
    refine lv_iconst (v := 0) hx hb dX12_feed_52 (by decide) ?_
    refine lv_istore (lv' := [(6, .int 0), (0, .ref h0), (1, .int p1), (2, .int p2), (3, .int p3), (4, .int p4), (5, .int p5)]) hx hb dX12_feed_53 hl (by decide) rfl (fun ls hl => ?_)
    have lp111 : ∀ (n113 : Nat) (x109 : Int32) (x110 : Nat → Int32) (H : Heap) (locs : List Loc) (ls : Array Slot), 0 ≤ x109.toInt ∧ x109.toInt ≤ 20 → (20 - x109.toInt).toNat < n113 → va_P g.1 vwCl [(h0, .inr (12, [.int mthrown, .ref a1, .ref a2, .ref a3, .ref a4, .int mtaped, .ref a6, .int msize, .int mat, .int mfrom, .int mtoken, .int mvalue, .int mfaultKind, .int mfaultPlace, .ref a14, .ref a15, .int mgoal, .int mgoalDays, .int mgoalHearer, .ref a19, .ref a20, .int mleastOrder, .int mwordsMany, .ref a23, .ref a24, .ref a25, .ref a26, .ref a27, .ref a28])), (a4, .inl (g.2 1, 900, .inl x110)), (a6, .inl (g.2 0, 5, .inl f7))] H → va_D A [(h0, .inr (12, [.int mthrown, .ref a1, .ref a2, .ref a3, .ref a4, .int mtaped, .ref a6, .int msize, .int mat, .int mfrom, .int mtoken, .int mvalue, .int mfaultKind, .int mfaultPlace, .ref a14, .ref a15, .int mgoal, .int mgoalDays, .int mgoalHearer, .ref a19, .ref a20, .int mleastOrder, .int mwordsMany, .ref a23, .ref a24, .ref a25, .ref a26, .ref a27, .ref a28])), (a4, .inl (g.2 1, 900, .inl x110)), (a6, .inl (g.2 0, 5, .inl f7))] → va_S A s.heap H locs → lv_has ls 7 [(6, .int x109), (0, .ref h0), (1, .int p1), (2, .int p2), (3, .int p3), (4, .int p4), (5, .int p5)] → W p l e { frames := 0, cells := 0, slots := 0, locals := 0 } s m ([.ref h0, .int p1, .int p2, .int p3, .int p4, .int p5].toArray) below meth c H locs 0 0 (MQ below (QX (S := (Nat → Int32) × (Nat → Nat → Int32) × (Nat → Nat → Int64)) (fun u => some (.int (u.1 0))) (fun u => (0 ≤ (u.1 1).toInt ∧ (u.1 1).toInt ≤ 900)) g (fun u => [(h0, .inr (12, [.int mthrown, .ref a1, .ref a2, .ref a3, .ref a4, .int (u.1 1), .ref a6, .int msize, .int mat, .int mfrom, .int mtoken, .int mvalue, .int mfaultKind, .int mfaultPlace, .ref a14, .ref a15, .int mgoal, .int mgoalDays, .int mgoalHearer, .ref a19, .ref a20, .int mleastOrder, .int mwordsMany, .ref a23, .ref a24, .ref a25, .ref a26, .ref a27, .ref a28])), (a4, .inl (g.2 1, 900, .inl (u.2.1 0))), (a6, .inl (g.2 0, 5, .inl (u.2.1 1)))]) A) ([.ref h0, .int p1, .int p2, .int p3, .int p4, .int p5].toArray) s 0 0 A) (F0 m 55 ls []) := by
      intro n113
      induction n113 with
      | zero =>
        intro x109 x110 H locs ls h_x109 hn114
        exact absurd hn114 (Nat.not_lt_zero _)
      | succ n113 ih112 =>
        intro x109 x110 H locs ls h_x109 hn114 hP hD hS hl
        refine lv_iload hx hb dX12_feed_55 (lv_at hl 0 rfl) ?_
        refine lv_bipush (v := 20) hx hb dX12_feed_57 (by decide) ?_
        refine lv_icmp_ge (tgt := 101) hx hb dX12_feed_59 (by decide) (fun c115 => ?_) (fun c115 => ?_)
        · have c115 := k_le (a := 20) (b := x109.toInt) (by decide) rfl c115
          refine lv_aload_n hx hb dX12_feed_101 rfl (lv_at hl 1 rfl) ?_
          refine lv_dup hx hb dX12_feed_102 rfl ?_
          refine g_get (C := RX12) (T := TX12) (N := 29) (ci := 12) (v := .int mtaped) FC hKn hP i_X12 0 rfl rfl 5 (by decide) b_1065 rfl dX12_feed_103 ?_
          refine lv_bipush (v := 20) hx hb dX12_feed_106 (by decide) ?_
          refine lv_iadd hx hb dX12_feed_108 ?_
          refine lv_topi (fun z116 e_z116 => ?_)
          have t_z116 : z116.toInt = mtaped.toInt + ((20 : Int32)).toInt := by rw [e_z116]; exact fb_addI (by omega) (by omega)
          refine g_put (C := RX12) (T := TX12) (N := 29) (ci := 12) (v := .int z116) FC hKn hP hD hS i_X12 tyX12 tyX12_ok nmX12 0 rfl rfl 5 (by decide) b_1065 rfl rfl rfl (Nat.le_of_ble_eq_true rfl) dX12_feed_109 (fun H locs hP hD hS => ?_)
          have hP : va_P g.1 vwCl [(h0, .inr (12, [.int mthrown, .ref a1, .ref a2, .ref a3, .ref a4, .int z116, .ref a6, .int msize, .int mat, .int mfrom, .int mtoken, .int mvalue, .int mfaultKind, .int mfaultPlace, .ref a14, .ref a15, .int mgoal, .int mgoalDays, .int mgoalHearer, .ref a19, .ref a20, .int mleastOrder, .int mwordsMany, .ref a23, .ref a24, .ref a25, .ref a26, .ref a27, .ref a28])), (a4, .inl (g.2 1, 900, .inl x110)), (a6, .inl (g.2 0, 5, .inl f7))] H := hP
          have hD : va_D A [(h0, .inr (12, [.int mthrown, .ref a1, .ref a2, .ref a3, .ref a4, .int z116, .ref a6, .int msize, .int mat, .int mfrom, .int mtoken, .int mvalue, .int mfaultKind, .int mfaultPlace, .ref a14, .ref a15, .int mgoal, .int mgoalDays, .int mgoalHearer, .ref a19, .ref a20, .int mleastOrder, .int mwordsMany, .ref a23, .ref a24, .ref a25, .ref a26, .ref a27, .ref a28])), (a4, .inl (g.2 1, 900, .inl x110)), (a6, .inl (g.2 0, 5, .inl f7))] := hD
          refine lv_aload_n hx hb dX12_feed_112 rfl (lv_at hl 1 rfl) ?_
          refine g_get (C := RX12) (T := TX12) (N := 29) (ci := 12) (v := .int z116) FC hKn hP i_X12 0 rfl rfl 5 (by decide) b_1065 rfl dX12_feed_113 ?_
          exact rt_i FX ((fun k => match k with | 0 => z116 | 1 => z116 | _ => 0), (fun k => match k with | 0 => x110 | 1 => f7 | _ => fun _ => 0), (fun _ => fun _ => 0)) rfl (show 0 ≤ z116.toInt ∧ z116.toInt ≤ 900 by omega) (hP.sub [0, 1, 2] rfl) (hD.sub [0, 1, 2] (by decide) rfl) hS (Nat.le_of_ble_eq_true rfl) (Nat.le_of_ble_eq_true rfl) dX12_feed_116
        · have c115 := k_nle (a := 20) (b := x109.toInt) (by decide) rfl c115
          refine lv_aload_n hx hb dX12_feed_62 rfl (lv_at hl 1 rfl) ?_
          refine g_get (C := RX12) (T := TX12) (N := 29) (ci := 12) (v := .ref a4) FC hKn hP i_X12 0 rfl rfl 4 (by decide) b_1105 rfl dX12_feed_63 ?_
          refine lv_aload_n hx hb dX12_feed_66 rfl (lv_at hl 1 rfl) ?_
          refine g_get (C := RX12) (T := TX12) (N := 29) (ci := 12) (v := .int mtaped) FC hKn hP i_X12 0 rfl rfl 5 (by decide) b_1065 rfl dX12_feed_67 ?_
          refine lv_iload hx hb dX12_feed_70 (lv_at hl 0 rfl) ?_
          refine lv_iadd hx hb dX12_feed_72 ?_
          refine lv_topi (fun z117 e_z117 => ?_)
          have t_z117 : z117.toInt = mtaped.toInt + x109.toInt := by rw [e_z117]; exact fb_addI (by omega) (by omega)
          refine lv_aload_n hx hb dX12_feed_73 rfl (lv_at hl 1 rfl) ?_
          refine g_get (C := RX12) (T := TX12) (N := 29) (ci := 12) (v := .ref a6) FC hKn hP i_X12 0 rfl rfl 6 (by decide) b_1104 rfl dX12_feed_74 ?_
          refine lv_iload hx hb dX12_feed_77 (lv_at hl 0 rfl) ?_
          refine lv_iconst (v := 4) hx hb dX12_feed_79 (by decide) ?_
          refine lv_idiv hx hb dX12_feed_80 (by decide) ?_
          have kc4 : (4 : Int32).toInt = 4 := by decide
          refine lv_topi (fun z118 e_z118 => ?_)
          have t_z118 : z118.toInt = x109.toInt / 4 := by rw [e_z118]; exact div_k (by omega) (by decide) (by decide)
          refine va_iald hx hb hKn.1 hP 2 0 rfl rfl (vp_in_iff.mpr ⟨by omega, by omega⟩) dX12_feed_81 ?_
          refine lv_topi (fun z119 e_z119 => ?_)
          refine lv_bipush (v := 24) hx hb dX12_feed_82 (by decide) ?_
          refine lv_bipush (v := 8) hx hb dX12_feed_84 (by decide) ?_
          refine lv_iload hx hb dX12_feed_86 (lv_at hl 0 rfl) ?_
          refine lv_iconst (v := 4) hx hb dX12_feed_88 (by decide) ?_
          refine lv_irem hx hb dX12_feed_89 (by decide) ?_
          refine lv_topi (fun z120 e_z120 => ?_)
          have t_z120 : 0 ≤ z120.toInt ∧ z120.toInt < ((4 : Int32)).toInt := by rw [e_z120]; exact rem_b (by omega) (by omega)
          refine lv_imul hx hb dX12_feed_90 ?_
          have kc8 : (8 : Int32).toInt = 8 := by decide
          refine lv_topi (fun z121 e_z121 => ?_)
          have t_z121 : z121.toInt = 8 * z120.toInt := by rw [e_z121, fb_mulI (by rw [show (8 : Int32).toInt = 8 by decide]; omega) (by rw [show (8 : Int32).toInt = 8 by decide]; omega), show (8 : Int32).toInt = 8 by decide]
          refine lv_isub hx hb dX12_feed_91 ?_
          have kc24 : (24 : Int32).toInt = 24 := by decide
          refine lv_topi (fun z122 e_z122 => ?_)
          have t_z122 : z122.toInt = ((24 : Int32)).toInt - z121.toInt := by rw [e_z122]; exact fb_subI (by omega) (by omega)
          refine lv_ishr hx hb dX12_feed_92 ?_
          refine lv_topi (fun z123 e_z123 => ?_)
          refine lv_i2b hx hb dX12_feed_93 rfl ?_
          refine lv_topi (fun z124 e_z124 => ?_)
          refine va_bast hx hb hKn.1 hP hD hS 1 1 rfl rfl (vp_in_iff.mpr ⟨by omega, by omega⟩) dX12_feed_94 (fun H locs hP hD hS => ?_)
          have hP : va_P g.1 vwCl [(h0, .inr (12, [.int mthrown, .ref a1, .ref a2, .ref a3, .ref a4, .int mtaped, .ref a6, .int msize, .int mat, .int mfrom, .int mtoken, .int mvalue, .int mfaultKind, .int mfaultPlace, .ref a14, .ref a15, .int mgoal, .int mgoalDays, .int mgoalHearer, .ref a19, .ref a20, .int mleastOrder, .int mwordsMany, .ref a23, .ref a24, .ref a25, .ref a26, .ref a27, .ref a28])), (a4, .inl (g.2 1, 900, .inl (upd x110 (z117.toNatClampNeg) (vp_nar .byte z124)))), (a6, .inl (g.2 0, 5, .inl f7))] H := hP
          have hD : va_D A [(h0, .inr (12, [.int mthrown, .ref a1, .ref a2, .ref a3, .ref a4, .int mtaped, .ref a6, .int msize, .int mat, .int mfrom, .int mtoken, .int mvalue, .int mfaultKind, .int mfaultPlace, .ref a14, .ref a15, .int mgoal, .int mgoalDays, .int mgoalHearer, .ref a19, .ref a20, .int mleastOrder, .int mwordsMany, .ref a23, .ref a24, .ref a25, .ref a26, .ref a27, .ref a28])), (a4, .inl (g.2 1, 900, .inl (upd x110 (z117.toNatClampNeg) (vp_nar .byte z124)))), (a6, .inl (g.2 0, 5, .inl f7))] := hD
          generalize (upd x110 (z117.toNatClampNeg) (vp_nar .byte z124) : Nat → Int32) = f125 at hP hD
          obtain ⟨z126, e_z126⟩ : ∃ y : Int32, y = x109 + 1 := ⟨_, rfl⟩
          have t_z126 : z126.toInt = x109.toInt + 1 := by rw [e_z126]; exact addk (by decide) (by omega) (by omega)
          refine lv_iinc (v := z126) (lv' := [(6, .int z126), (0, .ref h0), (1, .int p1), (2, .int p2), (3, .int p3), (4, .int p4), (5, .int p5)]) hx hb dX12_feed_95 hl (k := 0) rfl (by rw [e_z126]; rfl) (by decide) rfl (fun ls hl => ?_)
          refine lv_goto (tgt := 55) hx hb dX12_feed_98 (by decide) ?_
          exact ih112 z126 f125 _ _ ls (by omega) (by omega) hP hD hS (lv_sub hl [0, 1, 2, 3, 4, 5, 6] rfl)
    have kc0 : (0 : Int32).toInt = 0 := by decide
    exact lp111 _ (0 : Int32) mtape _ _ ls (by decide) (Nat.lt_succ_self _) hP hD hS (lv_sub hl [0, 1, 2, 3, 4, 5, 6] rfl)
  · have c2 := k_nle (a := z1.toInt) (b := 900) rfl (by decide) c2
    refine lv_iconst (v := -1) hx hb dX12_feed_13 (by decide) ?_
    exact rt_i FX ((fun k => match k with | 0 => (-1 : Int32) | 1 => mtaped | _ => 0), (fun k => match k with | 0 => mtape | 1 => mfive | _ => fun _ => 0), (fun _ => fun _ => 0)) rfl (show 0 ≤ mtaped.toInt ∧ mtaped.toInt ≤ 900 by omega) (hP.sub [0, 1, 2] rfl) (hD.sub [0, 1, 2] (by decide) rfl) hS (Nat.le_of_ble_eq_true rfl) (Nat.le_of_ble_eq_true rfl) dX12_feed_14
set_option maxRecDepth 100000 in
set_option maxHeartbeats 4000000 in
theorem k_X12_end (l : Launch) (g : GG) (h0 : Nat) (a1 : Nat) (a2 : Nat) (a3 : Nat) (a4 : Nat) (a6 : Nat) (a14 : Nat) (a15 : Nat) (a19 : Nat) (a20 : Nat) (a23 : Nat) (a24 : Nat) (a25 : Nat) (a26 : Nat) (a27 : Nat) (a28 : Nat) (mthrown : Int32) (mtaped : Int32) (msize : Int32) (mat : Int32) (mfrom : Int32) (mtoken : Int32) (mvalue : Int32) (mfaultKind : Int32) (mfaultPlace : Int32) (mgoal : Int32) (mgoalDays : Int32) (mgoalHearer : Int32) (mleastOrder : Int32) (mwordsMany : Int32) (p1 : Int32) (i_mtaped : 0 ≤ mtaped.toInt ∧ mtaped.toInt ≤ 900) (i_msize : 0 ≤ msize.toInt ∧ msize.toInt ≤ 900) (i_mat : 0 ≤ mat.toInt ∧ mat.toInt ≤ 900) (i_mfrom : 0 ≤ mfrom.toInt ∧ mfrom.toInt ≤ 900) (i_mtoken : 0 ≤ mtoken.toInt ∧ mtoken.toInt ≤ 4) (i_mvalue : 0 ≤ mvalue.toInt ∧ mvalue.toInt ≤ 99999) (i_mgoalHearer : 0 ≤ mgoalHearer.toInt ∧ mgoalHearer.toInt ≤ 3) (i_mwordsMany : 0 ≤ mwordsMany.toInt ∧ mwordsMany.toInt ≤ 10) : Ct l g yX12_end cX12_end 2 (some .int) { frames := 1, cells := 0, slots := 0, locals := 25 } [.ref h0, .int p1] [(h0, .inr (12, [.int mthrown, .ref a1, .ref a2, .ref a3, .ref a4, .int mtaped, .ref a6, .int msize, .int mat, .int mfrom, .int mtoken, .int mvalue, .int mfaultKind, .int mfaultPlace, .ref a14, .ref a15, .int mgoal, .int mgoalDays, .int mgoalHearer, .ref a19, .ref a20, .int mleastOrder, .int mwordsMany, .ref a23, .ref a24, .ref a25, .ref a26, .ref a27, .ref a28]))] (S := (Nat → Int32) × (Nat → Nat → Int32) × (Nat → Nat → Int64)) (fun u => some (.int (u.1 0))) (fun u => (0 ≤ (u.1 1).toInt ∧ (u.1 1).toInt ≤ 900)) (fun u => [(h0, .inr (12, [.int mthrown, .ref a1, .ref a2, .ref a3, .ref a4, .int (u.1 1), .ref a6, .int msize, .int mat, .int mfrom, .int mtoken, .int mvalue, .int mfaultKind, .int mfaultPlace, .ref a14, .ref a15, .int mgoal, .int mgoalDays, .int mgoalHearer, .ref a19, .ref a20, .int mleastOrder, .int mwordsMany, .ref a23, .ref a24, .ref a25, .ref a26, .ref a27, .ref a28]))]) := by
  refine Ct.of (by decide) (Nat.le_of_ble_eq_true rfl) ?_
  intro p e s m below meth c A ls FX hP hD hS hl
  obtain ⟨FC, hr, hlk, hKn, hA, hnm, hZ⟩ := id FX
  have FC : CallFix p m c cX12_end 2 s _ BIG RX12 := FC
  obtain ⟨hx, hb, hml, hown, hB⟩ := id FC
  have hl : lv_has ls 2 [(0, .ref h0), (1, .int p1)] := hl
  refine lv_iload_n hx hb dX12_end_0 rfl (lv_at hl 1 rfl) ?_
  refine lv_i2l (v := p1.toInt64) hx hb dX12_end_1 rfl ?_
  refine lv_topl (fun z1 e_z1 => ?_)
  have t_z1 : z1.toInt = p1.toInt := by rw [e_z1]; exact Int32.toInt_toInt64 _
  refine lv_lconst (v := 0) hx hb dX12_end_2 (by decide) ?_
  refine lv_aload_n hx hb dX12_end_3 rfl (lv_at hl 0 rfl) ?_
  refine g_get (C := RX12) (T := TX12) (N := 29) (ci := 12) (v := .int mtaped) FC hKn hP i_X12 0 rfl rfl 5 (by decide) b_1065 rfl dX12_end_4 ?_
  refine lv_i2l (v := mtaped.toInt64) hx hb dX12_end_7 rfl ?_
  refine lv_topl (fun z2 e_z2 => ?_)
  have t_z2 : z2.toInt = mtaped.toInt := by rw [e_z2]; exact Int32.toInt_toInt64 _
  have kcl0 : (0 : Int64).toInt = 0 := by decide
  refine call_S (As := [.long z1, .long 0, .long z2]) (rest := []) (wr := [(h0, .inr (12, [.int mthrown, .ref a1, .ref a2, .ref a3, .ref a4, .int mtaped, .ref a6, .int msize, .int mat, .int mfrom, .int mtoken, .int mvalue, .int mfaultKind, .int mfaultPlace, .ref a14, .ref a15, .int mgoal, .int mgoalDays, .int mgoalHearer, .ref a19, .ref a20, .int mleastOrder, .int mwordsMany, .ref a23, .ref a24, .ref a25, .ref a26, .ref a27, .ref a28]))]) FC hKn hZ (k_X12_in l g z1 ((0 : Int64)) z2) m_yX12_in b_802 hP hD hS hA [] [0] rfl (by decide) rfl (by decide) (by decide) rfl hl.1 rfl (Nat.le_of_ble_eq_true rfl) dX12_end_8 ⟨(Nat.le_of_ble_eq_true rfl), (Nat.le_of_ble_eq_true rfl)⟩ ⟨(Nat.le_of_ble_eq_true rfl), (Nat.le_of_ble_eq_true rfl)⟩ (fun u3 H locs q4 hP hD hS => ?_)
  obtain ⟨q4_0, q4_1, q4_2⟩ := q4
  have hP : va_P g.1 vwCl [(h0, .inr (12, [.int mthrown, .ref a1, .ref a2, .ref a3, .ref a4, .int mtaped, .ref a6, .int msize, .int mat, .int mfrom, .int mtoken, .int mvalue, .int mfaultKind, .int mfaultPlace, .ref a14, .ref a15, .int mgoal, .int mgoalDays, .int mgoalHearer, .ref a19, .ref a20, .int mleastOrder, .int mwordsMany, .ref a23, .ref a24, .ref a25, .ref a26, .ref a27, .ref a28]))] H := hP
  have hD : va_D A [(h0, .inr (12, [.int mthrown, .ref a1, .ref a2, .ref a3, .ref a4, .int mtaped, .ref a6, .int msize, .int mat, .int mfrom, .int mtoken, .int mvalue, .int mfaultKind, .int mfaultPlace, .ref a14, .ref a15, .int mgoal, .int mgoalDays, .int mgoalHearer, .ref a19, .ref a20, .int mleastOrder, .int mwordsMany, .ref a23, .ref a24, .ref a25, .ref a26, .ref a27, .ref a28]))] := hD
  refine W.eq (g2 := F0 m 11 ls [.int (u3.1 0)]) rfl ?_
  rcases (show (u3.1 0).toInt = 0 ∨ (u3.1 0).toInt = 1 by omega) with c5 | c5
  · skip
    refine lv_if_ne (tgt := 16) hx hb dX12_end_11 (by decide) (fun c6 => ?_) (fun c6 => ?_)
    · have c6 := k_ne (a := (u3.1 0).toInt) (b := 0) rfl (by decide) c6
      exfalso; omega
    · have c6 := k_eq (a := (u3.1 0).toInt) (b := 0) rfl (by decide) c6
      refine lv_iconst (v := -1) hx hb dX12_end_14 (by decide) ?_
      exact rt_i FX ((fun k => match k with | 0 => (-1 : Int32) | 1 => mtaped | _ => 0), (fun _ => fun _ => 0), (fun _ => fun _ => 0)) rfl (show 0 ≤ mtaped.toInt ∧ mtaped.toInt ≤ 900 by omega) (hP.sub [0] rfl) (hD.sub [0] (by decide) rfl) hS (Nat.le_of_ble_eq_true rfl) (Nat.le_of_ble_eq_true rfl) dX12_end_15
  · have c5_r := q4_2 c5
    refine lv_if_ne (tgt := 16) hx hb dX12_end_11 (by decide) (fun c7 => ?_) (fun c7 => ?_)
    · have c7 := k_ne (a := (u3.1 0).toInt) (b := 0) rfl (by decide) c7
      refine lv_aload_n hx hb dX12_end_16 rfl (lv_at hl 0 rfl) ?_
      refine lv_iload_n hx hb dX12_end_17 rfl (lv_at hl 1 rfl) ?_
      refine g_put (C := RX12) (T := TX12) (N := 29) (ci := 12) (v := .int p1) FC hKn hP hD hS i_X12 tyX12 tyX12_ok nmX12 0 rfl rfl 5 (by decide) b_1065 rfl rfl rfl (Nat.le_of_ble_eq_true rfl) dX12_end_18 (fun H locs hP hD hS => ?_)
      have hP : va_P g.1 vwCl [(h0, .inr (12, [.int mthrown, .ref a1, .ref a2, .ref a3, .ref a4, .int p1, .ref a6, .int msize, .int mat, .int mfrom, .int mtoken, .int mvalue, .int mfaultKind, .int mfaultPlace, .ref a14, .ref a15, .int mgoal, .int mgoalDays, .int mgoalHearer, .ref a19, .ref a20, .int mleastOrder, .int mwordsMany, .ref a23, .ref a24, .ref a25, .ref a26, .ref a27, .ref a28]))] H := hP
      have hD : va_D A [(h0, .inr (12, [.int mthrown, .ref a1, .ref a2, .ref a3, .ref a4, .int p1, .ref a6, .int msize, .int mat, .int mfrom, .int mtoken, .int mvalue, .int mfaultKind, .int mfaultPlace, .ref a14, .ref a15, .int mgoal, .int mgoalDays, .int mgoalHearer, .ref a19, .ref a20, .int mleastOrder, .int mwordsMany, .ref a23, .ref a24, .ref a25, .ref a26, .ref a27, .ref a28]))] := hD
      refine lv_iload_n hx hb dX12_end_21 rfl (lv_at hl 1 rfl) ?_
      exact rt_i FX ((fun k => match k with | 0 => p1 | 1 => p1 | _ => 0), (fun _ => fun _ => 0), (fun _ => fun _ => 0)) rfl (show 0 ≤ p1.toInt ∧ p1.toInt ≤ 900 by omega) (hP.sub [0] rfl) (hD.sub [0] (by decide) rfl) hS (Nat.le_of_ble_eq_true rfl) (Nat.le_of_ble_eq_true rfl) dX12_end_22
    · have c7 := k_eq (a := (u3.1 0).toInt) (b := 0) rfl (by decide) c7
      exfalso; omega
