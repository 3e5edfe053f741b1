set_option maxRecDepth 100000 in
set_option maxHeartbeats 4000000 in
theorem k_X12_findOrder (l : Launch) (g : GG) (h0 : Nat) (a1 : Nat) (a2 : Nat) (a3 : Nat) (a4 : Nat) (a6 : Nat) (a14 : Nat) (a15 : Nat) (a19 : Nat) (a20 : Nat) (a23 : Nat) (a24 : Nat) (a25 : Nat) (a26 : Nat) (a27 : Nat) (a28 : Nat) (mthrown : Int32) (mtaped : Int32) (msize : Int32) (mat : Int32) (mfrom : Int32) (mtoken : Int32) (mvalue : Int32) (mfaultKind : Int32) (mfaultPlace : Int32) (mgoal : Int32) (mgoalDays : Int32) (mgoalHearer : Int32) (mleastOrder : Int32) (mwordsMany : Int32) (mworld : Nat → Int32) (mnumbers : Nat → Int64) (mmany : Nat → Int32) (morder : Nat → Int32) (mbestOrder : Nat → Int32) (p1 : Int32) (p2 : Int32) (i_mtaped : 0 ≤ mtaped.toInt ∧ mtaped.toInt ≤ 900) (i_msize : 0 ≤ msize.toInt ∧ msize.toInt ≤ 900) (i_mat : 0 ≤ mat.toInt ∧ mat.toInt ≤ 900) (i_mfrom : 0 ≤ mfrom.toInt ∧ mfrom.toInt ≤ 900) (i_mtoken : 0 ≤ mtoken.toInt ∧ mtoken.toInt ≤ 4) (i_mvalue : 0 ≤ mvalue.toInt ∧ mvalue.toInt ≤ 99999) (i_mgoalHearer : 0 ≤ mgoalHearer.toInt ∧ mgoalHearer.toInt ≤ 3) (i_mwordsMany : 0 ≤ mwordsMany.toInt ∧ mwordsMany.toInt ≤ 10) (i_mworld : wod mworld) (i_mmany : ab mmany 4 (-1) 60) (i_p2 : 0 ≤ p2.toInt ∧ p2.toInt ≤ 3) (hw : wkok mworld mnumbers mmany p1) (hm6 : (mmany p1.toNatClampNeg).toInt ≤ 6) : Ct l g yX12_findOrder cX12_findOrder 5 none { frames := 5, cells := 0, slots := 0, locals := 121 } [.ref h0, .int p1, .int p2] [(h0, .inr (12, [.int mthrown, .ref a1, .ref a2, .ref a3, .ref a4, .int mtaped, .ref a6, .int msize, .int mat, .int mfrom, .int mtoken, .int mvalue, .int mfaultKind, .int mfaultPlace, .ref a14, .ref a15, .int mgoal, .int mgoalDays, .int mgoalHearer, .ref a19, .ref a20, .int mleastOrder, .int mwordsMany, .ref a23, .ref a24, .ref a25, .ref a26, .ref a27, .ref a28])), (a1, .inl (g.2 0, 225, .inl mworld)), (a27, .inl (g.2 3, 240, .inr (.inl mnumbers))), (a25, .inl (g.2 0, 4, .inl mmany)), (a19, .inl (g.2 0, 6, .inl morder)), (a20, .inl (g.2 0, 6, .inl mbestOrder))] (S := (Nat → Int32) × (Nat → Nat → Int32) × (Nat → Nat → Int64)) (fun _ => none) (fun u => True) (fun u => [(h0, .inr (12, [.int mthrown, .ref a1, .ref a2, .ref a3, .ref a4, .int mtaped, .ref a6, .int msize, .int mat, .int mfrom, .int mtoken, .int mvalue, .int mfaultKind, .int mfaultPlace, .ref a14, .ref a15, .int mgoal, .int mgoalDays, .int mgoalHearer, .ref a19, .ref a20, .int (u.1 1), .int mwordsMany, .ref a23, .ref a24, .ref a25, .ref a26, .ref a27, .ref a28])), (a1, .inl (g.2 0, 225, .inl mworld)), (a27, .inl (g.2 3, 240, .inr (.inl mnumbers))), (a25, .inl (g.2 0, 4, .inl mmany)), (a19, .inl (g.2 0, 6, .inl (u.2.1 0))), (a20, .inl (g.2 0, 6, .inl (u.2.1 1)))]) := by
  refine Ct.of (by decide) (Nat.le_of_ble_eq_true rfl) ?_
  intro p e s m below meth c A ls FX hP hD hS hl
  obtain ⟨FC, hr, hlk, hKn, hA, hnm, hZ⟩ := id FX
  have FC : CallFix p m c cX12_findOrder 5 s _ BIG RX12 := FC
  obtain ⟨hx, hb, hml, hown, hB⟩ := id FC
  have hl : lv_has ls 5 [(0, .ref h0), (1, .int p1), (2, .int p2)] := hl
  have hwb := hw.2.1
  have hwa := hw.1
  refine lv_iconst (v := 0) hx hb dX12_findOrder_0 (by decide) ?_
  refine lv_istore_n (lv' := [(3, .int 0), (0, .ref h0), (1, .int p1), (2, .int p2)]) hx hb dX12_findOrder_1 rfl hl (by decide) rfl (fun ls hl => ?_)
  have lp649 : ∀ (n651 : Nat) (x646 : Int32) (x647 : Nat → Int32) (H : Heap) (locs : List Loc) (ls : Array Slot), 0 ≤ x646.toInt ∧ x646.toInt ≤ 6 → idf x647 x646.toInt.toNat → (6 - x646.toInt).toNat < n651 → va_P g.1 vwCl [(h0, .inr (12, [.int mthrown, .ref a1, .ref a2, .ref a3, .ref a4, .int mtaped, .ref a6, .int msize, .int mat, .int mfrom, .int mtoken, .int mvalue, .int mfaultKind, .int mfaultPlace, .ref a14, .ref a15, .int mgoal, .int mgoalDays, .int mgoalHearer, .ref a19, .ref a20, .int mleastOrder, .int mwordsMany, .ref a23, .ref a24, .ref a25, .ref a26, .ref a27, .ref a28])), (a1, .inl (g.2 0, 225, .inl mworld)), (a27, .inl (g.2 3, 240, .inr (.inl mnumbers))), (a25, .inl (g.2 0, 4, .inl mmany)), (a19, .inl (g.2 0, 6, .inl x647)), (a20, .inl (g.2 0, 6, .inl mbestOrder))] H → va_D A [(h0, .inr (12, [.int mthrown, .ref a1, .ref a2, .ref a3, .ref a4, .int mtaped, .ref a6, .int msize, .int mat, .int mfrom, .int mtoken, .int mvalue, .int mfaultKind, .int mfaultPlace, .ref a14, .ref a15, .int mgoal, .int mgoalDays, .int mgoalHearer, .ref a19, .ref a20, .int mleastOrder, .int mwordsMany, .ref a23, .ref a24, .ref a25, .ref a26, .ref a27, .ref a28])), (a1, .inl (g.2 0, 225, .inl mworld)), (a27, .inl (g.2 3, 240, .inr (.inl mnumbers))), (a25, .inl (g.2 0, 4, .inl mmany)), (a19, .inl (g.2 0, 6, .inl x647)), (a20, .inl (g.2 0, 6, .inl mbestOrder))] → va_S A s.heap H locs → lv_has ls 5 [(3, .int x646), (0, .ref h0), (1, .int p1), (2, .int p2)] → W p l e { frames := 5, cells := 0, slots := 0, locals := 121 } s m ([.ref h0, .int p1, .int p2].toArray) below meth c H locs 0 0 (MQ below (QX (S := (Nat → Int32) × (Nat → Nat → Int32) × (Nat → Nat → Int64)) (fun _ => none) (fun u => True) g (fun u => [(h0, .inr (12, [.int mthrown, .ref a1, .ref a2, .ref a3, .ref a4, .int mtaped, .ref a6, .int msize, .int mat, .int mfrom, .int mtoken, .int mvalue, .int mfaultKind, .int mfaultPlace, .ref a14, .ref a15, .int mgoal, .int mgoalDays, .int mgoalHearer, .ref a19, .ref a20, .int (u.1 1), .int mwordsMany, .ref a23, .ref a24, .ref a25, .ref a26, .ref a27, .ref a28])), (a1, .inl (g.2 0, 225, .inl mworld)), (a27, .inl (g.2 3, 240, .inr (.inl mnumbers))), (a25, .inl (g.2 0, 4, .inl mmany)), (a19, .inl (g.2 0, 6, .inl (u.2.1 0))), (a20, .inl (g.2 0, 6, .inl (u.2.1 1)))]) A) ([.ref h0, .int p1, .int p2].toArray) s 0 0 A) (F0 m 2 ls []) := by
    intro n651
    induction n651 with
    | zero =>
      intro x646 x647 H locs ls h_x646 hi648 hn652
      exact absurd hn652 (Nat.not_lt_zero _)
    | succ n651 ih650 =>
      intro x646 x647 H locs ls h_x646 hi648 hn652 hP hD hS hl
      refine lv_iload_n hx hb dX12_findOrder_2 rfl (lv_at hl 0 rfl) ?_
      refine lv_bipush (v := 6) hx hb dX12_findOrder_3 (by decide) ?_
      refine lv_icmp_ge (tgt := 21) hx hb dX12_findOrder_5 (by decide) (fun c653 => ?_) (fun c653 => ?_)
      · have c653 := k_le (a := 6) (b := x646.toInt) (by decide) rfl c653
        refine lv_aload_n hx hb dX12_findOrder_21 rfl (lv_at hl 1 rfl) ?_
        refine lv_ldcw hx hb hown (hB _ b_966) dX12_findOrder_22 ?_
        refine g_put (C := RX12) (T := TX12) (N := 29) (ci := 12) (v := .int 1000000000) FC hKn hP hD hS i_X12 tyX12 tyX12_ok nmX12 0 rfl rfl 21 (by decide) b_1028 rfl rfl rfl (Nat.le_of_ble_eq_true rfl) dX12_findOrder_25 (fun H locs hP hD hS => ?_)
        have hP : va_P g.1 vwCl [(h0, .inr (12, [.int mthrown, .ref a1, .ref a2, .ref a3, .ref a4, .int mtaped, .ref a6, .int msize, .int mat, .int mfrom, .int mtoken, .int mvalue, .int mfaultKind, .int mfaultPlace, .ref a14, .ref a15, .int mgoal, .int mgoalDays, .int mgoalHearer, .ref a19, .ref a20, .int 1000000000, .int mwordsMany, .ref a23, .ref a24, .ref a25, .ref a26, .ref a27, .ref a28])), (a1, .inl (g.2 0, 225, .inl mworld)), (a27, .inl (g.2 3, 240, .inr (.inl mnumbers))), (a25, .inl (g.2 0, 4, .inl mmany)), (a19, .inl (g.2 0, 6, .inl x647)), (a20, .inl (g.2 0, 6, .inl mbestOrder))] H := hP
        have hD : va_D A [(h0, .inr (12, [.int mthrown, .ref a1, .ref a2, .ref a3, .ref a4, .int mtaped, .ref a6, .int msize, .int mat, .int mfrom, .int mtoken, .int mvalue, .int mfaultKind, .int mfaultPlace, .ref a14, .ref a15, .int mgoal, .int mgoalDays, .int mgoalHearer, .ref a19, .ref a20, .int 1000000000, .int mwordsMany, .ref a23, .ref a24, .ref a25, .ref a26, .ref a27, .ref a28])), (a1, .inl (g.2 0, 225, .inl mworld)), (a27, .inl (g.2 3, 240, .inr (.inl mnumbers))), (a25, .inl (g.2 0, 4, .inl mmany)), (a19, .inl (g.2 0, 6, .inl x647)), (a20, .inl (g.2 0, 6, .inl mbestOrder))] := hD
        have lp883 : ∀ (n885 : Nat) (x878 : Int32) (x879 : Int32) (x880 : Nat → Int32) (x881 : Nat → Int32) (H : Heap) (locs : List Loc) (ls : Array Slot), x879.toInt ≤ 1000000000 → odok (mmany p1.toNatClampNeg) x880 → (46656 - onum x880) < n885 → va_P g.1 vwCl [(h0, .inr (12, [.int mthrown, .ref a1, .ref a2, .ref a3, .ref a4, .int mtaped, .ref a6, .int msize, .int mat, .int mfrom, .int mtoken, .int mvalue, .int mfaultKind, .int mfaultPlace, .ref a14, .ref a15, .int mgoal, .int mgoalDays, .int mgoalHearer, .ref a19, .ref a20, .int x879, .int mwordsMany, .ref a23, .ref a24, .ref a25, .ref a26, .ref a27, .ref a28])), (a1, .inl (g.2 0, 225, .inl mworld)), (a27, .inl (g.2 3, 240, .inr (.inl mnumbers))), (a25, .inl (g.2 0, 4, .inl mmany)), (a19, .inl (g.2 0, 6, .inl x880)), (a20, .inl (g.2 0, 6, .inl x881))] H → va_D A [(h0, .inr (12, [.int mthrown, .ref a1, .ref a2, .ref a3, .ref a4, .int mtaped, .ref a6, .int msize, .int mat, .int mfrom, .int mtoken, .int mvalue, .int mfaultKind, .int mfaultPlace, .ref a14, .ref a15, .int mgoal, .int mgoalDays, .int mgoalHearer, .ref a19, .ref a20, .int x879, .int mwordsMany, .ref a23, .ref a24, .ref a25, .ref a26, .ref a27, .ref a28])), (a1, .inl (g.2 0, 225, .inl mworld)), (a27, .inl (g.2 3, 240, .inr (.inl mnumbers))), (a25, .inl (g.2 0, 4, .inl mmany)), (a19, .inl (g.2 0, 6, .inl x880)), (a20, .inl (g.2 0, 6, .inl x881))] → va_S A s.heap H locs → lv_has ls 5 [(3, .int x878), (0, .ref h0), (1, .int p1), (2, .int p2)] → W p l e { frames := 5, cells := 0, slots := 0, locals := 121 } s m ([.ref h0, .int p1, .int p2].toArray) below meth c H locs 0 0 (MQ below (QX (S := (Nat → Int32) × (Nat → Nat → Int32) × (Nat → Nat → Int64)) (fun _ => none) (fun u => True) g (fun u => [(h0, .inr (12, [.int mthrown, .ref a1, .ref a2, .ref a3, .ref a4, .int mtaped, .ref a6, .int msize, .int mat, .int mfrom, .int mtoken, .int mvalue, .int mfaultKind, .int mfaultPlace, .ref a14, .ref a15, .int mgoal, .int mgoalDays, .int mgoalHearer, .ref a19, .ref a20, .int (u.1 1), .int mwordsMany, .ref a23, .ref a24, .ref a25, .ref a26, .ref a27, .ref a28])), (a1, .inl (g.2 0, 225, .inl mworld)), (a27, .inl (g.2 3, 240, .inr (.inl mnumbers))), (a25, .inl (g.2 0, 4, .inl mmany)), (a19, .inl (g.2 0, 6, .inl (u.2.1 0))), (a20, .inl (g.2 0, 6, .inl (u.2.1 1)))]) A) ([.ref h0, .int p1, .int p2].toArray) s 0 0 A) (F0 m 28 ls []) := by
          intro n885
          induction n885 with
          | zero =>
            intro x878 x879 x880 x881 H locs ls h_x879 hi882 hn886
            exact absurd hn886 (Nat.not_lt_zero _)
          | succ n885 ih884 =>
            intro x878 x879 x880 x881 H locs ls h_x879 hi882 hn886 hP hD hS hl
            refine lv_aload_n hx hb dX12_findOrder_28 rfl (lv_at hl 1 rfl) ?_
            refine lv_iload_n hx hb dX12_findOrder_29 rfl (lv_at hl 2 rfl) ?_
            refine lv_iload_n hx hb dX12_findOrder_30 rfl (lv_at hl 3 rfl) ?_
            refine call_V (As := [.int p1, .int p2]) (rest := []) (wr := [(a20, .inl (g.2 0, 6, .inl x881))]) FC hKn hZ (k_X12_leftInOrder l g h0 a1 a2 a3 a4 a6 a14 a15 a19 a20 a23 a24 a25 a26 a27 a28 mthrown mtaped msize mat mfrom mtoken mvalue mfaultKind mfaultPlace mgoal mgoalDays mgoalHearer x879 mwordsMany mworld mnumbers mmany x880 p1 p2 (by omega) (by omega) (by omega) (by omega) (by omega) (by omega) (by omega) (by omega) i_mworld i_mmany (by omega) (by assumption) (by omega) (by assumption)) m_yX12_leftInOrder b_1029 (ci := 12) rfl rfl rfl hP hD hS hA [0, 1, 2, 3, 4] [5] rfl (by decide) rfl (by decide) (by decide) rfl hl.1 rfl (Nat.le_of_ble_eq_true rfl) dX12_findOrder_31 ⟨(Nat.le_of_ble_eq_true rfl), (Nat.le_of_ble_eq_true rfl)⟩ ⟨(Nat.le_of_ble_eq_true rfl), (Nat.le_of_ble_eq_true rfl)⟩ (fun u887 H locs q888 hP hD hS => ?_)
            have hP : va_P g.1 vwCl [(a20, .inl (g.2 0, 6, .inl x881)), (h0, .inr (12, [.int mthrown, .ref a1, .ref a2, .ref a3, .ref a4, .int mtaped, .ref a6, .int msize, .int mat, .int mfrom, .int mtoken, .int mvalue, .int mfaultKind, .int mfaultPlace, .ref a14, .ref a15, .int mgoal, .int mgoalDays, .int mgoalHearer, .ref a19, .ref a20, .int x879, .int mwordsMany, .ref a23, .ref a24, .ref a25, .ref a26, .ref a27, .ref a28])), (a1, .inl (g.2 0, 225, .inl mworld)), (a27, .inl (g.2 3, 240, .inr (.inl mnumbers))), (a25, .inl (g.2 0, 4, .inl mmany)), (a19, .inl (g.2 0, 6, .inl x880))] H := hP
            have hD : va_D A [(a20, .inl (g.2 0, 6, .inl x881)), (h0, .inr (12, [.int mthrown, .ref a1, .ref a2, .ref a3, .ref a4, .int mtaped, .ref a6, .int msize, .int mat, .int mfrom, .int mtoken, .int mvalue, .int mfaultKind, .int mfaultPlace, .ref a14, .ref a15, .int mgoal, .int mgoalDays, .int mgoalHearer, .ref a19, .ref a20, .int x879, .int mwordsMany, .ref a23, .ref a24, .ref a25, .ref a26, .ref a27, .ref a28])), (a1, .inl (g.2 0, 225, .inl mworld)), (a27, .inl (g.2 3, 240, .inr (.inl mnumbers))), (a25, .inl (g.2 0, 4, .inl mmany)), (a19, .inl (g.2 0, 6, .inl x880))] := hD
            refine W.eq (g2 := F0 m 34 ls [.int (u887.1 0)]) rfl ?_
            refine lv_istore_n (lv' := [(3, .int (u887.1 0)), (0, .ref h0), (1, .int p1), (2, .int p2)]) hx hb dX12_findOrder_34 rfl hl (by decide) rfl (fun ls hl => ?_)
            refine lv_iload_n hx hb dX12_findOrder_35 rfl (lv_at hl 0 rfl) ?_
            refine lv_aload_n hx hb dX12_findOrder_36 rfl (lv_at hl 1 rfl) ?_
            refine g_get (C := RX12) (T := TX12) (N := 29) (ci := 12) (v := .int x879) FC hKn hP i_X12 1 rfl rfl 21 (by decide) b_1028 rfl dX12_findOrder_37 ?_
            refine lv_icmp_ge (tgt := 78) hx hb dX12_findOrder_40 (by decide) (fun c889 => ?_) (fun c889 => ?_)
            · have c889 := k_le (a := x879.toInt) (b := (u887.1 0).toInt) rfl rfl c889
              refine lv_aload_n hx hb dX12_findOrder_78 rfl (lv_at hl 1 rfl) ?_
              refine lv_aload_n hx hb dX12_findOrder_79 rfl (lv_at hl 1 rfl) ?_
              refine g_get (C := RX12) (T := TX12) (N := 29) (ci := 12) (v := .ref a25) FC hKn hP i_X12 1 rfl rfl 25 (by decide) b_934 rfl dX12_findOrder_80 ?_
              refine lv_iload_n hx hb dX12_findOrder_83 rfl (lv_at hl 2 rfl) ?_
              refine va_iald hx hb hKn.1 hP 4 0 rfl rfl (vp_in_iff.mpr ⟨by omega, by omega⟩) dX12_findOrder_84 ?_
              refine lv_topi (fun z890 e_z890 => ?_)
              have t_z890 : -1 ≤ z890.toInt ∧ z890.toInt ≤ 60 := by rw [e_z890]; exact i_mmany _ (clt (by omega) (by omega))
              have w_z890 : 0 ≤ z890.toInt ∧ z890.toInt ≤ 6 := by rw [e_z890]; omega
              have q_z890 : z890.toInt = (mmany p1.toNatClampNeg).toInt := by rw [e_z890]
              refine tp_i (v := mmany p1.toNatClampNeg) e_z890 ?_
              refine call_V (As := [.int (mmany p1.toNatClampNeg)]) (rest := []) (wr := [(a20, .inl (g.2 0, 6, .inl x881)), (a1, .inl (g.2 0, 225, .inl mworld)), (a27, .inl (g.2 3, 240, .inr (.inl mnumbers))), (a25, .inl (g.2 0, 4, .inl mmany))]) FC hKn hZ (k_X12_nextOrder l g h0 a1 a2 a3 a4 a6 a14 a15 a19 a20 a23 a24 a25 a26 a27 a28 mthrown mtaped msize mat mfrom mtoken mvalue mfaultKind mfaultPlace mgoal mgoalDays mgoalHearer x879 mwordsMany x880 (mmany p1.toNatClampNeg) (by omega) (by omega) (by omega) (by omega) (by omega) (by omega) (by omega) (by omega) (by omega) (by assumption)) m_yX12_nextOrder b_1030 (ci := 12) rfl rfl rfl hP hD hS hA [1, 5] [0, 2, 3, 4] rfl (by decide) rfl (by decide) (by decide) rfl hl.1 rfl (Nat.le_of_ble_eq_true rfl) dX12_findOrder_85 ⟨(Nat.le_of_ble_eq_true rfl), (Nat.le_of_ble_eq_true rfl)⟩ ⟨(Nat.le_of_ble_eq_true rfl), (Nat.le_of_ble_eq_true rfl)⟩ (fun u891 H locs q892 hP hD hS => ?_)
              obtain ⟨q892_0, q892_1, q892_2⟩ := q892
              have hP : va_P g.1 vwCl [(a20, .inl (g.2 0, 6, .inl x881)), (a1, .inl (g.2 0, 225, .inl mworld)), (a27, .inl (g.2 3, 240, .inr (.inl mnumbers))), (a25, .inl (g.2 0, 4, .inl mmany)), (h0, .inr (12, [.int mthrown, .ref a1, .ref a2, .ref a3, .ref a4, .int mtaped, .ref a6, .int msize, .int mat, .int mfrom, .int mtoken, .int mvalue, .int mfaultKind, .int mfaultPlace, .ref a14, .ref a15, .int mgoal, .int mgoalDays, .int mgoalHearer, .ref a19, .ref a20, .int x879, .int mwordsMany, .ref a23, .ref a24, .ref a25, .ref a26, .ref a27, .ref a28])), (a19, .inl (g.2 0, 6, .inl (u891.2.1 0)))] H := hP
              have hD : va_D A [(a20, .inl (g.2 0, 6, .inl x881)), (a1, .inl (g.2 0, 225, .inl mworld)), (a27, .inl (g.2 3, 240, .inr (.inl mnumbers))), (a25, .inl (g.2 0, 4, .inl mmany)), (h0, .inr (12, [.int mthrown, .ref a1, .ref a2, .ref a3, .ref a4, .int mtaped, .ref a6, .int msize, .int mat, .int mfrom, .int mtoken, .int mvalue, .int mfaultKind, .int mfaultPlace, .ref a14, .ref a15, .int mgoal, .int mgoalDays, .int mgoalHearer, .ref a19, .ref a20, .int x879, .int mwordsMany, .ref a23, .ref a24, .ref a25, .ref a26, .ref a27, .ref a28])), (a19, .inl (g.2 0, 6, .inl (u891.2.1 0)))] := hD
              refine W.eq (g2 := F0 m 88 ls [.int (u891.1 0)]) rfl ?_
              have ob9 := onum_b x880
              have on9 := q892_2
              refine lv_if_ne (tgt := 28) hx hb dX12_findOrder_88 (by decide) (fun c893 => ?_) (fun c893 => ?_)
              · have c893 := k_ne (a := (u891.1 0).toInt) (b := 0) rfl (by decide) c893
                exact ih884 (u887.1 0) x879 (u891.2.1 0) x881 _ _ ls (by omega) q892_1 (by omega) (hP.sub [4, 1, 2, 3, 5, 0] rfl) (hD.sub [4, 1, 2, 3, 5, 0] (by decide) rfl) hS (lv_sub hl [0, 1, 2, 3] rfl)
              · have c893 := k_eq (a := (u891.1 0).toInt) (b := 0) rfl (by decide) c893
                exact rt_v FX ((fun k => match k with | 0 => 0 | 1 => x879 | _ => 0), (fun k => match k with | 0 => u891.2.1 0 | 1 => x881 | _ => fun _ => 0), (fun _ => fun _ => 0)) rfl trivial (hP.sub [4, 1, 2, 3, 5, 0] rfl) (hD.sub [4, 1, 2, 3, 5, 0] (by decide) rfl) hS (Nat.le_of_ble_eq_true rfl) (Nat.le_of_ble_eq_true rfl) dX12_findOrder_91
            · have c889 := k_nle (a := x879.toInt) (b := (u887.1 0).toInt) rfl rfl c889
              refine lv_aload_n hx hb dX12_findOrder_43 rfl (lv_at hl 1 rfl) ?_
              refine lv_iload_n hx hb dX12_findOrder_44 rfl (lv_at hl 0 rfl) ?_
              refine g_put (C := RX12) (T := TX12) (N := 29) (ci := 12) (v := .int (u887.1 0)) FC hKn hP hD hS i_X12 tyX12 tyX12_ok nmX12 1 rfl rfl 21 (by decide) b_1028 rfl rfl rfl (Nat.le_of_ble_eq_true rfl) dX12_findOrder_45 (fun H locs hP hD hS => ?_)
              have hP : va_P g.1 vwCl [(a20, .inl (g.2 0, 6, .inl x881)), (h0, .inr (12, [.int mthrown, .ref a1, .ref a2, .ref a3, .ref a4, .int mtaped, .ref a6, .int msize, .int mat, .int mfrom, .int mtoken, .int mvalue, .int mfaultKind, .int mfaultPlace, .ref a14, .ref a15, .int mgoal, .int mgoalDays, .int mgoalHearer, .ref a19, .ref a20, .int (u887.1 0), .int mwordsMany, .ref a23, .ref a24, .ref a25, .ref a26, .ref a27, .ref a28])), (a1, .inl (g.2 0, 225, .inl mworld)), (a27, .inl (g.2 3, 240, .inr (.inl mnumbers))), (a25, .inl (g.2 0, 4, .inl mmany)), (a19, .inl (g.2 0, 6, .inl x880))] H := hP
              have hD : va_D A [(a20, .inl (g.2 0, 6, .inl x881)), (h0, .inr (12, [.int mthrown, .ref a1, .ref a2, .ref a3, .ref a4, .int mtaped, .ref a6, .int msize, .int mat, .int mfrom, .int mtoken, .int mvalue, .int mfaultKind, .int mfaultPlace, .ref a14, .ref a15, .int mgoal, .int mgoalDays, .int mgoalHearer, .ref a19, .ref a20, .int (u887.1 0), .int mwordsMany, .ref a23, .ref a24, .ref a25, .ref a26, .ref a27, .ref a28])), (a1, .inl (g.2 0, 225, .inl mworld)), (a27, .inl (g.2 3, 240, .inr (.inl mnumbers))), (a25, .inl (g.2 0, 4, .inl mmany)), (a19, .inl (g.2 0, 6, .inl x880))] := hD
              refine lv_iconst (v := 0) hx hb dX12_findOrder_48 (by decide) ?_
              refine lv_istore (lv' := [(4, .int 0), (3, .int (u887.1 0)), (0, .ref h0), (1, .int p1), (2, .int p2)]) hx hb dX12_findOrder_49 hl (by decide) rfl (fun ls hl => ?_)
              have lp947 : ∀ (n949 : Nat) (x945 : Int32) (x946 : Nat → Int32) (H : Heap) (locs : List Loc) (ls : Array Slot), 0 ≤ x945.toInt ∧ x945.toInt ≤ 6 → (6 - x945.toInt).toNat < n949 → va_P g.1 vwCl [(a20, .inl (g.2 0, 6, .inl x946)), (h0, .inr (12, [.int mthrown, .ref a1, .ref a2, .ref a3, .ref a4, .int mtaped, .ref a6, .int msize, .int mat, .int mfrom, .int mtoken, .int mvalue, .int mfaultKind, .int mfaultPlace, .ref a14, .ref a15, .int mgoal, .int mgoalDays, .int mgoalHearer, .ref a19, .ref a20, .int (u887.1 0), .int mwordsMany, .ref a23, .ref a24, .ref a25, .ref a26, .ref a27, .ref a28])), (a1, .inl (g.2 0, 225, .inl mworld)), (a27, .inl (g.2 3, 240, .inr (.inl mnumbers))), (a25, .inl (g.2 0, 4, .inl mmany)), (a19, .inl (g.2 0, 6, .inl x880))] H → va_D A [(a20, .inl (g.2 0, 6, .inl x946)), (h0, .inr (12, [.int mthrown, .ref a1, .ref a2, .ref a3, .ref a4, .int mtaped, .ref a6, .int msize, .int mat, .int mfrom, .int mtoken, .int mvalue, .int mfaultKind, .int mfaultPlace, .ref a14, .ref a15, .int mgoal, .int mgoalDays, .int mgoalHearer, .ref a19, .ref a20, .int (u887.1 0), .int mwordsMany, .ref a23, .ref a24, .ref a25, .ref a26, .ref a27, .ref a28])), (a1, .inl (g.2 0, 225, .inl mworld)), (a27, .inl (g.2 3, 240, .inr (.inl mnumbers))), (a25, .inl (g.2 0, 4, .inl mmany)), (a19, .inl (g.2 0, 6, .inl x880))] → va_S A s.heap H locs → lv_has ls 5 [(4, .int x945), (3, .int (u887.1 0)), (0, .ref h0), (1, .int p1), (2, .int p2)] → W p l e { frames := 5, cells := 0, slots := 0, locals := 121 } s m ([.ref h0, .int p1, .int p2].toArray) below meth c H locs 0 0 (MQ below (QX (S := (Nat → Int32) × (Nat → Nat → Int32) × (Nat → Nat → Int64)) (fun _ => none) (fun u => True) g (fun u => [(h0, .inr (12, [.int mthrown, .ref a1, .ref a2, .ref a3, .ref a4, .int mtaped, .ref a6, .int msize, .int mat, .int mfrom, .int mtoken, .int mvalue, .int mfaultKind, .int mfaultPlace, .ref a14, .ref a15, .int mgoal, .int mgoalDays, .int mgoalHearer, .ref a19, .ref a20, .int (u.1 1), .int mwordsMany, .ref a23, .ref a24, .ref a25, .ref a26, .ref a27, .ref a28])), (a1, .inl (g.2 0, 225, .inl mworld)), (a27, .inl (g.2 3, 240, .inr (.inl mnumbers))), (a25, .inl (g.2 0, 4, .inl mmany)), (a19, .inl (g.2 0, 6, .inl (u.2.1 0))), (a20, .inl (g.2 0, 6, .inl (u.2.1 1)))]) A) ([.ref h0, .int p1, .int p2].toArray) s 0 0 A) (F0 m 51 ls []) := by
                intro n949
                induction n949 with
                | zero =>
                  intro x945 x946 H locs ls h_x945 hn950
                  exact absurd hn950 (Nat.not_lt_zero _)
                | succ n949 ih948 =>
                  intro x945 x946 H locs ls h_x945 hn950 hP hD hS hl
                  refine lv_iload hx hb dX12_findOrder_51 (lv_at hl 0 rfl) ?_
                  refine lv_bipush (v := 6) hx hb dX12_findOrder_53 (by decide) ?_
                  refine lv_icmp_ge (tgt := 78) hx hb dX12_findOrder_55 (by decide) (fun c951 => ?_) (fun c951 => ?_)
                  · have c951 := k_le (a := 6) (b := x945.toInt) (by decide) rfl c951
                    refine lv_aload_n hx hb dX12_findOrder_78 rfl (lv_at hl 2 rfl) ?_
                    refine lv_aload_n hx hb dX12_findOrder_79 rfl (lv_at hl 2 rfl) ?_
                    refine g_get (C := RX12) (T := TX12) (N := 29) (ci := 12) (v := .ref a25) FC hKn hP i_X12 1 rfl rfl 25 (by decide) b_934 rfl dX12_findOrder_80 ?_
                    refine lv_iload_n hx hb dX12_findOrder_83 rfl (lv_at hl 3 rfl) ?_
                    refine va_iald hx hb hKn.1 hP 4 0 rfl rfl (vp_in_iff.mpr ⟨by omega, by omega⟩) dX12_findOrder_84 ?_
                    refine lv_topi (fun z952 e_z952 => ?_)
                    have t_z952 : -1 ≤ z952.toInt ∧ z952.toInt ≤ 60 := by rw [e_z952]; exact i_mmany _ (clt (by omega) (by omega))
                    have w_z952 : 0 ≤ z952.toInt ∧ z952.toInt ≤ 6 := by rw [e_z952]; omega
                    have q_z952 : z952.toInt = (mmany p1.toNatClampNeg).toInt := by rw [e_z952]
                    refine tp_i (v := mmany p1.toNatClampNeg) e_z952 ?_
                    refine call_V (As := [.int (mmany p1.toNatClampNeg)]) (rest := []) (wr := [(a20, .inl (g.2 0, 6, .inl x946)), (a1, .inl (g.2 0, 225, .inl mworld)), (a27, .inl (g.2 3, 240, .inr (.inl mnumbers))), (a25, .inl (g.2 0, 4, .inl mmany))]) FC hKn hZ (k_X12_nextOrder l g h0 a1 a2 a3 a4 a6 a14 a15 a19 a20 a23 a24 a25 a26 a27 a28 mthrown mtaped msize mat mfrom mtoken mvalue mfaultKind mfaultPlace mgoal mgoalDays mgoalHearer (u887.1 0) mwordsMany x880 (mmany p1.toNatClampNeg) (by omega) (by omega) (by omega) (by omega) (by omega) (by omega) (by omega) (by omega) (by omega) (by assumption)) m_yX12_nextOrder b_1030 (ci := 12) rfl rfl rfl hP hD hS hA [1, 5] [0, 2, 3, 4] rfl (by decide) rfl (by decide) (by decide) rfl hl.1 rfl (Nat.le_of_ble_eq_true rfl) dX12_findOrder_85 ⟨(Nat.le_of_ble_eq_true rfl), (Nat.le_of_ble_eq_true rfl)⟩ ⟨(Nat.le_of_ble_eq_true rfl), (Nat.le_of_ble_eq_true rfl)⟩ (fun u953 H locs q954 hP hD hS => ?_)
                    obtain ⟨q954_0, q954_1, q954_2⟩ := q954
                    have hP : va_P g.1 vwCl [(a20, .inl (g.2 0, 6, .inl x946)), (a1, .inl (g.2 0, 225, .inl mworld)), (a27, .inl (g.2 3, 240, .inr (.inl mnumbers))), (a25, .inl (g.2 0, 4, .inl mmany)), (h0, .inr (12, [.int mthrown, .ref a1, .ref a2, .ref a3, .ref a4, .int mtaped, .ref a6, .int msize, .int mat, .int mfrom, .int mtoken, .int mvalue, .int mfaultKind, .int mfaultPlace, .ref a14, .ref a15, .int mgoal, .int mgoalDays, .int mgoalHearer, .ref a19, .ref a20, .int (u887.1 0), .int mwordsMany, .ref a23, .ref a24, .ref a25, .ref a26, .ref a27, .ref a28])), (a19, .inl (g.2 0, 6, .inl (u953.2.1 0)))] H := hP
                    have hD : va_D A [(a20, .inl (g.2 0, 6, .inl x946)), (a1, .inl (g.2 0, 225, .inl mworld)), (a27, .inl (g.2 3, 240, .inr (.inl mnumbers))), (a25, .inl (g.2 0, 4, .inl mmany)), (h0, .inr (12, [.int mthrown, .ref a1, .ref a2, .ref a3, .ref a4, .int mtaped, .ref a6, .int msize, .int mat, .int mfrom, .int mtoken, .int mvalue, .int mfaultKind, .int mfaultPlace, .ref a14, .ref a15, .int mgoal, .int mgoalDays, .int mgoalHearer, .ref a19, .ref a20, .int (u887.1 0), .int mwordsMany, .ref a23, .ref a24, .ref a25, .ref a26, .ref a27, .ref a28])), (a19, .inl (g.2 0, 6, .inl (u953.2.1 0)))] := hD
                    refine W.eq (g2 := F0 m 88 ls [.int (u953.1 0)]) rfl ?_
                    have ob9 := onum_b x880
                    have on9 := q954_2
                    refine lv_if_ne (tgt := 28) hx hb dX12_findOrder_88 (by decide) (fun c955 => ?_) (fun c955 => ?_)
                    · have c955 := k_ne (a := (u953.1 0).toInt) (b := 0) rfl (by decide) c955
                      exact ih884 (u887.1 0) (u887.1 0) (u953.2.1 0) x946 _ _ ls (by omega) q954_1 (by omega) (hP.sub [4, 1, 2, 3, 5, 0] rfl) (hD.sub [4, 1, 2, 3, 5, 0] (by decide) rfl) hS (lv_sub hl [1, 2, 3, 4] rfl)
                    · have c955 := k_eq (a := (u953.1 0).toInt) (b := 0) rfl (by decide) c955
                      exact rt_v FX ((fun k => match k with | 0 => 0 | 1 => u887.1 0 | _ => 0), (fun k => match k with | 0 => u953.2.1 0 | 1 => x946 | _ => fun _ => 0), (fun _ => fun _ => 0)) rfl trivial (hP.sub [4, 1, 2, 3, 5, 0] rfl) (hD.sub [4, 1, 2, 3, 5, 0] (by decide) rfl) hS (Nat.le_of_ble_eq_true rfl) (Nat.le_of_ble_eq_true rfl) dX12_findOrder_91
                  · have c951 := k_nle (a := 6) (b := x945.toInt) (by decide) rfl c951
                    refine lv_aload_n hx hb dX12_findOrder_58 rfl (lv_at hl 2 rfl) ?_
                    refine g_get (C := RX12) (T := TX12) (N := 29) (ci := 12) (v := .ref a20) FC hKn hP i_X12 1 rfl rfl 20 (by decide) b_1031 rfl dX12_findOrder_59 ?_
                    refine lv_iload hx hb dX12_findOrder_62 (lv_at hl 0 rfl) ?_
                    refine lv_aload_n hx hb dX12_findOrder_64 rfl (lv_at hl 2 rfl) ?_
                    refine g_get (C := RX12) (T := TX12) (N := 29) (ci := 12) (v := .ref a19) FC hKn hP i_X12 1 rfl rfl 19 (by decide) b_1023 rfl dX12_findOrder_65 ?_
                    refine lv_iload hx hb dX12_findOrder_68 (lv_at hl 0 rfl) ?_
                    refine va_iald hx hb hKn.1 hP 5 0 rfl rfl (vp_in_iff.mpr ⟨by omega, by omega⟩) dX12_findOrder_70 ?_
                    refine lv_topi (fun z956 e_z956 => ?_)
                    refine va_iast hx hb hKn.1 hP hD hS 0 0 rfl rfl (vp_in_iff.mpr ⟨by omega, by omega⟩) dX12_findOrder_71 (fun H locs hP hD hS => ?_)
                    have hP : va_P g.1 vwCl [(a20, .inl (g.2 0, 6, .inl (upd x946 (x945.toNatClampNeg) z956))), (h0, .inr (12, [.int mthrown, .ref a1, .ref a2, .ref a3, .ref a4, .int mtaped, .ref a6, .int msize, .int mat, .int mfrom, .int mtoken, .int mvalue, .int mfaultKind, .int mfaultPlace, .ref a14, .ref a15, .int mgoal, .int mgoalDays, .int mgoalHearer, .ref a19, .ref a20, .int (u887.1 0), .int mwordsMany, .ref a23, .ref a24, .ref a25, .ref a26, .ref a27, .ref a28])), (a1, .inl (g.2 0, 225, .inl mworld)), (a27, .inl (g.2 3, 240, .inr (.inl mnumbers))), (a25, .inl (g.2 0, 4, .inl mmany)), (a19, .inl (g.2 0, 6, .inl x880))] H := hP
                    have hD : va_D A [(a20, .inl (g.2 0, 6, .inl (upd x946 (x945.toNatClampNeg) z956))), (h0, .inr (12, [.int mthrown, .ref a1, .ref a2, .ref a3, .ref a4, .int mtaped, .ref a6, .int msize, .int mat, .int mfrom, .int mtoken, .int mvalue, .int mfaultKind, .int mfaultPlace, .ref a14, .ref a15, .int mgoal, .int mgoalDays, .int mgoalHearer, .ref a19, .ref a20, .int (u887.1 0), .int mwordsMany, .ref a23, .ref a24, .ref a25, .ref a26, .ref a27, .ref a28])), (a1, .inl (g.2 0, 225, .inl mworld)), (a27, .inl (g.2 3, 240, .inr (.inl mnumbers))), (a25, .inl (g.2 0, 4, .inl mmany)), (a19, .inl (g.2 0, 6, .inl x880))] := hD
                    generalize (upd x946 (x945.toNatClampNeg) z956 : Nat → Int32) = f957 at hP hD
                    obtain ⟨z958, e_z958⟩ : ∃ y : Int32, y = x945 + 1 := ⟨_, rfl⟩
                    have t_z958 : z958.toInt = x945.toInt + 1 := by rw [e_z958]; exact addk (by decide) (by omega) (by omega)
                    refine lv_iinc (v := z958) (lv' := [(4, .int z958), (3, .int (u887.1 0)), (0, .ref h0), (1, .int p1), (2, .int p2)]) hx hb dX12_findOrder_72 hl (k := 0) rfl (by rw [e_z958]; rfl) (by decide) rfl (fun ls hl => ?_)
                    refine lv_goto (tgt := 51) hx hb dX12_findOrder_75 (by decide) ?_
                    exact ih948 z958 f957 _ _ ls (by omega) (by omega) hP hD hS (lv_sub hl [0, 1, 2, 3, 4] rfl)
              have kc0 : (0 : Int32).toInt = 0 := by decide
              exact lp947 _ (0 : Int32) x881 _ _ ls (by decide) (Nat.lt_succ_self _) hP hD hS (lv_sub hl [0, 1, 2, 3, 4] rfl)
        have kc1000000000 : (1000000000 : Int32).toInt = 1000000000 := by decide
        exact lp883 _ x646 (1000000000 : Int32) x647 mbestOrder _ _ ls (by decide) (od_id (by have q9 := hi648; rw [show x646.toInt.toNat = 6 by omega] at q9; exact q9) (by omega)) (Nat.lt_succ_self _) hP hD hS (lv_sub hl [0, 1, 2, 3] rfl)
      · have c653 := k_nle (a := 6) (b := x646.toInt) (by decide) rfl c653
        refine lv_aload_n hx hb dX12_findOrder_8 rfl (lv_at hl 1 rfl) ?_
        refine g_get (C := RX12) (T := TX12) (N := 29) (ci := 12) (v := .ref a19) FC hKn hP i_X12 0 rfl rfl 19 (by decide) b_1023 rfl dX12_findOrder_9 ?_
        refine lv_iload_n hx hb dX12_findOrder_12 rfl (lv_at hl 0 rfl) ?_
        refine lv_iload_n hx hb dX12_findOrder_13 rfl (lv_at hl 0 rfl) ?_
        refine va_iast hx hb hKn.1 hP hD hS 4 0 rfl rfl (vp_in_iff.mpr ⟨by omega, by omega⟩) dX12_findOrder_14 (fun H locs hP hD hS => ?_)
        have hP : va_P g.1 vwCl [(h0, .inr (12, [.int mthrown, .ref a1, .ref a2, .ref a3, .ref a4, .int mtaped, .ref a6, .int msize, .int mat, .int mfrom, .int mtoken, .int mvalue, .int mfaultKind, .int mfaultPlace, .ref a14, .ref a15, .int mgoal, .int mgoalDays, .int mgoalHearer, .ref a19, .ref a20, .int mleastOrder, .int mwordsMany, .ref a23, .ref a24, .ref a25, .ref a26, .ref a27, .ref a28])), (a1, .inl (g.2 0, 225, .inl mworld)), (a27, .inl (g.2 3, 240, .inr (.inl mnumbers))), (a25, .inl (g.2 0, 4, .inl mmany)), (a19, .inl (g.2 0, 6, .inl (upd x647 (x646.toNatClampNeg) x646))), (a20, .inl (g.2 0, 6, .inl mbestOrder))] H := hP
        have hD : va_D A [(h0, .inr (12, [.int mthrown, .ref a1, .ref a2, .ref a3, .ref a4, .int mtaped, .ref a6, .int msize, .int mat, .int mfrom, .int mtoken, .int mvalue, .int mfaultKind, .int mfaultPlace, .ref a14, .ref a15, .int mgoal, .int mgoalDays, .int mgoalHearer, .ref a19, .ref a20, .int mleastOrder, .int mwordsMany, .ref a23, .ref a24, .ref a25, .ref a26, .ref a27, .ref a28])), (a1, .inl (g.2 0, 225, .inl mworld)), (a27, .inl (g.2 3, 240, .inr (.inl mnumbers))), (a25, .inl (g.2 0, 4, .inl mmany)), (a19, .inl (g.2 0, 6, .inl (upd x647 (x646.toNatClampNeg) x646))), (a20, .inl (g.2 0, 6, .inl mbestOrder))] := hD
        generalize E_f959 : (upd x647 (x646.toNatClampNeg) x646 : Nat → Int32) = f959 at hP hD
        obtain ⟨z960, e_z960⟩ : ∃ y : Int32, y = x646 + 1 := ⟨_, rfl⟩
        have t_z960 : z960.toInt = x646.toInt + 1 := by rw [e_z960]; exact addk (by decide) (by omega) (by omega)
        refine lv_iinc (v := z960) (lv' := [(3, .int z960), (0, .ref h0), (1, .int p1), (2, .int p2)]) hx hb dX12_findOrder_15 hl (k := 0) rfl (by rw [e_z960]; rfl) (by decide) rfl (fun ls hl => ?_)
        refine lv_goto (tgt := 2) hx hb dX12_findOrder_18 (by decide) ?_
        exact ih650 z960 f959 _ _ ls (by omega) (by rw [← E_f959]; exact idf_s hi648 (n := x646.toInt.toNat) (by omega) (ixe (by omega)) (nIt (by omega)).symm) (by omega) hP hD hS (lv_sub hl [0, 1, 2, 3] rfl)
  have kc0 : (0 : Int32).toInt = 0 := by decide
  exact lp649 _ (0 : Int32) morder _ _ ls (by decide) (fun j hj => absurd hj (by rw [show (0 : Int32).toInt = 0 by decide]; omega)) (Nat.lt_succ_self _) hP hD hS (lv_sub hl [0, 1, 2, 3] rfl)
set_option maxRecDepth 100000 in
set_option maxHeartbeats 4000000 in
theorem k_X12_asksOrder (l : Launch) (g : GG) (h0 : Nat) (a1 : Nat) (a2 : Nat) (a3 : Nat) (a4 : Nat) (a6 : Nat) (a14 : Nat) (a15 : Nat) (a19 : Nat) (a20 : Nat) (a23 : Nat) (a24 : Nat) (a25 : Nat) (a26 : Nat) (a27 : Nat) (a28 : Nat) (mthrown : Int32) (mtaped : Int32) (msize : Int32) (mat : Int32) (mfrom : Int32) (mtoken : Int32) (mvalue : Int32) (mfaultKind : Int32) (mfaultPlace : Int32) (mgoal : Int32) (mgoalDays : Int32) (mgoalHearer : Int32) (mleastOrder : Int32) (mwordsMany : Int32) (mworld : Nat → Int32) (mnumbers : Nat → Int64) (mmany : Nat → Int32) (p1 : Int32) (p2 : Int32) (i_mtaped : 0 ≤ mtaped.toInt ∧ mtaped.toInt ≤ 900) (i_msize : 0 ≤ msize.toInt ∧ msize.toInt ≤ 900) (i_mat : 0 ≤ mat.toInt ∧ mat.toInt ≤ 900) (i_mfrom : 0 ≤ mfrom.toInt ∧ mfrom.toInt ≤ 900) (i_mtoken : 0 ≤ mtoken.toInt ∧ mtoken.toInt ≤ 4) (i_mvalue : 0 ≤ mvalue.toInt ∧ mvalue.toInt ≤ 99999) (i_mgoalHearer : 0 ≤ mgoalHearer.toInt ∧ mgoalHearer.toInt ≤ 3) (i_mwordsMany : 0 ≤ mwordsMany.toInt ∧ mwordsMany.toInt ≤ 10) (i_mworld : wod mworld) (i_mmany : ab mmany 4 (-1) 60) : Ct l g yX12_asksOrder cX12_asksOrder 4 (some .int) { frames := 4, cells := 0, slots := 0, locals := 92 } [.ref h0, .int p1, .int p2] [(h0, .inr (12, [.int mthrown, .ref a1, .ref a2, .ref a3, .ref a4, .int mtaped, .ref a6, .int msize, .int mat, .int mfrom, .int mtoken, .int mvalue, .int mfaultKind, .int mfaultPlace, .ref a14, .ref a15, .int mgoal, .int mgoalDays, .int mgoalHearer, .ref a19, .ref a20, .int mleastOrder, .int mwordsMany, .ref a23, .ref a24, .ref a25, .ref a26, .ref a27, .ref a28])), (a1, .inl (g.2 0, 225, .inl mworld)), (a27, .inl (g.2 3, 240, .inr (.inl mnumbers))), (a25, .inl (g.2 0, 4, .inl mmany))] (S := (Nat → Int32) × (Nat → Nat → Int32) × (Nat → Nat → Int64)) (fun u => some (.int (u.1 0))) (fun u => (-6 ≤ (u.1 0).toInt ∧ (u.1 0).toInt ≤ 0) ∧ ((u.1 0).toInt = 0 → wkok mworld mnumbers mmany p1) ∧ ((u.1 0).toInt = 0 → ((mmany p1.toNatClampNeg).toInt ≤ 6 ∧ 0 ≤ p2.toInt ∧ p2.toInt ≤ 3))) (fun u => [(h0, .inr (12, [.int mthrown, .ref a1, .ref a2, .ref a3, .ref a4, .int mtaped, .ref a6, .int msize, .int mat, .int mfrom, .int mtoken, .int mvalue, .int mfaultKind, .int mfaultPlace, .ref a14, .ref a15, .int mgoal, .int mgoalDays, .int mgoalHearer, .ref a19, .ref a20, .int mleastOrder, .int mwordsMany, .ref a23, .ref a24, .ref a25, .ref a26, .ref a27, .ref a28])), (a1, .inl (g.2 0, 225, .inl mworld)), (a27, .inl (g.2 3, 240, .inr (.inl mnumbers))), (a25, .inl (g.2 0, 4, .inl mmany))]) := by
  refine Ct.of (by decide) (Nat.le_of_ble_eq_true rfl) ?_
  intro p e s m below meth c A ls FX hP hD hS hl
  obtain ⟨FC, hr, hlk, hKn, hA, hnm, hZ⟩ := id FX
  have FC : CallFix p m c cX12_asksOrder 4 s _ BIG RX12 := FC
  obtain ⟨hx, hb, hml, hown, hB⟩ := id FC
  have hl : lv_has ls 4 [(0, .ref h0), (1, .int p1), (2, .int p2)] := hl
  refine lv_aload_n hx hb dX12_asksOrder_0 rfl (lv_at hl 0 rfl) ?_
  refine lv_iload_n hx hb dX12_asksOrder_1 rfl (lv_at hl 1 rfl) ?_
  refine lv_aload_n hx hb dX12_asksOrder_2 rfl (lv_at hl 0 rfl) ?_
  refine lv_iload_n hx hb dX12_asksOrder_3 rfl (lv_at hl 2 rfl) ?_
  refine call_V (As := [.int p2]) (rest := [.int p1, .ref h0]) (wr := [(a27, .inl (g.2 3, 240, .inr (.inl mnumbers))), (a25, .inl (g.2 0, 4, .inl mmany))]) FC hKn hZ (k_X12_isHearer l g h0 a1 a2 a3 a4 a6 a14 a15 a19 a20 a23 a24 a25 a26 a27 a28 mthrown mtaped msize mat mfrom mtoken mvalue mfaultKind mfaultPlace mgoal mgoalDays mgoalHearer mleastOrder mwordsMany mworld p2 (by omega) (by omega) (by omega) (by omega) (by omega) (by omega) (by omega) (by omega) i_mworld) m_yX12_isHearer b_881 (ci := 12) rfl rfl rfl hP hD hS hA [0, 1] [2, 3] rfl (by decide) rfl (by decide) (by decide) rfl hl.1 rfl (Nat.le_of_ble_eq_true rfl) dX12_asksOrder_4 ⟨(Nat.le_of_ble_eq_true rfl), (Nat.le_of_ble_eq_true rfl)⟩ ⟨(Nat.le_of_ble_eq_true rfl), (Nat.le_of_ble_eq_true rfl)⟩ (fun u1 H locs q2 hP hD hS => ?_)
  obtain ⟨q2_0, q2_1⟩ := q2
  have hP : va_P g.1 vwCl [(a27, .inl (g.2 3, 240, .inr (.inl mnumbers))), (a25, .inl (g.2 0, 4, .inl mmany)), (h0, .inr (12, [.int mthrown, .ref a1, .ref a2, .ref a3, .ref a4, .int mtaped, .ref a6, .int msize, .int mat, .int mfrom, .int mtoken, .int mvalue, .int mfaultKind, .int mfaultPlace, .ref a14, .ref a15, .int mgoal, .int mgoalDays, .int mgoalHearer, .ref a19, .ref a20, .int mleastOrder, .int mwordsMany, .ref a23, .ref a24, .ref a25, .ref a26, .ref a27, .ref a28])), (a1, .inl (g.2 0, 225, .inl mworld))] H := hP
  have hD : va_D A [(a27, .inl (g.2 3, 240, .inr (.inl mnumbers))), (a25, .inl (g.2 0, 4, .inl mmany)), (h0, .inr (12, [.int mthrown, .ref a1, .ref a2, .ref a3, .ref a4, .int mtaped, .ref a6, .int msize, .int mat, .int mfrom, .int mtoken, .int mvalue, .int mfaultKind, .int mfaultPlace, .ref a14, .ref a15, .int mgoal, .int mgoalDays, .int mgoalHearer, .ref a19, .ref a20, .int mleastOrder, .int mwordsMany, .ref a23, .ref a24, .ref a25, .ref a26, .ref a27, .ref a28])), (a1, .inl (g.2 0, 225, .inl mworld))] := hD
  refine W.eq (g2 := F0 m 7 ls [.int (u1.1 0), .int p1, .ref h0]) rfl ?_
  rcases (show (u1.1 0).toInt = 0 ∨ (u1.1 0).toInt = 1 by omega) with c3 | c3
  · skip
    refine call_V (As := [.int p1, .int (u1.1 0)]) (rest := []) (wr := []) FC hKn hZ (k_X12_asksWeek l g h0 a1 a2 a3 a4 a6 a14 a15 a19 a20 a23 a24 a25 a26 a27 a28 mthrown mtaped msize mat mfrom mtoken mvalue mfaultKind mfaultPlace mgoal mgoalDays mgoalHearer mleastOrder mwordsMany mworld mnumbers mmany p1 (u1.1 0) (by omega) (by omega) (by omega) (by omega) (by omega) (by omega) (by omega) (by omega) i_mworld i_mmany (by omega)) m_yX12_asksWeek b_940 (ci := 12) rfl rfl rfl hP hD hS hA [2, 3, 0, 1] [] rfl (by decide) rfl (by decide) (by decide) rfl hl.1 rfl (Nat.le_of_ble_eq_true rfl) dX12_asksOrder_7 ⟨(Nat.le_of_ble_eq_true rfl), (Nat.le_of_ble_eq_true rfl)⟩ ⟨(Nat.le_of_ble_eq_true rfl), (Nat.le_of_ble_eq_true rfl)⟩ (fun u4 H locs q5 hP hD hS => ?_)
    obtain ⟨q5_0, q5_1, q5_2⟩ := q5
    have hP : va_P g.1 vwCl [(h0, .inr (12, [.int mthrown, .ref a1, .ref a2, .ref a3, .ref a4, .int mtaped, .ref a6, .int msize, .int mat, .int mfrom, .int mtoken, .int mvalue, .int mfaultKind, .int mfaultPlace, .ref a14, .ref a15, .int mgoal, .int mgoalDays, .int mgoalHearer, .ref a19, .ref a20, .int mleastOrder, .int mwordsMany, .ref a23, .ref a24, .ref a25, .ref a26, .ref a27, .ref a28])), (a1, .inl (g.2 0, 225, .inl mworld)), (a27, .inl (g.2 3, 240, .inr (.inl mnumbers))), (a25, .inl (g.2 0, 4, .inl mmany))] H := hP
    have hD : va_D A [(h0, .inr (12, [.int mthrown, .ref a1, .ref a2, .ref a3, .ref a4, .int mtaped, .ref a6, .int msize, .int mat, .int mfrom, .int mtoken, .int mvalue, .int mfaultKind, .int mfaultPlace, .ref a14, .ref a15, .int mgoal, .int mgoalDays, .int mgoalHearer, .ref a19, .ref a20, .int mleastOrder, .int mwordsMany, .ref a23, .ref a24, .ref a25, .ref a26, .ref a27, .ref a28])), (a1, .inl (g.2 0, 225, .inl mworld)), (a27, .inl (g.2 3, 240, .inr (.inl mnumbers))), (a25, .inl (g.2 0, 4, .inl mmany))] := hD
    refine W.eq (g2 := F0 m 10 ls [.int (u4.1 0)]) rfl ?_
    rcases (show (u4.1 0).toInt < 0 ∨ (u4.1 0).toInt = 0 by omega) with c6 | c6
    · skip
      refine lv_istore_n (lv' := [(3, .int (u4.1 0)), (0, .ref h0), (1, .int p1), (2, .int p2)]) hx hb dX12_asksOrder_10 rfl hl (by decide) rfl (fun ls hl => ?_)
      refine lv_iload_n hx hb dX12_asksOrder_11 rfl (lv_at hl 0 rfl) ?_
      refine lv_if_ge (tgt := 19) hx hb dX12_asksOrder_12 (by decide) (fun c7 => ?_) (fun c7 => ?_)
      · have c7 := k_le (a := 0) (b := (u4.1 0).toInt) (by decide) rfl c7
        exfalso; omega
      · have c7 := k_nle (a := 0) (b := (u4.1 0).toInt) (by decide) rfl c7
        refine lv_iload_n hx hb dX12_asksOrder_15 rfl (lv_at hl 0 rfl) ?_
        refine lv_goto (tgt := 36) hx hb dX12_asksOrder_16 (by decide) ?_
        exact rt_i FX ((fun k => match k with | 0 => u4.1 0 | _ => 0), (fun _ => fun _ => 0), (fun _ => fun _ => 0)) rfl ⟨(show -6 ≤ (u4.1 0).toInt ∧ (u4.1 0).toInt ≤ 0 by omega), (show (u4.1 0).toInt = 0 → wkok mworld mnumbers mmany p1 from (fun h9 => absurd (show (u4.1 0).toInt = 0 from h9) (by omega))), (show (u4.1 0).toInt = 0 → ((mmany p1.toNatClampNeg).toInt ≤ 6 ∧ 0 ≤ p2.toInt ∧ p2.toInt ≤ 3) by omega)⟩ (hP.sub [0, 1, 2, 3] rfl) (hD.sub [0, 1, 2, 3] (by decide) rfl) hS (Nat.le_of_ble_eq_true rfl) (Nat.le_of_ble_eq_true rfl) dX12_asksOrder_36
    · have c6_2 := q5_2 c6
      exfalso; omega
  · have c3_r := q2_1 c3
    refine call_V (As := [.int p1, .int (u1.1 0)]) (rest := []) (wr := []) FC hKn hZ (k_X12_asksWeek l g h0 a1 a2 a3 a4 a6 a14 a15 a19 a20 a23 a24 a25 a26 a27 a28 mthrown mtaped msize mat mfrom mtoken mvalue mfaultKind mfaultPlace mgoal mgoalDays mgoalHearer mleastOrder mwordsMany mworld mnumbers mmany p1 (u1.1 0) (by omega) (by omega) (by omega) (by omega) (by omega) (by omega) (by omega) (by omega) i_mworld i_mmany (by omega)) m_yX12_asksWeek b_940 (ci := 12) rfl rfl rfl hP hD hS hA [2, 3, 0, 1] [] rfl (by decide) rfl (by decide) (by decide) rfl hl.1 rfl (Nat.le_of_ble_eq_true rfl) dX12_asksOrder_7 ⟨(Nat.le_of_ble_eq_true rfl), (Nat.le_of_ble_eq_true rfl)⟩ ⟨(Nat.le_of_ble_eq_true rfl), (Nat.le_of_ble_eq_true rfl)⟩ (fun u8 H locs q9 hP hD hS => ?_)
    obtain ⟨q9_0, q9_1, q9_2⟩ := q9
    have hP : va_P g.1 vwCl [(h0, .inr (12, [.int mthrown, .ref a1, .ref a2, .ref a3, .ref a4, .int mtaped, .ref a6, .int msize, .int mat, .int mfrom, .int mtoken, .int mvalue, .int mfaultKind, .int mfaultPlace, .ref a14, .ref a15, .int mgoal, .int mgoalDays, .int mgoalHearer, .ref a19, .ref a20, .int mleastOrder, .int mwordsMany, .ref a23, .ref a24, .ref a25, .ref a26, .ref a27, .ref a28])), (a1, .inl (g.2 0, 225, .inl mworld)), (a27, .inl (g.2 3, 240, .inr (.inl mnumbers))), (a25, .inl (g.2 0, 4, .inl mmany))] H := hP
    have hD : va_D A [(h0, .inr (12, [.int mthrown, .ref a1, .ref a2, .ref a3, .ref a4, .int mtaped, .ref a6, .int msize, .int mat, .int mfrom, .int mtoken, .int mvalue, .int mfaultKind, .int mfaultPlace, .ref a14, .ref a15, .int mgoal, .int mgoalDays, .int mgoalHearer, .ref a19, .ref a20, .int mleastOrder, .int mwordsMany, .ref a23, .ref a24, .ref a25, .ref a26, .ref a27, .ref a28])), (a1, .inl (g.2 0, 225, .inl mworld)), (a27, .inl (g.2 3, 240, .inr (.inl mnumbers))), (a25, .inl (g.2 0, 4, .inl mmany))] := hD
    refine W.eq (g2 := F0 m 10 ls [.int (u8.1 0)]) rfl ?_
    rcases (show (u8.1 0).toInt < 0 ∨ (u8.1 0).toInt = 0 by omega) with c10 | c10
    · skip
      refine lv_istore_n (lv' := [(3, .int (u8.1 0)), (0, .ref h0), (1, .int p1), (2, .int p2)]) hx hb dX12_asksOrder_10 rfl hl (by decide) rfl (fun ls hl => ?_)
      refine lv_iload_n hx hb dX12_asksOrder_11 rfl (lv_at hl 0 rfl) ?_
      refine lv_if_ge (tgt := 19) hx hb dX12_asksOrder_12 (by decide) (fun c11 => ?_) (fun c11 => ?_)
      · have c11 := k_le (a := 0) (b := (u8.1 0).toInt) (by decide) rfl c11
        exfalso; omega
      · have c11 := k_nle (a := 0) (b := (u8.1 0).toInt) (by decide) rfl c11
        refine lv_iload_n hx hb dX12_asksOrder_15 rfl (lv_at hl 0 rfl) ?_
        refine lv_goto (tgt := 36) hx hb dX12_asksOrder_16 (by decide) ?_
        exact rt_i FX ((fun k => match k with | 0 => u8.1 0 | _ => 0), (fun _ => fun _ => 0), (fun _ => fun _ => 0)) rfl ⟨(show -6 ≤ (u8.1 0).toInt ∧ (u8.1 0).toInt ≤ 0 by omega), (show (u8.1 0).toInt = 0 → wkok mworld mnumbers mmany p1 from (fun h9 => absurd (show (u8.1 0).toInt = 0 from h9) (by omega))), (show (u8.1 0).toInt = 0 → ((mmany p1.toNatClampNeg).toInt ≤ 6 ∧ 0 ≤ p2.toInt ∧ p2.toInt ≤ 3) by omega)⟩ (hP.sub [0, 1, 2, 3] rfl) (hD.sub [0, 1, 2, 3] (by decide) rfl) hS (Nat.le_of_ble_eq_true rfl) (Nat.le_of_ble_eq_true rfl) dX12_asksOrder_36
    · have hw12 := q9_1 c10
      have hw12b := hw12.2.1
      have hw12a := hw12.1
      refine lv_istore_n (lv' := [(3, .int (u8.1 0)), (0, .ref h0), (1, .int p1), (2, .int p2)]) hx hb dX12_asksOrder_10 rfl hl (by decide) rfl (fun ls hl => ?_)
      refine lv_iload_n hx hb dX12_asksOrder_11 rfl (lv_at hl 0 rfl) ?_
      refine lv_if_ge (tgt := 19) hx hb dX12_asksOrder_12 (by decide) (fun c13 => ?_) (fun c13 => ?_)
      · have c13 := k_le (a := 0) (b := (u8.1 0).toInt) (by decide) rfl c13
        refine lv_aload_n hx hb dX12_asksOrder_19 rfl (lv_at hl 1 rfl) ?_
        refine g_get (C := RX12) (T := TX12) (N := 29) (ci := 12) (v := .ref a25) FC hKn hP i_X12 0 rfl rfl 25 (by decide) b_934 rfl dX12_asksOrder_20 ?_
        refine lv_iload_n hx hb dX12_asksOrder_23 rfl (lv_at hl 2 rfl) ?_
        refine va_iald hx hb hKn.1 hP 3 0 rfl rfl (vp_in_iff.mpr ⟨by omega, by omega⟩) dX12_asksOrder_24 ?_
        refine lv_topi (fun z14 e_z14 => ?_)
        have t_z14 : -1 ≤ z14.toInt ∧ z14.toInt ≤ 60 := by rw [e_z14]; exact i_mmany _ (clt (by omega) (by omega))
        have w_z14 : 0 ≤ z14.toInt ∧ z14.toInt ≤ 10 := by rw [e_z14]; exact hw12.2.1
        have q_z14 : z14.toInt = (mmany p1.toNatClampNeg).toInt := by rw [e_z14]
        refine lv_bipush (v := 6) hx hb dX12_asksOrder_25 (by decide) ?_
        refine lv_icmp_le (tgt := 35) hx hb dX12_asksOrder_27 (by decide) (fun c15 => ?_) (fun c15 => ?_)
        · have c15 := k_le (a := z14.toInt) (b := 6) rfl (by decide) c15
          refine lv_iconst (v := 0) hx hb dX12_asksOrder_35 (by decide) ?_
          have kc0 : (0 : Int32).toInt = 0 := by decide
          exact rt_i FX ((fun k => match k with | 0 => (0 : Int32) | _ => 0), (fun _ => fun _ => 0), (fun _ => fun _ => 0)) rfl ⟨(show -6 ≤ ((0 : Int32)).toInt ∧ ((0 : Int32)).toInt ≤ 0 by decide), (show ((0 : Int32)).toInt = 0 → wkok mworld mnumbers mmany p1 from (fun _ => hw12)), (show ((0 : Int32)).toInt = 0 → ((mmany p1.toNatClampNeg).toInt ≤ 6 ∧ 0 ≤ p2.toInt ∧ p2.toInt ≤ 3) by omega)⟩ (hP.sub [0, 1, 2, 3] rfl) (hD.sub [0, 1, 2, 3] (by decide) rfl) hS (Nat.le_of_ble_eq_true rfl) (Nat.le_of_ble_eq_true rfl) dX12_asksOrder_36
        · have c15 := k_nle (a := z14.toInt) (b := 6) rfl (by decide) c15
          refine lv_bipush (v := -2) hx hb dX12_asksOrder_30 (by decide) ?_
          refine lv_goto (tgt := 36) hx hb dX12_asksOrder_32 (by decide) ?_
          have kcm2 : (-2 : Int32).toInt = -2 := by decide
          exact rt_i FX ((fun k => match k with | 0 => (-2 : Int32) | _ => 0), (fun _ => fun _ => 0), (fun _ => fun _ => 0)) rfl ⟨(show -6 ≤ ((-2 : Int32)).toInt ∧ ((-2 : Int32)).toInt ≤ 0 by decide), (show ((-2 : Int32)).toInt = 0 → wkok mworld mnumbers mmany p1 from (fun h => absurd h (by decide))), (show ((-2 : Int32)).toInt = 0 → ((mmany p1.toNatClampNeg).toInt ≤ 6 ∧ 0 ≤ p2.toInt ∧ p2.toInt ≤ 3) by omega)⟩ (hP.sub [0, 1, 2, 3] rfl) (hD.sub [0, 1, 2, 3] (by decide) rfl) hS (Nat.le_of_ble_eq_true rfl) (Nat.le_of_ble_eq_true rfl) dX12_asksOrder_36
      · have c13 := k_nle (a := 0) (b := (u8.1 0).toInt) (by decide) rfl c13
        exfalso; omega
set_option maxRecDepth 100000 in
set_option maxHeartbeats 4000000 in
theorem k_X12_softer (l : Launch) (g : GG) (h0 : Nat) (a1 : Nat) (a2 : Nat) (a3 : Nat) (a4 : Nat) (a6 : Nat) (a14 : Nat) (a15 : Nat) (a19 : Nat) (a20 : Nat) (a23 : Nat) (a24 : Nat) (a25 : Nat) (a26 : Nat) (a27 : Nat) (a28 : Nat) (mthrown : Int32) (mtaped : Int32) (msize : Int32) (mat : Int32) (mfrom : Int32) (mtoken : Int32) (mvalue : Int32) (mfaultKind : Int32) (mfaultPlace : Int32) (mgoal : Int32) (mgoalDays : Int32) (mgoalHearer : Int32) (mleastOrder : Int32) (mwordsMany : Int32) (mworld : Nat → Int32) (mnumbers : Nat → Int64) (mmany : Nat → Int32) (morder : Nat → Int32) (mbestOrder : Nat → Int32) (p1 : Int32) (p2 : Int32) (i_mtaped : 0 ≤ mtaped.toInt ∧ mtaped.toInt ≤ 900) (i_msize : 0 ≤ msize.toInt ∧ msize.toInt ≤ 900) (i_mat : 0 ≤ mat.toInt ∧ mat.toInt ≤ 900) (i_mfrom : 0 ≤ mfrom.toInt ∧ mfrom.toInt ≤ 900) (i_mtoken : 0 ≤ mtoken.toInt ∧ mtoken.toInt ≤ 4) (i_mvalue : 0 ≤ mvalue.toInt ∧ mvalue.toInt ≤ 99999) (i_mgoalHearer : 0 ≤ mgoalHearer.toInt ∧ mgoalHearer.toInt ≤ 3) (i_mwordsMany : 0 ≤ mwordsMany.toInt ∧ mwordsMany.toInt ≤ 10) (i_mworld : wod mworld) (i_mmany : ab mmany 4 (-1) 60) : Ct l g yX12_softer cX12_softer 4 (some .int) { frames := 6, cells := 0, slots := 0, locals := 145 } [.ref h0, .int p1, .int p2] [(h0, .inr (12, [.int mthrown, .ref a1, .ref a2, .ref a3, .ref a4, .int mtaped, .ref a6, .int msize, .int mat, .int mfrom, .int mtoken, .int mvalue, .int mfaultKind, .int mfaultPlace, .ref a14, .ref a15, .int mgoal, .int mgoalDays, .int mgoalHearer, .ref a19, .ref a20, .int mleastOrder, .int mwordsMany, .ref a23, .ref a24, .ref a25, .ref a26, .ref a27, .ref a28])), (a1, .inl (g.2 0, 225, .inl mworld)), (a27, .inl (g.2 3, 240, .inr (.inl mnumbers))), (a25, .inl (g.2 0, 4, .inl mmany)), (a19, .inl (g.2 0, 6, .inl morder)), (a20, .inl (g.2 0, 6, .inl mbestOrder))] (S := (Nat → Int32) × (Nat → Nat → Int32) × (Nat → Nat → Int64)) (fun u => some (.int (u.1 0))) (fun u => True) (fun u => [(h0, .inr (12, [.int mthrown, .ref a1, .ref a2, .ref a3, .ref a4, .int mtaped, .ref a6, .int msize, .int mat, .int mfrom, .int mtoken, .int mvalue, .int mfaultKind, .int mfaultPlace, .ref a14, .ref a15, .int mgoal, .int mgoalDays, .int mgoalHearer, .ref a19, .ref a20, .int (u.1 1), .int mwordsMany, .ref a23, .ref a24, .ref a25, .ref a26, .ref a27, .ref a28])), (a1, .inl (g.2 0, 225, .inl mworld)), (a27, .inl (g.2 3, 240, .inr (.inl mnumbers))), (a25, .inl (g.2 0, 4, .inl mmany)), (a19, .inl (g.2 0, 6, .inl (u.2.1 0))), (a20, .inl (g.2 0, 6, .inl (u.2.1 1)))]) := by
  refine Ct.of (by decide) (Nat.le_of_ble_eq_true rfl) ?_
  intro p e s m below meth c A ls FX hP hD hS hl
  obtain ⟨FC, hr, hlk, hKn, hA, hnm, hZ⟩ := id FX
  have FC : CallFix p m c cX12_softer 4 s _ BIG RX12 := FC
  obtain ⟨hx, hb, hml, hown, hB⟩ := id FC
  have hl : lv_has ls 4 [(0, .ref h0), (1, .int p1), (2, .int p2)] := hl
  refine lv_aload_n hx hb dX12_softer_0 rfl (lv_at hl 0 rfl) ?_
  refine lv_iload_n hx hb dX12_softer_1 rfl (lv_at hl 1 rfl) ?_
  refine lv_iload_n hx hb dX12_softer_2 rfl (lv_at hl 2 rfl) ?_
  refine call_V (As := [.int p1, .int p2]) (rest := []) (wr := [(a19, .inl (g.2 0, 6, .inl morder)), (a20, .inl (g.2 0, 6, .inl mbestOrder))]) FC hKn hZ (k_X12_asksOrder l g h0 a1 a2 a3 a4 a6 a14 a15 a19 a20 a23 a24 a25 a26 a27 a28 mthrown mtaped msize mat mfrom mtoken mvalue mfaultKind mfaultPlace mgoal mgoalDays mgoalHearer mleastOrder mwordsMany mworld mnumbers mmany p1 p2 (by omega) (by omega) (by omega) (by omega) (by omega) (by omega) (by omega) (by omega) i_mworld i_mmany) m_yX12_asksOrder b_1032 (ci := 12) rfl rfl rfl hP hD hS hA [0, 1, 2, 3] [4, 5] rfl (by decide) rfl (by decide) (by decide) rfl hl.1 rfl (Nat.le_of_ble_eq_true rfl) dX12_softer_3 ⟨(Nat.le_of_ble_eq_true rfl), (Nat.le_of_ble_eq_true rfl)⟩ ⟨(Nat.le_of_ble_eq_true rfl), (Nat.le_of_ble_eq_true rfl)⟩ (fun u1 H locs q2 hP hD hS => ?_)
  obtain ⟨q2_0, q2_1, q2_2⟩ := q2
  have hP : va_P g.1 vwCl [(a19, .inl (g.2 0, 6, .inl morder)), (a20, .inl (g.2 0, 6, .inl mbestOrder)), (h0, .inr (12, [.int mthrown, .ref a1, .ref a2, .ref a3, .ref a4, .int mtaped, .ref a6, .int msize, .int mat, .int mfrom, .int mtoken, .int mvalue, .int mfaultKind, .int mfaultPlace, .ref a14, .ref a15, .int mgoal, .int mgoalDays, .int mgoalHearer, .ref a19, .ref a20, .int mleastOrder, .int mwordsMany, .ref a23, .ref a24, .ref a25, .ref a26, .ref a27, .ref a28])), (a1, .inl (g.2 0, 225, .inl mworld)), (a27, .inl (g.2 3, 240, .inr (.inl mnumbers))), (a25, .inl (g.2 0, 4, .inl mmany))] H := hP
  have hD : va_D A [(a19, .inl (g.2 0, 6, .inl morder)), (a20, .inl (g.2 0, 6, .inl mbestOrder)), (h0, .inr (12, [.int mthrown, .ref a1, .ref a2, .ref a3, .ref a4, .int mtaped, .ref a6, .int msize, .int mat, .int mfrom, .int mtoken, .int mvalue, .int mfaultKind, .int mfaultPlace, .ref a14, .ref a15, .int mgoal, .int mgoalDays, .int mgoalHearer, .ref a19, .ref a20, .int mleastOrder, .int mwordsMany, .ref a23, .ref a24, .ref a25, .ref a26, .ref a27, .ref a28])), (a1, .inl (g.2 0, 225, .inl mworld)), (a27, .inl (g.2 3, 240, .inr (.inl mnumbers))), (a25, .inl (g.2 0, 4, .inl mmany))] := hD
  refine W.eq (g2 := F0 m 6 ls [.int (u1.1 0)]) rfl ?_
  rcases (show (u1.1 0).toInt < 0 ∨ (u1.1 0).toInt = 0 by omega) with c3 | c3
  · skip
    refine lv_istore_n (lv' := [(3, .int (u1.1 0)), (0, .ref h0), (1, .int p1), (2, .int p2)]) hx hb dX12_softer_6 rfl hl (by decide) rfl (fun ls hl => ?_)
    refine lv_iload_n hx hb dX12_softer_7 rfl (lv_at hl 0 rfl) ?_
    refine lv_if_ge (tgt := 13) hx hb dX12_softer_8 (by decide) (fun c4 => ?_) (fun c4 => ?_)
    · have c4 := k_le (a := 0) (b := (u1.1 0).toInt) (by decide) rfl c4
      exfalso; omega
    · have c4 := k_nle (a := 0) (b := (u1.1 0).toInt) (by decide) rfl c4
      refine lv_iload_n hx hb dX12_softer_11 rfl (lv_at hl 0 rfl) ?_
      exact rt_i FX ((fun k => match k with | 0 => u1.1 0 | 1 => mleastOrder | _ => 0), (fun k => match k with | 0 => morder | 1 => mbestOrder | _ => fun _ => 0), (fun _ => fun _ => 0)) rfl trivial (hP.sub [2, 3, 4, 5, 0, 1] rfl) (hD.sub [2, 3, 4, 5, 0, 1] (by decide) rfl) hS (Nat.le_of_ble_eq_true rfl) (Nat.le_of_ble_eq_true rfl) dX12_softer_12
  · have hw5 := q2_1 c3
    have hw5b := hw5.2.1
    have hw5a := hw5.1
    have hw5c := q2_2 c3
    refine lv_istore_n (lv' := [(3, .int (u1.1 0)), (0, .ref h0), (1, .int p1), (2, .int p2)]) hx hb dX12_softer_6 rfl hl (by decide) rfl (fun ls hl => ?_)
    refine lv_iload_n hx hb dX12_softer_7 rfl (lv_at hl 0 rfl) ?_
    refine lv_if_ge (tgt := 13) hx hb dX12_softer_8 (by decide) (fun c6 => ?_) (fun c6 => ?_)
    · have c6 := k_le (a := 0) (b := (u1.1 0).toInt) (by decide) rfl c6
      refine lv_aload_n hx hb dX12_softer_13 rfl (lv_at hl 1 rfl) ?_
      refine lv_iload_n hx hb dX12_softer_14 rfl (lv_at hl 2 rfl) ?_
      refine lv_iload_n hx hb dX12_softer_15 rfl (lv_at hl 3 rfl) ?_
      refine call_V (As := [.int p1, .int p2]) (rest := []) (wr := []) FC hKn hZ (k_X12_findOrder l g h0 a1 a2 a3 a4 a6 a14 a15 a19 a20 a23 a24 a25 a26 a27 a28 mthrown mtaped msize mat mfrom mtoken mvalue mfaultKind mfaultPlace mgoal mgoalDays mgoalHearer mleastOrder mwordsMany mworld mnumbers mmany morder mbestOrder p1 p2 (by omega) (by omega) (by omega) (by omega) (by omega) (by omega) (by omega) (by omega) i_mworld i_mmany (by omega) (by assumption) (by omega)) m_yX12_findOrder b_1033 (ci := 12) rfl rfl rfl hP hD hS hA [2, 3, 4, 5, 0, 1] [] rfl (by decide) rfl (by decide) (by decide) rfl hl.1 rfl (Nat.le_of_ble_eq_true rfl) dX12_softer_16 ⟨(Nat.le_of_ble_eq_true rfl), (Nat.le_of_ble_eq_true rfl)⟩ ⟨(Nat.le_of_ble_eq_true rfl), (Nat.le_of_ble_eq_true rfl)⟩ (fun u7 H locs q8 hP hD hS => ?_)
      have hP : va_P g.1 vwCl [(h0, .inr (12, [.int mthrown, .ref a1, .ref a2, .ref a3, .ref a4, .int mtaped, .ref a6, .int msize, .int mat, .int mfrom, .int mtoken, .int mvalue, .int mfaultKind, .int mfaultPlace, .ref a14, .ref a15, .int mgoal, .int mgoalDays, .int mgoalHearer, .ref a19, .ref a20, .int (u7.1 1), .int mwordsMany, .ref a23, .ref a24, .ref a25, .ref a26, .ref a27, .ref a28])), (a1, .inl (g.2 0, 225, .inl mworld)), (a27, .inl (g.2 3, 240, .inr (.inl mnumbers))), (a25, .inl (g.2 0, 4, .inl mmany)), (a19, .inl (g.2 0, 6, .inl (u7.2.1 0))), (a20, .inl (g.2 0, 6, .inl (u7.2.1 1)))] H := hP
      have hD : va_D A [(h0, .inr (12, [.int mthrown, .ref a1, .ref a2, .ref a3, .ref a4, .int mtaped, .ref a6, .int msize, .int mat, .int mfrom, .int mtoken, .int mvalue, .int mfaultKind, .int mfaultPlace, .ref a14, .ref a15, .int mgoal, .int mgoalDays, .int mgoalHearer, .ref a19, .ref a20, .int (u7.1 1), .int mwordsMany, .ref a23, .ref a24, .ref a25, .ref a26, .ref a27, .ref a28])), (a1, .inl (g.2 0, 225, .inl mworld)), (a27, .inl (g.2 3, 240, .inr (.inl mnumbers))), (a25, .inl (g.2 0, 4, .inl mmany)), (a19, .inl (g.2 0, 6, .inl (u7.2.1 0))), (a20, .inl (g.2 0, 6, .inl (u7.2.1 1)))] := hD
      refine W.eq (g2 := F0 m 19 ls []) rfl ?_
      refine lv_aload_n hx hb dX12_softer_19 rfl (lv_at hl 1 rfl) ?_
      refine g_get (C := RX12) (T := TX12) (N := 29) (ci := 12) (v := .int (u7.1 1)) FC hKn hP i_X12 0 rfl rfl 21 (by decide) b_1028 rfl dX12_softer_20 ?_
      exact rt_i FX ((fun k => match k with | 0 => u7.1 1 | 1 => u7.1 1 | _ => 0), (fun k => match k with | 0 => u7.2.1 0 | 1 => u7.2.1 1 | _ => fun _ => 0), (fun _ => fun _ => 0)) rfl trivial (hP.sub [0, 1, 2, 3, 4, 5] rfl) (hD.sub [0, 1, 2, 3, 4, 5] (by decide) rfl) hS (Nat.le_of_ble_eq_true rfl) (Nat.le_of_ble_eq_true rfl) dX12_softer_23
    · have c6 := k_nle (a := 0) (b := (u1.1 0).toInt) (by decide) rfl c6
      exfalso; omega
set_option maxRecDepth 100000 in
set_option maxHeartbeats 4000000 in
theorem k_X12_ordered (l : Launch) (g : GG) (h0 : Nat) (a1 : Nat) (a2 : Nat) (a3 : Nat) (a4 : Nat) (a6 : Nat) (a14 : Nat) (a15 : Nat) (a19 : Nat) (a20 : Nat) (a23 : Nat) (a24 : Nat) (a25 : Nat) (a26 : Nat) (a27 : Nat) (a28 : Nat) (mthrown : Int32) (mtaped : Int32) (msize : Int32) (mat : Int32) (mfrom : Int32) (mtoken : Int32) (mvalue : Int32) (mfaultKind : Int32) (mfaultPlace : Int32) (mgoal : Int32) (mgoalDays : Int32) (mgoalHearer : Int32) (mleastOrder : Int32) (mwordsMany : Int32) (mworld : Nat → Int32) (mnumbers : Nat → Int64) (mmany : Nat → Int32) (morder : Nat → Int32) (mbestOrder : Nat → Int32) (p1 : Int32) (p2 : Int32) (p3 : Int32) (i_mtaped : 0 ≤ mtaped.toInt ∧ mtaped.toInt ≤ 900) (i_msize : 0 ≤ msize.toInt ∧ msize.toInt ≤ 900) (i_mat : 0 ≤ mat.toInt ∧ mat.toInt ≤ 900) (i_mfrom : 0 ≤ mfrom.toInt ∧ mfrom.toInt ≤ 900) (i_mtoken : 0 ≤ mtoken.toInt ∧ mtoken.toInt ≤ 4) (i_mvalue : 0 ≤ mvalue.toInt ∧ mvalue.toInt ≤ 99999) (i_mgoalHearer : 0 ≤ mgoalHearer.toInt ∧ mgoalHearer.toInt ≤ 3) (i_mwordsMany : 0 ≤ mwordsMany.toInt ∧ mwordsMany.toInt ≤ 10) (i_mworld : wod mworld) (i_mmany : ab mmany 4 (-1) 60) : Ct l g yX12_ordered cX12_ordered 5 (some .int) { frames := 6, cells := 0, slots := 0, locals := 145 } [.ref h0, .int p1, .int p2, .int p3] [(h0, .inr (12, [.int mthrown, .ref a1, .ref a2, .ref a3, .ref a4, .int mtaped, .ref a6, .int msize, .int mat, .int mfrom, .int mtoken, .int mvalue, .int mfaultKind, .int mfaultPlace, .ref a14, .ref a15, .int mgoal, .int mgoalDays, .int mgoalHearer, .ref a19, .ref a20, .int mleastOrder, .int mwordsMany, .ref a23, .ref a24, .ref a25, .ref a26, .ref a27, .ref a28])), (a1, .inl (g.2 0, 225, .inl mworld)), (a27, .inl (g.2 3, 240, .inr (.inl mnumbers))), (a25, .inl (g.2 0, 4, .inl mmany)), (a19, .inl (g.2 0, 6, .inl morder)), (a20, .inl (g.2 0, 6, .inl mbestOrder))] (S := (Nat → Int32) × (Nat → Nat → Int32) × (Nat → Nat → Int64)) (fun u => some (.int (u.1 0))) (fun u => True) (fun u => [(h0, .inr (12, [.int mthrown, .ref a1, .ref a2, .ref a3, .ref a4, .int mtaped, .ref a6, .int msize, .int mat, .int mfrom, .int mtoken, .int mvalue, .int mfaultKind, .int mfaultPlace, .ref a14, .ref a15, .int mgoal, .int mgoalDays, .int mgoalHearer, .ref a19, .ref a20, .int (u.1 1), .int mwordsMany, .ref a23, .ref a24, .ref a25, .ref a26, .ref a27, .ref a28])), (a1, .inl (g.2 0, 225, .inl mworld)), (a27, .inl (g.2 3, 240, .inr (.inl mnumbers))), (a25, .inl (g.2 0, 4, .inl mmany)), (a19, .inl (g.2 0, 6, .inl (u.2.1 0))), (a20, .inl (g.2 0, 6, .inl (u.2.1 1)))]) := by
  refine Ct.of (by decide) (Nat.le_of_ble_eq_true rfl) ?_
  intro p e s m below meth c A ls FX hP hD hS hl
  obtain ⟨FC, hr, hlk, hKn, hA, hnm, hZ⟩ := id FX
  have FC : CallFix p m c cX12_ordered 5 s _ BIG RX12 := FC
  obtain ⟨hx, hb, hml, hown, hB⟩ := id FC
  have hl : lv_has ls 5 [(0, .ref h0), (1, .int p1), (2, .int p2), (3, .int p3)] := hl
  refine lv_aload_n hx hb dX12_ordered_0 rfl (lv_at hl 0 rfl) ?_
  refine lv_iload_n hx hb dX12_ordered_1 rfl (lv_at hl 1 rfl) ?_
  refine lv_iload_n hx hb dX12_ordered_2 rfl (lv_at hl 2 rfl) ?_
  refine call_V (As := [.int p1, .int p2]) (rest := []) (wr := [(a19, .inl (g.2 0, 6, .inl morder)), (a20, .inl (g.2 0, 6, .inl mbestOrder))]) FC hKn hZ (k_X12_asksOrder l g h0 a1 a2 a3 a4 a6 a14 a15 a19 a20 a23 a24 a25 a26 a27 a28 mthrown mtaped msize mat mfrom mtoken mvalue mfaultKind mfaultPlace mgoal mgoalDays mgoalHearer mleastOrder mwordsMany mworld mnumbers mmany p1 p2 (by omega) (by omega) (by omega) (by omega) (by omega) (by omega) (by omega) (by omega) i_mworld i_mmany) m_yX12_asksOrder b_1032 (ci := 12) rfl rfl rfl hP hD hS hA [0, 1, 2, 3] [4, 5] rfl (by decide) rfl (by decide) (by decide) rfl hl.1 rfl (Nat.le_of_ble_eq_true rfl) dX12_ordered_3 ⟨(Nat.le_of_ble_eq_true rfl), (Nat.le_of_ble_eq_true rfl)⟩ ⟨(Nat.le_of_ble_eq_true rfl), (Nat.le_of_ble_eq_true rfl)⟩ (fun u1 H locs q2 hP hD hS => ?_)
  obtain ⟨q2_0, q2_1, q2_2⟩ := q2
  have hP : va_P g.1 vwCl [(a19, .inl (g.2 0, 6, .inl morder)), (a20, .inl (g.2 0, 6, .inl mbestOrder)), (h0, .inr (12, [.int mthrown, .ref a1, .ref a2, .ref a3, .ref a4, .int mtaped, .ref a6, .int msize, .int mat, .int mfrom, .int mtoken, .int mvalue, .int mfaultKind, .int mfaultPlace, .ref a14, .ref a15, .int mgoal, .int mgoalDays, .int mgoalHearer, .ref a19, .ref a20, .int mleastOrder, .int mwordsMany, .ref a23, .ref a24, .ref a25, .ref a26, .ref a27, .ref a28])), (a1, .inl (g.2 0, 225, .inl mworld)), (a27, .inl (g.2 3, 240, .inr (.inl mnumbers))), (a25, .inl (g.2 0, 4, .inl mmany))] H := hP
  have hD : va_D A [(a19, .inl (g.2 0, 6, .inl morder)), (a20, .inl (g.2 0, 6, .inl mbestOrder)), (h0, .inr (12, [.int mthrown, .ref a1, .ref a2, .ref a3, .ref a4, .int mtaped, .ref a6, .int msize, .int mat, .int mfrom, .int mtoken, .int mvalue, .int mfaultKind, .int mfaultPlace, .ref a14, .ref a15, .int mgoal, .int mgoalDays, .int mgoalHearer, .ref a19, .ref a20, .int mleastOrder, .int mwordsMany, .ref a23, .ref a24, .ref a25, .ref a26, .ref a27, .ref a28])), (a1, .inl (g.2 0, 225, .inl mworld)), (a27, .inl (g.2 3, 240, .inr (.inl mnumbers))), (a25, .inl (g.2 0, 4, .inl mmany))] := hD
  refine W.eq (g2 := F0 m 6 ls [.int (u1.1 0)]) rfl ?_
  rcases (show (u1.1 0).toInt < 0 ∨ (u1.1 0).toInt = 0 by omega) with c3 | c3
  · skip
    refine lv_istore (lv' := [(4, .int (u1.1 0)), (0, .ref h0), (1, .int p1), (2, .int p2), (3, .int p3)]) hx hb dX12_ordered_6 hl (by decide) rfl (fun ls hl => ?_)
    refine lv_iload hx hb dX12_ordered_8 (lv_at hl 0 rfl) ?_
    refine lv_if_ge (tgt := 16) hx hb dX12_ordered_10 (by decide) (fun c4 => ?_) (fun c4 => ?_)
    · have c4 := k_le (a := 0) (b := (u1.1 0).toInt) (by decide) rfl c4
      exfalso; omega
    · have c4 := k_nle (a := 0) (b := (u1.1 0).toInt) (by decide) rfl c4
      refine lv_iload hx hb dX12_ordered_13 (lv_at hl 0 rfl) ?_
      exact rt_i FX ((fun k => match k with | 0 => u1.1 0 | 1 => mleastOrder | _ => 0), (fun k => match k with | 0 => morder | 1 => mbestOrder | _ => fun _ => 0), (fun _ => fun _ => 0)) rfl trivial (hP.sub [2, 3, 4, 5, 0, 1] rfl) (hD.sub [2, 3, 4, 5, 0, 1] (by decide) rfl) hS (Nat.le_of_ble_eq_true rfl) (Nat.le_of_ble_eq_true rfl) dX12_ordered_15
  · have hw5 := q2_1 c3
    have hw5b := hw5.2.1
    have hw5a := hw5.1
    have hw5c := q2_2 c3
    refine lv_istore (lv' := [(4, .int (u1.1 0)), (0, .ref h0), (1, .int p1), (2, .int p2), (3, .int p3)]) hx hb dX12_ordered_6 hl (by decide) rfl (fun ls hl => ?_)
    refine lv_iload hx hb dX12_ordered_8 (lv_at hl 0 rfl) ?_
    refine lv_if_ge (tgt := 16) hx hb dX12_ordered_10 (by decide) (fun c6 => ?_) (fun c6 => ?_)
    · have c6 := k_le (a := 0) (b := (u1.1 0).toInt) (by decide) rfl c6
      refine lv_aload_n hx hb dX12_ordered_16 rfl (lv_at hl 1 rfl) ?_
      refine lv_iload_n hx hb dX12_ordered_17 rfl (lv_at hl 2 rfl) ?_
      refine lv_iload_n hx hb dX12_ordered_18 rfl (lv_at hl 3 rfl) ?_
      refine call_V (As := [.int p1, .int p2]) (rest := []) (wr := []) FC hKn hZ (k_X12_findOrder l g h0 a1 a2 a3 a4 a6 a14 a15 a19 a20 a23 a24 a25 a26 a27 a28 mthrown mtaped msize mat mfrom mtoken mvalue mfaultKind mfaultPlace mgoal mgoalDays mgoalHearer mleastOrder mwordsMany mworld mnumbers mmany morder mbestOrder p1 p2 (by omega) (by omega) (by omega) (by omega) (by omega) (by omega) (by omega) (by omega) i_mworld i_mmany (by omega) (by assumption) (by omega)) m_yX12_findOrder b_1033 (ci := 12) rfl rfl rfl hP hD hS hA [2, 3, 4, 5, 0, 1] [] rfl (by decide) rfl (by decide) (by decide) rfl hl.1 rfl (Nat.le_of_ble_eq_true rfl) dX12_ordered_19 ⟨(Nat.le_of_ble_eq_true rfl), (Nat.le_of_ble_eq_true rfl)⟩ ⟨(Nat.le_of_ble_eq_true rfl), (Nat.le_of_ble_eq_true rfl)⟩ (fun u7 H locs q8 hP hD hS => ?_)
      have hP : va_P g.1 vwCl [(h0, .inr (12, [.int mthrown, .ref a1, .ref a2, .ref a3, .ref a4, .int mtaped, .ref a6, .int msize, .int mat, .int mfrom, .int mtoken, .int mvalue, .int mfaultKind, .int mfaultPlace, .ref a14, .ref a15, .int mgoal, .int mgoalDays, .int mgoalHearer, .ref a19, .ref a20, .int (u7.1 1), .int mwordsMany, .ref a23, .ref a24, .ref a25, .ref a26, .ref a27, .ref a28])), (a1, .inl (g.2 0, 225, .inl mworld)), (a27, .inl (g.2 3, 240, .inr (.inl mnumbers))), (a25, .inl (g.2 0, 4, .inl mmany)), (a19, .inl (g.2 0, 6, .inl (u7.2.1 0))), (a20, .inl (g.2 0, 6, .inl (u7.2.1 1)))] H := hP
      have hD : va_D A [(h0, .inr (12, [.int mthrown, .ref a1, .ref a2, .ref a3, .ref a4, .int mtaped, .ref a6, .int msize, .int mat, .int mfrom, .int mtoken, .int mvalue, .int mfaultKind, .int mfaultPlace, .ref a14, .ref a15, .int mgoal, .int mgoalDays, .int mgoalHearer, .ref a19, .ref a20, .int (u7.1 1), .int mwordsMany, .ref a23, .ref a24, .ref a25, .ref a26, .ref a27, .ref a28])), (a1, .inl (g.2 0, 225, .inl mworld)), (a27, .inl (g.2 3, 240, .inr (.inl mnumbers))), (a25, .inl (g.2 0, 4, .inl mmany)), (a19, .inl (g.2 0, 6, .inl (u7.2.1 0))), (a20, .inl (g.2 0, 6, .inl (u7.2.1 1)))] := hD
      refine W.eq (g2 := F0 m 22 ls []) rfl ?_
      refine lv_iload_n hx hb dX12_ordered_22 rfl (lv_at hl 4 rfl) ?_
      refine lv_i2l (v := p3.toInt64) hx hb dX12_ordered_23 rfl ?_
      refine lv_topl (fun z9 e_z9 => ?_)
      have t_z9 : z9.toInt = p3.toInt := by rw [e_z9]; exact Int32.toInt_toInt64 _
      refine lv_lconst (v := 0) hx hb dX12_ordered_24 (by decide) ?_
      refine lv_aload_n hx hb dX12_ordered_25 rfl (lv_at hl 1 rfl) ?_
      refine g_get (C := RX12) (T := TX12) (N := 29) (ci := 12) (v := .ref a25) FC hKn hP i_X12 0 rfl rfl 25 (by decide) b_934 rfl dX12_ordered_26 ?_
      refine lv_iload_n hx hb dX12_ordered_29 rfl (lv_at hl 2 rfl) ?_
      refine va_iald hx hb hKn.1 hP 3 0 rfl rfl (vp_in_iff.mpr ⟨by omega, by omega⟩) dX12_ordered_30 ?_
      refine lv_topi (fun z10 e_z10 => ?_)
      have t_z10 : -1 ≤ z10.toInt ∧ z10.toInt ≤ 60 := by rw [e_z10]; exact i_mmany _ (clt (by omega) (by omega))
      have w_z10 : 0 ≤ z10.toInt ∧ z10.toInt ≤ 6 := by rw [e_z10]; omega
      have q_z10 : z10.toInt = (mmany p1.toNatClampNeg).toInt := by rw [e_z10]
      refine lv_iconst (v := 1) hx hb dX12_ordered_31 (by decide) ?_
      refine lv_isub hx hb dX12_ordered_32 ?_
      have kc1 : (1 : Int32).toInt = 1 := by decide
      refine lv_topi (fun z11 e_z11 => ?_)
      have t_z11 : z11.toInt = z10.toInt - ((1 : Int32)).toInt := by rw [e_z11]; exact fb_subI (by omega) (by omega)
      refine lv_i2l (v := z11.toInt64) hx hb dX12_ordered_33 rfl ?_
      refine lv_topl (fun z12 e_z12 => ?_)
      have t_z12 : z12.toInt = z11.toInt := by rw [e_z12]; exact Int32.toInt_toInt64 _
      have kcl0 : (0 : Int64).toInt = 0 := by decide
      refine call_S (As := [.long z9, .long 0, .long z12]) (rest := []) (wr := [(h0, .inr (12, [.int mthrown, .ref a1, .ref a2, .ref a3, .ref a4, .int mtaped, .ref a6, .int msize, .int mat, .int mfrom, .int mtoken, .int mvalue, .int mfaultKind, .int mfaultPlace, .ref a14, .ref a15, .int mgoal, .int mgoalDays, .int mgoalHearer, .ref a19, .ref a20, .int (u7.1 1), .int mwordsMany, .ref a23, .ref a24, .ref a25, .ref a26, .ref a27, .ref a28])), (a1, .inl (g.2 0, 225, .inl mworld)), (a27, .inl (g.2 3, 240, .inr (.inl mnumbers))), (a25, .inl (g.2 0, 4, .inl mmany)), (a19, .inl (g.2 0, 6, .inl (u7.2.1 0))), (a20, .inl (g.2 0, 6, .inl (u7.2.1 1)))]) FC hKn hZ (k_X12_in l g z9 ((0 : Int64)) z12) m_yX12_in b_802 hP hD hS hA [] [0, 1, 2, 3, 4, 5] rfl (by decide) rfl (by decide) (by decide) rfl hl.1 rfl (Nat.le_of_ble_eq_true rfl) dX12_ordered_34 ⟨(Nat.le_of_ble_eq_true rfl), (Nat.le_of_ble_eq_true rfl)⟩ ⟨(Nat.le_of_ble_eq_true rfl), (Nat.le_of_ble_eq_true rfl)⟩ (fun u13 H locs q14 hP hD hS => ?_)
      obtain ⟨q14_0, q14_1, q14_2⟩ := q14
      have hP : va_P g.1 vwCl [(h0, .inr (12, [.int mthrown, .ref a1, .ref a2, .ref a3, .ref a4, .int mtaped, .ref a6, .int msize, .int mat, .int mfrom, .int mtoken, .int mvalue, .int mfaultKind, .int mfaultPlace, .ref a14, .ref a15, .int mgoal, .int mgoalDays, .int mgoalHearer, .ref a19, .ref a20, .int (u7.1 1), .int mwordsMany, .ref a23, .ref a24, .ref a25, .ref a26, .ref a27, .ref a28])), (a1, .inl (g.2 0, 225, .inl mworld)), (a27, .inl (g.2 3, 240, .inr (.inl mnumbers))), (a25, .inl (g.2 0, 4, .inl mmany)), (a19, .inl (g.2 0, 6, .inl (u7.2.1 0))), (a20, .inl (g.2 0, 6, .inl (u7.2.1 1)))] H := hP
      have hD : va_D A [(h0, .inr (12, [.int mthrown, .ref a1, .ref a2, .ref a3, .ref a4, .int mtaped, .ref a6, .int msize, .int mat, .int mfrom, .int mtoken, .int mvalue, .int mfaultKind, .int mfaultPlace, .ref a14, .ref a15, .int mgoal, .int mgoalDays, .int mgoalHearer, .ref a19, .ref a20, .int (u7.1 1), .int mwordsMany, .ref a23, .ref a24, .ref a25, .ref a26, .ref a27, .ref a28])), (a1, .inl (g.2 0, 225, .inl mworld)), (a27, .inl (g.2 3, 240, .inr (.inl mnumbers))), (a25, .inl (g.2 0, 4, .inl mmany)), (a19, .inl (g.2 0, 6, .inl (u7.2.1 0))), (a20, .inl (g.2 0, 6, .inl (u7.2.1 1)))] := hD
      refine W.eq (g2 := F0 m 37 ls [.int (u13.1 0)]) rfl ?_
      rcases (show (u13.1 0).toInt = 0 ∨ (u13.1 0).toInt = 1 by omega) with c15 | c15
      · skip
        refine lv_if_eq (tgt := 49) hx hb dX12_ordered_37 (by decide) (fun c16 => ?_) (fun c16 => ?_)
        · have c16 := k_eq (a := (u13.1 0).toInt) (b := 0) rfl (by decide) c16
          refine lv_iconst (v := -1) hx hb dX12_ordered_49 (by decide) ?_
          exact rt_i FX ((fun k => match k with | 0 => (-1 : Int32) | 1 => u7.1 1 | _ => 0), (fun k => match k with | 0 => u7.2.1 0 | 1 => u7.2.1 1 | _ => fun _ => 0), (fun _ => fun _ => 0)) rfl trivial (hP.sub [0, 1, 2, 3, 4, 5] rfl) (hD.sub [0, 1, 2, 3, 4, 5] (by decide) rfl) hS (Nat.le_of_ble_eq_true rfl) (Nat.le_of_ble_eq_true rfl) dX12_ordered_50
        · have c16 := k_ne (a := (u13.1 0).toInt) (b := 0) rfl (by decide) c16
          exfalso; omega
      · have c15_r := q14_2 c15
        refine lv_if_eq (tgt := 49) hx hb dX12_ordered_37 (by decide) (fun c17 => ?_) (fun c17 => ?_)
        · have c17 := k_eq (a := (u13.1 0).toInt) (b := 0) rfl (by decide) c17
          exfalso; omega
        · have c17 := k_ne (a := (u13.1 0).toInt) (b := 0) rfl (by decide) c17
          refine lv_aload_n hx hb dX12_ordered_40 rfl (lv_at hl 1 rfl) ?_
          refine g_get (C := RX12) (T := TX12) (N := 29) (ci := 12) (v := .ref a20) FC hKn hP i_X12 0 rfl rfl 20 (by decide) b_1031 rfl dX12_ordered_41 ?_
          refine lv_iload_n hx hb dX12_ordered_44 rfl (lv_at hl 4 rfl) ?_
          refine va_iald hx hb hKn.1 hP 5 0 rfl rfl (vp_in_iff.mpr ⟨by omega, by omega⟩) dX12_ordered_45 ?_
          refine lv_topi (fun z18 e_z18 => ?_)
          refine lv_goto (tgt := 50) hx hb dX12_ordered_46 (by decide) ?_
          exact rt_i FX ((fun k => match k with | 0 => z18 | 1 => u7.1 1 | _ => 0), (fun k => match k with | 0 => u7.2.1 0 | 1 => u7.2.1 1 | _ => fun _ => 0), (fun _ => fun _ => 0)) rfl trivial (hP.sub [0, 1, 2, 3, 4, 5] rfl) (hD.sub [0, 1, 2, 3, 4, 5] (by decide) rfl) hS (Nat.le_of_ble_eq_true rfl) (Nat.le_of_ble_eq_true rfl) dX12_ordered_50
    · have c6 := k_nle (a := 0) (b := (u1.1 0).toInt) (by decide) rfl c6
      exfalso; omega
