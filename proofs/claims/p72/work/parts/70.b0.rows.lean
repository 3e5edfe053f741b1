set_option maxRecDepth 100000 in
set_option maxHeartbeats 4000000 in
theorem k_X12_leftBy (l : Launch) (g : GG) (h0 : Nat) (a1 : Nat) (a2 : Nat) (a3 : Nat) (a4 : Nat) (a6 : Nat) (a14 : Nat) (a15 : Nat) (a19 : Nat) (a20 : Nat) (a23 : Nat) (a24 : Nat) (a25 : Nat) (a26 : Nat) (a27 : Nat) (a28 : Nat) (mthrown : Int32) (mtaped : Int32) (msize : Int32) (mat : Int32) (mfrom : Int32) (mtoken : Int32) (mvalue : Int32) (mfaultKind : Int32) (mfaultPlace : Int32) (mgoal : Int32) (mgoalDays : Int32) (mgoalHearer : Int32) (mleastOrder : Int32) (mwordsMany : Int32) (mworld : Nat → Int32) (mletters : Nat → Int32) (p1 : Int32) (i_mtaped : 0 ≤ mtaped.toInt ∧ mtaped.toInt ≤ 900) (i_msize : 0 ≤ msize.toInt ∧ msize.toInt ≤ 900) (i_mat : 0 ≤ mat.toInt ∧ mat.toInt ≤ 900) (i_mfrom : 0 ≤ mfrom.toInt ∧ mfrom.toInt ≤ 900) (i_mtoken : 0 ≤ mtoken.toInt ∧ mtoken.toInt ≤ 4) (i_mvalue : 0 ≤ mvalue.toInt ∧ mvalue.toInt ≤ 99999) (i_mgoalHearer : 0 ≤ mgoalHearer.toInt ∧ mgoalHearer.toInt ≤ 3) (i_mwordsMany : 0 ≤ mwordsMany.toInt ∧ mwordsMany.toInt ≤ 10) (i_mworld : wod mworld) (i_p1 : 1 ≤ p1.toInt ∧ p1.toInt ≤ 4) : Ct l g yX12_leftBy cX12_leftBy 6 (some .int) { frames := 2, cells := 0, slots := 0, locals := 38 } [.ref h0, .int p1] [(h0, .inr (12, [.int mthrown, .ref a1, .ref a2, .ref a3, .ref a4, .int mtaped, .ref a6, .int msize, .int mat, .int mfrom, .int mtoken, .int mvalue, .int mfaultKind, .int mfaultPlace, .ref a14, .ref a15, .int mgoal, .int mgoalDays, .int mgoalHearer, .ref a19, .ref a20, .int mleastOrder, .int mwordsMany, .ref a23, .ref a24, .ref a25, .ref a26, .ref a27, .ref a28])), (a1, .inl (g.2 0, 225, .inl mworld)), (a23, .inl (g.2 0, 6, .inl mletters))] (S := (Nat → Int32) × (Nat → Nat → Int32) × (Nat → Nat → Int64)) (fun u => some (.int (u.1 0))) (fun u => True) (fun u => [(h0, .inr (12, [.int mthrown, .ref a1, .ref a2, .ref a3, .ref a4, .int mtaped, .ref a6, .int msize, .int mat, .int mfrom, .int mtoken, .int mvalue, .int mfaultKind, .int mfaultPlace, .ref a14, .ref a15, .int mgoal, .int mgoalDays, .int mgoalHearer, .ref a19, .ref a20, .int mleastOrder, .int mwordsMany, .ref a23, .ref a24, .ref a25, .ref a26, .ref a27, .ref a28])), (a1, .inl (g.2 0, 225, .inl mworld)), (a23, .inl (g.2 0, 6, .inl mletters))]) := by
  refine Ct.of (by decide) (Nat.le_of_ble_eq_true rfl) ?_
  intro p e s m below meth c A ls FX hP hD hS hl
  obtain ⟨FC, hr, hlk, hKn, hA, hnm, hZ⟩ := id FX
  have FC : CallFix p m c cX12_leftBy 6 s _ BIG RX12 := FC
  obtain ⟨hx, hb, hml, hown, hB⟩ := id FC
  have hl : lv_has ls 6 [(0, .ref h0), (1, .int p1)] := hl
  refine lv_iconst (v := 0) hx hb dX12_leftBy_0 (by decide) ?_
  refine lv_istore_n (lv' := [(2, .int 0), (0, .ref h0), (1, .int p1)]) hx hb dX12_leftBy_1 rfl hl (by decide) rfl (fun ls hl => ?_)
  refine lv_iconst (v := 0) hx hb dX12_leftBy_2 (by decide) ?_
  refine lv_istore_n (lv' := [(3, .int 0), (2, .int 0), (0, .ref h0), (1, .int p1)]) hx hb dX12_leftBy_3 rfl hl (by decide) rfl (fun ls hl => ?_)
  have lp974 : ∀ (n976 : Nat) (x972 : Int32) (x973 : Int32) (H : Heap) (locs : List Loc) (ls : Array Slot), 0 ≤ x972.toInt ∧ x972.toInt ≤ 4 → (4 - x972.toInt).toNat < n976 → va_P g.1 vwCl [(h0, .inr (12, [.int mthrown, .ref a1, .ref a2, .ref a3, .ref a4, .int mtaped, .ref a6, .int msize, .int mat, .int mfrom, .int mtoken, .int mvalue, .int mfaultKind, .int mfaultPlace, .ref a14, .ref a15, .int mgoal, .int mgoalDays, .int mgoalHearer, .ref a19, .ref a20, .int mleastOrder, .int mwordsMany, .ref a23, .ref a24, .ref a25, .ref a26, .ref a27, .ref a28])), (a1, .inl (g.2 0, 225, .inl mworld)), (a23, .inl (g.2 0, 6, .inl mletters))] H → va_D A [(h0, .inr (12, [.int mthrown, .ref a1, .ref a2, .ref a3, .ref a4, .int mtaped, .ref a6, .int msize, .int mat, .int mfrom, .int mtoken, .int mvalue, .int mfaultKind, .int mfaultPlace, .ref a14, .ref a15, .int mgoal, .int mgoalDays, .int mgoalHearer, .ref a19, .ref a20, .int mleastOrder, .int mwordsMany, .ref a23, .ref a24, .ref a25, .ref a26, .ref a27, .ref a28])), (a1, .inl (g.2 0, 225, .inl mworld)), (a23, .inl (g.2 0, 6, .inl mletters))] → va_S A s.heap H locs → lv_has ls 6 [(3, .int x972), (2, .int x973), (0, .ref h0), (1, .int p1)] → W p l e { frames := 2, cells := 0, slots := 0, locals := 38 } s m ([.ref h0, .int p1].toArray) below meth c H locs 0 0 (MQ below (QX (S := (Nat → Int32) × (Nat → Nat → Int32) × (Nat → Nat → Int64)) (fun u => some (.int (u.1 0))) (fun u => True) g (fun u => [(h0, .inr (12, [.int mthrown, .ref a1, .ref a2, .ref a3, .ref a4, .int mtaped, .ref a6, .int msize, .int mat, .int mfrom, .int mtoken, .int mvalue, .int mfaultKind, .int mfaultPlace, .ref a14, .ref a15, .int mgoal, .int mgoalDays, .int mgoalHearer, .ref a19, .ref a20, .int mleastOrder, .int mwordsMany, .ref a23, .ref a24, .ref a25, .ref a26, .ref a27, .ref a28])), (a1, .inl (g.2 0, 225, .inl mworld)), (a23, .inl (g.2 0, 6, .inl mletters))]) A) ([.ref h0, .int p1].toArray) s 0 0 A) (F0 m 4 ls []) := by
    intro n976
    induction n976 with
    | zero =>
      intro x972 x973 H locs ls h_x972 hn977
      exact absurd hn977 (Nat.not_lt_zero _)
    | succ n976 ih975 =>
      intro x972 x973 H locs ls h_x972 hn977 hP hD hS hl
      refine lv_iload_n hx hb dX12_leftBy_4 rfl (lv_at hl 0 rfl) ?_
      refine lv_iload_n hx hb dX12_leftBy_5 rfl (lv_at hl 3 rfl) ?_
      refine lv_icmp_ge (tgt := 97) hx hb dX12_leftBy_6 (by decide) (fun c978 => ?_) (fun c978 => ?_)
      · have c978 := k_le (a := p1.toInt) (b := x972.toInt) rfl rfl c978
        refine lv_iload_n hx hb dX12_leftBy_97 rfl (lv_at hl 1 rfl) ?_
        exact rt_i FX ((fun k => match k with | 0 => x973 | _ => 0), (fun _ => fun _ => 0), (fun _ => fun _ => 0)) rfl trivial (hP.sub [0, 1, 2] rfl) (hD.sub [0, 1, 2] (by decide) rfl) hS (Nat.le_of_ble_eq_true rfl) (Nat.le_of_ble_eq_true rfl) dX12_leftBy_98
      · have c978 := k_nle (a := p1.toInt) (b := x972.toInt) rfl rfl c978
        refine lv_iconst (v := 0) hx hb dX12_leftBy_9 (by decide) ?_
        refine lv_istore (lv' := [(4, .int 0), (3, .int x972), (2, .int x973), (0, .ref h0), (1, .int p1)]) hx hb dX12_leftBy_10 hl (by decide) rfl (fun ls hl => ?_)
        refine lv_iconst (v := 0) hx hb dX12_leftBy_12 (by decide) ?_
        refine lv_istore (lv' := [(5, .int 0), (4, .int 0), (3, .int x972), (2, .int x973), (0, .ref h0), (1, .int p1)]) hx hb dX12_leftBy_13 hl (by decide) rfl (fun ls hl => ?_)
        have lp1151 : ∀ (n1153 : Nat) (x1149 : Int32) (x1150 : Int32) (H : Heap) (locs : List Loc) (ls : Array Slot), 0 ≤ x1149.toInt ∧ x1149.toInt ≤ 6 → (6 - x1149.toInt).toNat < n1153 → va_P g.1 vwCl [(h0, .inr (12, [.int mthrown, .ref a1, .ref a2, .ref a3, .ref a4, .int mtaped, .ref a6, .int msize, .int mat, .int mfrom, .int mtoken, .int mvalue, .int mfaultKind, .int mfaultPlace, .ref a14, .ref a15, .int mgoal, .int mgoalDays, .int mgoalHearer, .ref a19, .ref a20, .int mleastOrder, .int mwordsMany, .ref a23, .ref a24, .ref a25, .ref a26, .ref a27, .ref a28])), (a1, .inl (g.2 0, 225, .inl mworld)), (a23, .inl (g.2 0, 6, .inl mletters))] H → va_D A [(h0, .inr (12, [.int mthrown, .ref a1, .ref a2, .ref a3, .ref a4, .int mtaped, .ref a6, .int msize, .int mat, .int mfrom, .int mtoken, .int mvalue, .int mfaultKind, .int mfaultPlace, .ref a14, .ref a15, .int mgoal, .int mgoalDays, .int mgoalHearer, .ref a19, .ref a20, .int mleastOrder, .int mwordsMany, .ref a23, .ref a24, .ref a25, .ref a26, .ref a27, .ref a28])), (a1, .inl (g.2 0, 225, .inl mworld)), (a23, .inl (g.2 0, 6, .inl mletters))] → va_S A s.heap H locs → lv_has ls 6 [(5, .int x1149), (4, .int x1150), (3, .int x972), (2, .int x973), (0, .ref h0), (1, .int p1)] → W p l e { frames := 2, cells := 0, slots := 0, locals := 38 } s m ([.ref h0, .int p1].toArray) below meth c H locs 0 0 (MQ below (QX (S := (Nat → Int32) × (Nat → Nat → Int32) × (Nat → Nat → Int64)) (fun u => some (.int (u.1 0))) (fun u => True) g (fun u => [(h0, .inr (12, [.int mthrown, .ref a1, .ref a2, .ref a3, .ref a4, .int mtaped, .ref a6, .int msize, .int mat, .int mfrom, .int mtoken, .int mvalue, .int mfaultKind, .int mfaultPlace, .ref a14, .ref a15, .int mgoal, .int mgoalDays, .int mgoalHearer, .ref a19, .ref a20, .int mleastOrder, .int mwordsMany, .ref a23, .ref a24, .ref a25, .ref a26, .ref a27, .ref a28])), (a1, .inl (g.2 0, 225, .inl mworld)), (a23, .inl (g.2 0, 6, .inl mletters))]) A) ([.ref h0, .int p1].toArray) s 0 0 A) (F0 m 15 ls []) := by
          intro n1153
          induction n1153 with
          | zero =>
            intro x1149 x1150 H locs ls h_x1149 hn1154
            exact absurd hn1154 (Nat.not_lt_zero _)
          | succ n1153 ih1152 =>
            intro x1149 x1150 H locs ls h_x1149 hn1154 hP hD hS hl
            refine lv_iload hx hb dX12_leftBy_15 (lv_at hl 0 rfl) ?_
            refine lv_aload_n hx hb dX12_leftBy_17 rfl (lv_at hl 4 rfl) ?_
            refine g_get (C := RX12) (T := TX12) (N := 29) (ci := 12) (v := .ref a1) FC hKn hP i_X12 0 rfl rfl 1 (by decide) b_801 rfl dX12_leftBy_18 ?_
            refine lv_bipush (v := 8) hx hb dX12_leftBy_21 (by decide) ?_
            refine va_iald hx hb hKn.1 hP 1 0 rfl rfl (by unfold vp_in; decide) dX12_leftBy_23 ?_
            have kc8 : (8 : Int32).toInt = 8 := by decide
            refine lv_topi (fun z1155 e_z1155 => ?_)
            have t_z1155 : 0 ≤ z1155.toInt ∧ z1155.toInt ≤ 6 := by rw [e_z1155]; exact wk_8 i_mworld.1
            have q_z1155 : z1155.toInt = (mworld 8).toInt := by rw [e_z1155]; rfl
            refine lv_icmp_ge (tgt := 63) hx hb dX12_leftBy_24 (by decide) (fun c1156 => ?_) (fun c1156 => ?_)
            · have c1156 := k_le (a := z1155.toInt) (b := x1149.toInt) rfl rfl c1156
              refine lv_iload_n hx hb dX12_leftBy_63 rfl (lv_at hl 3 rfl) ?_
              refine lv_iload hx hb dX12_leftBy_64 (lv_at hl 1 rfl) ?_
              refine lv_if_le (tgt := 88) hx hb dX12_leftBy_66 (by decide) (fun c1157 => ?_) (fun c1157 => ?_)
              · have c1157 := k_le (a := x1150.toInt) (b := 0) rfl (by decide) c1157
                refine lv_iconst (v := 0) hx hb dX12_leftBy_88 (by decide) ?_
                refine lv_iadd hx hb dX12_leftBy_89 ?_
                have rg1158 := fb_rng x973
                have kc0 : (0 : Int32).toInt = 0 := by decide
                refine lv_topi (fun z1159 e_z1159 => ?_)
                have t_z1159 : z1159.toInt = x973.toInt + ((0 : Int32)).toInt := by rw [e_z1159]; exact fb_addI (by omega) (by omega)
                refine lv_istore_n (lv' := [(2, .int z1159), (5, .int x1149), (4, .int x1150), (3, .int x972), (0, .ref h0), (1, .int p1)]) hx hb dX12_leftBy_90 rfl hl (by decide) rfl (fun ls hl => ?_)
                obtain ⟨z1160, e_z1160⟩ : ∃ y : Int32, y = x972 + 1 := ⟨_, rfl⟩
                have t_z1160 : z1160.toInt = x972.toInt + 1 := by rw [e_z1160]; exact addk (by decide) (by omega) (by omega)
                refine lv_iinc (v := z1160) (lv' := [(3, .int z1160), (2, .int z1159), (5, .int x1149), (4, .int x1150), (0, .ref h0), (1, .int p1)]) hx hb dX12_leftBy_91 hl (k := 3) rfl (by rw [e_z1160]; rfl) (by decide) rfl (fun ls hl => ?_)
                refine lv_goto (tgt := 4) hx hb dX12_leftBy_94 (by decide) ?_
                exact ih975 z1160 z1159 _ _ ls (by omega) (by omega) hP hD hS (lv_sub hl [0, 1, 4, 5] rfl)
              · have c1157 := k_nle (a := x1150.toInt) (b := 0) rfl (by decide) c1157
                refine lv_aload_n hx hb dX12_leftBy_69 rfl (lv_at hl 4 rfl) ?_
                refine lv_iload hx hb dX12_leftBy_70 (lv_at hl 1 rfl) ?_
                refine lv_iload hx hb dX12_leftBy_72 (lv_at hl 1 rfl) ?_
                refine lv_imul hx hb dX12_leftBy_74 ?_
                refine lv_topi (fun z1161 e_z1161 => ?_)
                refine lv_iload_n hx hb dX12_leftBy_75 rfl (lv_at hl 2 rfl) ?_
                refine lv_aload_n hx hb dX12_leftBy_76 rfl (lv_at hl 4 rfl) ?_
                refine g_get (C := RX12) (T := TX12) (N := 29) (ci := 12) (v := .ref a1) FC hKn hP i_X12 0 rfl rfl 1 (by decide) b_801 rfl dX12_leftBy_77 ?_
                refine lv_iconst (v := 2) hx hb dX12_leftBy_80 (by decide) ?_
                refine va_iald hx hb hKn.1 hP 1 0 rfl rfl (by unfold vp_in; decide) dX12_leftBy_81 ?_
                have kc2 : (2 : Int32).toInt = 2 := by decide
                refine lv_topi (fun z1162 e_z1162 => ?_)
                have t_z1162 : 0 ≤ z1162.toInt ∧ z1162.toInt ≤ 10 := by rw [e_z1162]; exact wk_2 i_mworld.1
                have q_z1162 : z1162.toInt = (mworld 2).toInt := by rw [e_z1162]; rfl
                refine call_V (As := [.int z1161, .int x972, .int z1162]) (rest := [.int x973]) (wr := [(a23, .inl (g.2 0, 6, .inl mletters))]) FC hKn hZ (k_X12_leftOf l g h0 a1 a2 a3 a4 a6 a14 a15 a19 a20 a23 a24 a25 a26 a27 a28 mthrown mtaped msize mat mfrom mtoken mvalue mfaultKind mfaultPlace mgoal mgoalDays mgoalHearer mleastOrder mwordsMany mworld z1161 x972 z1162 (by omega) (by omega) (by omega) (by omega) (by omega) (by omega) (by omega) (by omega) i_mworld) m_yX12_leftOf b_942 (ci := 12) rfl rfl rfl hP hD hS hA [0, 1] [2] rfl (by decide) rfl (by decide) (by decide) rfl hl.1 rfl (Nat.le_of_ble_eq_true rfl) dX12_leftBy_82 ⟨(Nat.le_of_ble_eq_true rfl), (Nat.le_of_ble_eq_true rfl)⟩ ⟨(Nat.le_of_ble_eq_true rfl), (Nat.le_of_ble_eq_true rfl)⟩ (fun u1163 H locs q1164 hP hD hS => ?_)
                have hP : va_P g.1 vwCl [(a23, .inl (g.2 0, 6, .inl mletters)), (h0, .inr (12, [.int mthrown, .ref a1, .ref a2, .ref a3, .ref a4, .int mtaped, .ref a6, .int msize, .int mat, .int mfrom, .int mtoken, .int mvalue, .int mfaultKind, .int mfaultPlace, .ref a14, .ref a15, .int mgoal, .int mgoalDays, .int mgoalHearer, .ref a19, .ref a20, .int mleastOrder, .int mwordsMany, .ref a23, .ref a24, .ref a25, .ref a26, .ref a27, .ref a28])), (a1, .inl (g.2 0, 225, .inl mworld))] H := hP
                have hD : va_D A [(a23, .inl (g.2 0, 6, .inl mletters)), (h0, .inr (12, [.int mthrown, .ref a1, .ref a2, .ref a3, .ref a4, .int mtaped, .ref a6, .int msize, .int mat, .int mfrom, .int mtoken, .int mvalue, .int mfaultKind, .int mfaultPlace, .ref a14, .ref a15, .int mgoal, .int mgoalDays, .int mgoalHearer, .ref a19, .ref a20, .int mleastOrder, .int mwordsMany, .ref a23, .ref a24, .ref a25, .ref a26, .ref a27, .ref a28])), (a1, .inl (g.2 0, 225, .inl mworld))] := hD
                refine W.eq (g2 := F0 m 85 ls [.int (u1163.1 0), .int x973]) rfl ?_
                refine lv_goto (tgt := 89) hx hb dX12_leftBy_85 (by decide) ?_
                refine lv_iadd hx hb dX12_leftBy_89 ?_
                refine lv_topi (fun z1165 e_z1165 => ?_)
                refine lv_istore_n (lv' := [(2, .int z1165), (5, .int x1149), (4, .int x1150), (3, .int x972), (0, .ref h0), (1, .int p1)]) hx hb dX12_leftBy_90 rfl hl (by decide) rfl (fun ls hl => ?_)
                obtain ⟨z1166, e_z1166⟩ : ∃ y : Int32, y = x972 + 1 := ⟨_, rfl⟩
                have t_z1166 : z1166.toInt = x972.toInt + 1 := by rw [e_z1166]; exact addk (by decide) (by omega) (by omega)
                refine lv_iinc (v := z1166) (lv' := [(3, .int z1166), (2, .int z1165), (5, .int x1149), (4, .int x1150), (0, .ref h0), (1, .int p1)]) hx hb dX12_leftBy_91 hl (k := 3) rfl (by rw [e_z1166]; rfl) (by decide) rfl (fun ls hl => ?_)
                refine lv_goto (tgt := 4) hx hb dX12_leftBy_94 (by decide) ?_
                exact ih975 z1166 z1165 _ _ ls (by omega) (by omega) (hP.sub [1, 2, 0] rfl) (hD.sub [1, 2, 0] (by decide) rfl) hS (lv_sub hl [0, 1, 4, 5] rfl)
            · have c1156 := k_nle (a := z1155.toInt) (b := x1149.toInt) rfl rfl c1156
              refine lv_iload hx hb dX12_leftBy_27 (lv_at hl 1 rfl) ?_
              refine lv_aload_n hx hb dX12_leftBy_29 rfl (lv_at hl 4 rfl) ?_
              refine g_get (C := RX12) (T := TX12) (N := 29) (ci := 12) (v := .ref a23) FC hKn hP i_X12 0 rfl rfl 23 (by decide) b_1046 rfl dX12_leftBy_30 ?_
              refine lv_iload hx hb dX12_leftBy_33 (lv_at hl 0 rfl) ?_
              refine va_iald hx hb hKn.1 hP 2 0 rfl rfl (vp_in_iff.mpr ⟨by omega, by omega⟩) dX12_leftBy_35 ?_
              refine lv_topi (fun z1167 e_z1167 => ?_)
              refine lv_iload_n hx hb dX12_leftBy_36 rfl (lv_at hl 2 rfl) ?_
              refine lv_icmp_ne (tgt := 53) hx hb dX12_leftBy_37 (by decide) (fun c1168 => ?_) (fun c1168 => ?_)
              · have c1168 := k_ne (a := z1167.toInt) (b := x972.toInt) rfl rfl c1168
                refine lv_iconst (v := 0) hx hb dX12_leftBy_53 (by decide) ?_
                refine lv_isub hx hb dX12_leftBy_54 ?_
                have rg1169 := fb_rng x1150
                have kc0 : (0 : Int32).toInt = 0 := by decide
                refine lv_topi (fun z1170 e_z1170 => ?_)
                have t_z1170 : z1170.toInt = x1150.toInt - ((0 : Int32)).toInt := by rw [e_z1170]; exact fb_subI (by omega) (by omega)
                refine lv_istore (lv' := [(4, .int z1170), (5, .int x1149), (3, .int x972), (2, .int x973), (0, .ref h0), (1, .int p1)]) hx hb dX12_leftBy_55 hl (by decide) rfl (fun ls hl => ?_)
                obtain ⟨z1171, e_z1171⟩ : ∃ y : Int32, y = x1149 + 1 := ⟨_, rfl⟩
                have t_z1171 : z1171.toInt = x1149.toInt + 1 := by rw [e_z1171]; exact addk (by decide) (by omega) (by omega)
                refine lv_iinc (v := z1171) (lv' := [(5, .int z1171), (4, .int z1170), (3, .int x972), (2, .int x973), (0, .ref h0), (1, .int p1)]) hx hb dX12_leftBy_57 hl (k := 1) rfl (by rw [e_z1171]; rfl) (by decide) rfl (fun ls hl => ?_)
                refine lv_goto (tgt := 15) hx hb dX12_leftBy_60 (by decide) ?_
                exact ih1152 z1171 z1170 _ _ ls (by omega) (by omega) hP hD hS (lv_sub hl [0, 1, 2, 3, 4, 5] rfl)
              · have c1168 := k_eq (a := z1167.toInt) (b := x972.toInt) rfl rfl c1168
                refine lv_aload_n hx hb dX12_leftBy_40 rfl (lv_at hl 4 rfl) ?_
                refine g_get (C := RX12) (T := TX12) (N := 29) (ci := 12) (v := .ref a1) FC hKn hP i_X12 0 rfl rfl 1 (by decide) b_801 rfl dX12_leftBy_41 ?_
                refine lv_bipush (v := 95) hx hb dX12_leftBy_44 (by decide) ?_
                refine lv_iload hx hb dX12_leftBy_46 (lv_at hl 0 rfl) ?_
                refine lv_iadd hx hb dX12_leftBy_48 ?_
                have kc95 : (95 : Int32).toInt = 95 := by decide
                refine lv_topi (fun z1172 e_z1172 => ?_)
                have t_z1172 : z1172.toInt = ((95 : Int32)).toInt + x1149.toInt := by rw [e_z1172]; exact fb_addI (by omega) (by omega)
                refine va_iald hx hb hKn.1 hP 1 0 rfl rfl (vp_in_iff.mpr ⟨by omega, by omega⟩) dX12_leftBy_49 ?_
                refine lv_topi (fun z1173 e_z1173 => ?_)
                have q_z1173 : z1173.toInt = (mworld z1172.toNatClampNeg).toInt := by rw [e_z1173]
                refine lv_goto (tgt := 54) hx hb dX12_leftBy_50 (by decide) ?_
                refine lv_isub hx hb dX12_leftBy_54 ?_
                refine lv_topi (fun z1174 e_z1174 => ?_)
                refine lv_istore (lv' := [(4, .int z1174), (5, .int x1149), (3, .int x972), (2, .int x973), (0, .ref h0), (1, .int p1)]) hx hb dX12_leftBy_55 hl (by decide) rfl (fun ls hl => ?_)
                obtain ⟨z1175, e_z1175⟩ : ∃ y : Int32, y = x1149 + 1 := ⟨_, rfl⟩
                have t_z1175 : z1175.toInt = x1149.toInt + 1 := by rw [e_z1175]; exact addk (by decide) (by omega) (by omega)
                refine lv_iinc (v := z1175) (lv' := [(5, .int z1175), (4, .int z1174), (3, .int x972), (2, .int x973), (0, .ref h0), (1, .int p1)]) hx hb dX12_leftBy_57 hl (k := 1) rfl (by rw [e_z1175]; rfl) (by decide) rfl (fun ls hl => ?_)
                refine lv_goto (tgt := 15) hx hb dX12_leftBy_60 (by decide) ?_
                exact ih1152 z1175 z1174 _ _ ls (by omega) (by omega) hP hD hS (lv_sub hl [0, 1, 2, 3, 4, 5] rfl)
        have kc0 : (0 : Int32).toInt = 0 := by decide
        exact lp1151 _ (0 : Int32) (0 : Int32) _ _ ls (by decide) (Nat.lt_succ_self _) hP hD hS (lv_sub hl [0, 1, 2, 3, 4, 5] rfl)
  have kc0 : (0 : Int32).toInt = 0 := by decide
  exact lp974 _ (0 : Int32) (0 : Int32) _ _ ls (by decide) (Nat.lt_succ_self _) hP hD hS (lv_sub hl [0, 1, 2, 3] rfl)
set_option maxRecDepth 100000 in
set_option maxHeartbeats 4000000 in
theorem k_X12_joinedBy (l : Launch) (g : GG) (h0 : Nat) (a1 : Nat) (a2 : Nat) (a3 : Nat) (a4 : Nat) (a6 : Nat) (a14 : Nat) (a15 : Nat) (a19 : Nat) (a20 : Nat) (a23 : Nat) (a24 : Nat) (a25 : Nat) (a26 : Nat) (a27 : Nat) (a28 : Nat) (mthrown : Int32) (mtaped : Int32) (msize : Int32) (mat : Int32) (mfrom : Int32) (mtoken : Int32) (mvalue : Int32) (mfaultKind : Int32) (mfaultPlace : Int32) (mgoal : Int32) (mgoalDays : Int32) (mgoalHearer : Int32) (mleastOrder : Int32) (mwordsMany : Int32) (mworld : Nat → Int32) (mletters : Nat → Int32) (mbestLetters : Nat → Int32) (p1 : Int32) (i_mtaped : 0 ≤ mtaped.toInt ∧ mtaped.toInt ≤ 900) (i_msize : 0 ≤ msize.toInt ∧ msize.toInt ≤ 900) (i_mat : 0 ≤ mat.toInt ∧ mat.toInt ≤ 900) (i_mfrom : 0 ≤ mfrom.toInt ∧ mfrom.toInt ≤ 900) (i_mtoken : 0 ≤ mtoken.toInt ∧ mtoken.toInt ≤ 4) (i_mvalue : 0 ≤ mvalue.toInt ∧ mvalue.toInt ≤ 99999) (i_mgoalHearer : 0 ≤ mgoalHearer.toInt ∧ mgoalHearer.toInt ≤ 3) (i_mwordsMany : 0 ≤ mwordsMany.toInt ∧ mwordsMany.toInt ≤ 10) (i_mworld : wod mworld) (i_p1 : 1 ≤ p1.toInt ∧ p1.toInt ≤ 4) : Ct l g yX12_joinedBy cX12_joinedBy 8 (some .int) { frames := 3, cells := 0, slots := 0, locals := 63 } [.ref h0, .int p1] [(h0, .inr (12, [.int mthrown, .ref a1, .ref a2, .ref a3, .ref a4, .int mtaped, .ref a6, .int msize, .int mat, .int mfrom, .int mtoken, .int mvalue, .int mfaultKind, .int mfaultPlace, .ref a14, .ref a15, .int mgoal, .int mgoalDays, .int mgoalHearer, .ref a19, .ref a20, .int mleastOrder, .int mwordsMany, .ref a23, .ref a24, .ref a25, .ref a26, .ref a27, .ref a28])), (a1, .inl (g.2 0, 225, .inl mworld)), (a23, .inl (g.2 0, 6, .inl mletters)), (a24, .inl (g.2 0, 6, .inl mbestLetters))] (S := (Nat → Int32) × (Nat → Nat → Int32) × (Nat → Nat → Int64)) (fun u => some (.int (u.1 0))) (fun u => True) (fun u => [(h0, .inr (12, [.int mthrown, .ref a1, .ref a2, .ref a3, .ref a4, .int mtaped, .ref a6, .int msize, .int mat, .int mfrom, .int mtoken, .int mvalue, .int mfaultKind, .int mfaultPlace, .ref a14, .ref a15, .int mgoal, .int mgoalDays, .int mgoalHearer, .ref a19, .ref a20, .int mleastOrder, .int mwordsMany, .ref a23, .ref a24, .ref a25, .ref a26, .ref a27, .ref a28])), (a1, .inl (g.2 0, 225, .inl mworld)), (a23, .inl (g.2 0, 6, .inl (u.2.1 0))), (a24, .inl (g.2 0, 6, .inl (u.2.1 1)))]) := by
  refine Ct.of (by decide) (Nat.le_of_ble_eq_true rfl) ?_
  intro p e s m below meth c A ls FX hP hD hS hl
  obtain ⟨FC, hr, hlk, hKn, hA, hnm, hZ⟩ := id FX
  have FC : CallFix p m c cX12_joinedBy 8 s _ BIG RX12 := FC
  obtain ⟨hx, hb, hml, hown, hB⟩ := id FC
  have hl : lv_has ls 8 [(0, .ref h0), (1, .int p1)] := hl
  refine lv_iconst (v := 1) hx hb dX12_joinedBy_0 (by decide) ?_
  refine lv_istore_n (lv' := [(2, .int 1), (0, .ref h0), (1, .int p1)]) hx hb dX12_joinedBy_1 rfl hl (by decide) rfl (fun ls hl => ?_)
  refine lv_iconst (v := 0) hx hb dX12_joinedBy_2 (by decide) ?_
  refine lv_istore_n (lv' := [(3, .int 0), (2, .int 1), (0, .ref h0), (1, .int p1)]) hx hb dX12_joinedBy_3 rfl hl (by decide) rfl (fun ls hl => ?_)
  have lp17916 : ∀ (n17918 : Nat) (x17914 : Int32) (x17915 : Int32) (H : Heap) (locs : List Loc) (ls : Array Slot), 0 ≤ x17914.toInt ∧ x17914.toInt ≤ 6 → (6 - x17914.toInt).toNat < n17918 → va_P g.1 vwCl [(h0, .inr (12, [.int mthrown, .ref a1, .ref a2, .ref a3, .ref a4, .int mtaped, .ref a6, .int msize, .int mat, .int mfrom, .int mtoken, .int mvalue, .int mfaultKind, .int mfaultPlace, .ref a14, .ref a15, .int mgoal, .int mgoalDays, .int mgoalHearer, .ref a19, .ref a20, .int mleastOrder, .int mwordsMany, .ref a23, .ref a24, .ref a25, .ref a26, .ref a27, .ref a28])), (a1, .inl (g.2 0, 225, .inl mworld)), (a23, .inl (g.2 0, 6, .inl mletters)), (a24, .inl (g.2 0, 6, .inl mbestLetters))] H → va_D A [(h0, .inr (12, [.int mthrown, .ref a1, .ref a2, .ref a3, .ref a4, .int mtaped, .ref a6, .int msize, .int mat, .int mfrom, .int mtoken, .int mvalue, .int mfaultKind, .int mfaultPlace, .ref a14, .ref a15, .int mgoal, .int mgoalDays, .int mgoalHearer, .ref a19, .ref a20, .int mleastOrder, .int mwordsMany, .ref a23, .ref a24, .ref a25, .ref a26, .ref a27, .ref a28])), (a1, .inl (g.2 0, 225, .inl mworld)), (a23, .inl (g.2 0, 6, .inl mletters)), (a24, .inl (g.2 0, 6, .inl mbestLetters))] → va_S A s.heap H locs → lv_has ls 8 [(3, .int x17914), (2, .int x17915), (0, .ref h0), (1, .int p1)] → W p l e { frames := 3, cells := 0, slots := 0, locals := 63 } s m ([.ref h0, .int p1].toArray) below meth c H locs 0 0 (MQ below (QX (S := (Nat → Int32) × (Nat → Nat → Int32) × (Nat → Nat → Int64)) (fun u => some (.int (u.1 0))) (fun u => True) g (fun u => [(h0, .inr (12, [.int mthrown, .ref a1, .ref a2, .ref a3, .ref a4, .int mtaped, .ref a6, .int msize, .int mat, .int mfrom, .int mtoken, .int mvalue, .int mfaultKind, .int mfaultPlace, .ref a14, .ref a15, .int mgoal, .int mgoalDays, .int mgoalHearer, .ref a19, .ref a20, .int mleastOrder, .int mwordsMany, .ref a23, .ref a24, .ref a25, .ref a26, .ref a27, .ref a28])), (a1, .inl (g.2 0, 225, .inl mworld)), (a23, .inl (g.2 0, 6, .inl (u.2.1 0))), (a24, .inl (g.2 0, 6, .inl (u.2.1 1)))]) A) ([.ref h0, .int p1].toArray) s 0 0 A) (F0 m 4 ls []) := by
    intro n17918
    induction n17918 with
    | zero =>
      intro x17914 x17915 H locs ls h_x17914 hn17919
      exact absurd hn17919 (Nat.not_lt_zero _)
    | succ n17918 ih17917 =>
      intro x17914 x17915 H locs ls h_x17914 hn17919 hP hD hS hl
      refine lv_iload_n hx hb dX12_joinedBy_4 rfl (lv_at hl 0 rfl) ?_
      refine lv_aload_n hx hb dX12_joinedBy_5 rfl (lv_at hl 2 rfl) ?_
      refine g_get (C := RX12) (T := TX12) (N := 29) (ci := 12) (v := .ref a1) FC hKn hP i_X12 0 rfl rfl 1 (by decide) b_801 rfl dX12_joinedBy_6 ?_
      refine lv_bipush (v := 8) hx hb dX12_joinedBy_9 (by decide) ?_
      refine va_iald hx hb hKn.1 hP 1 0 rfl rfl (by unfold vp_in; decide) dX12_joinedBy_11 ?_
      have kc8 : (8 : Int32).toInt = 8 := by decide
      refine lv_topi (fun z17920 e_z17920 => ?_)
      have t_z17920 : 0 ≤ z17920.toInt ∧ z17920.toInt ≤ 6 := by rw [e_z17920]; exact wk_8 i_mworld.1
      have q_z17920 : z17920.toInt = (mworld 8).toInt := by rw [e_z17920]; rfl
      refine lv_icmp_ge (tgt := 25) hx hb dX12_joinedBy_12 (by decide) (fun c17921 => ?_) (fun c17921 => ?_)
      · have c17921 := k_le (a := z17920.toInt) (b := x17914.toInt) rfl rfl c17921
        refine lv_ldcw hx hb hown (hB _ b_966) dX12_joinedBy_25 ?_
        refine lv_istore_n (lv' := [(3, .int 1000000000), (2, .int x17915), (0, .ref h0), (1, .int p1)]) hx hb dX12_joinedBy_28 rfl hl (by decide) rfl (fun ls hl => ?_)
        refine lv_iconst (v := 0) hx hb dX12_joinedBy_29 (by decide) ?_
        refine lv_istore (lv' := [(4, .int 0), (3, .int 1000000000), (2, .int x17915), (0, .ref h0), (1, .int p1)]) hx hb dX12_joinedBy_30 hl (by decide) rfl (fun ls hl => ?_)
        have rg17922 := fb_rng x17915
        have lp19773 : ∀ (n19775 : Nat) (x19769 : Int32) (x19770 : Int32) (x19771 : Nat → Int32) (x19772 : Nat → Int32) (H : Heap) (locs : List Loc) (ls : Array Slot), 0 ≤ x19769.toInt → x19770.toInt ≤ 1000000000 → (2147483647 - x19769.toInt).toNat < n19775 → va_P g.1 vwCl [(h0, .inr (12, [.int mthrown, .ref a1, .ref a2, .ref a3, .ref a4, .int mtaped, .ref a6, .int msize, .int mat, .int mfrom, .int mtoken, .int mvalue, .int mfaultKind, .int mfaultPlace, .ref a14, .ref a15, .int mgoal, .int mgoalDays, .int mgoalHearer, .ref a19, .ref a20, .int mleastOrder, .int mwordsMany, .ref a23, .ref a24, .ref a25, .ref a26, .ref a27, .ref a28])), (a1, .inl (g.2 0, 225, .inl mworld)), (a23, .inl (g.2 0, 6, .inl x19771)), (a24, .inl (g.2 0, 6, .inl x19772))] H → va_D A [(h0, .inr (12, [.int mthrown, .ref a1, .ref a2, .ref a3, .ref a4, .int mtaped, .ref a6, .int msize, .int mat, .int mfrom, .int mtoken, .int mvalue, .int mfaultKind, .int mfaultPlace, .ref a14, .ref a15, .int mgoal, .int mgoalDays, .int mgoalHearer, .ref a19, .ref a20, .int mleastOrder, .int mwordsMany, .ref a23, .ref a24, .ref a25, .ref a26, .ref a27, .ref a28])), (a1, .inl (g.2 0, 225, .inl mworld)), (a23, .inl (g.2 0, 6, .inl x19771)), (a24, .inl (g.2 0, 6, .inl x19772))] → va_S A s.heap H locs → lv_has ls 8 [(4, .int x19769), (3, .int x19770), (2, .int x17915), (0, .ref h0), (1, .int p1)] → W p l e { frames := 3, cells := 0, slots := 0, locals := 63 } s m ([.ref h0, .int p1].toArray) below meth c H locs 0 0 (MQ below (QX (S := (Nat → Int32) × (Nat → Nat → Int32) × (Nat → Nat → Int64)) (fun u => some (.int (u.1 0))) (fun u => True) g (fun u => [(h0, .inr (12, [.int mthrown, .ref a1, .ref a2, .ref a3, .ref a4, .int mtaped, .ref a6, .int msize, .int mat, .int mfrom, .int mtoken, .int mvalue, .int mfaultKind, .int mfaultPlace, .ref a14, .ref a15, .int mgoal, .int mgoalDays, .int mgoalHearer, .ref a19, .ref a20, .int mleastOrder, .int mwordsMany, .ref a23, .ref a24, .ref a25, .ref a26, .ref a27, .ref a28])), (a1, .inl (g.2 0, 225, .inl mworld)), (a23, .inl (g.2 0, 6, .inl (u.2.1 0))), (a24, .inl (g.2 0, 6, .inl (u.2.1 1)))]) A) ([.ref h0, .int p1].toArray) s 0 0 A) (F0 m 32 ls []) := by
          intro n19775
          induction n19775 with
          | zero =>
            intro x19769 x19770 x19771 x19772 H locs ls h_x19769 h_x19770 hn19776
            exact absurd hn19776 (Nat.not_lt_zero _)
          | succ n19775 ih19774 =>
            intro x19769 x19770 x19771 x19772 H locs ls h_x19769 h_x19770 hn19776 hP hD hS hl
            have rg19777 := fb_rng x17915
            refine lv_iload hx hb dX12_joinedBy_32 (lv_at hl 0 rfl) ?_
            refine lv_iload_n hx hb dX12_joinedBy_34 rfl (lv_at hl 2 rfl) ?_
            refine lv_icmp_ge (tgt := 136) hx hb dX12_joinedBy_35 (by decide) (fun c19778 => ?_) (fun c19778 => ?_)
            · have c19778 := k_le (a := x17915.toInt) (b := x19769.toInt) rfl rfl c19778
              refine lv_iload_n hx hb dX12_joinedBy_136 rfl (lv_at hl 1 rfl) ?_
              exact rt_i FX ((fun k => match k with | 0 => x19770 | _ => 0), (fun k => match k with | 0 => x19771 | 1 => x19772 | _ => fun _ => 0), (fun _ => fun _ => 0)) rfl trivial (hP.sub [0, 1, 2, 3] rfl) (hD.sub [0, 1, 2, 3] (by decide) rfl) hS (Nat.le_of_ble_eq_true rfl) (Nat.le_of_ble_eq_true rfl) dX12_joinedBy_137
            · have c19778 := k_nle (a := x17915.toInt) (b := x19769.toInt) rfl rfl c19778
              refine lv_iload hx hb dX12_joinedBy_38 (lv_at hl 0 rfl) ?_
              refine lv_istore (lv' := [(5, .int x19769), (4, .int x19769), (3, .int x19770), (2, .int x17915), (0, .ref h0), (1, .int p1)]) hx hb dX12_joinedBy_40 hl (by decide) rfl (fun ls hl => ?_)
              refine lv_aload_n hx hb dX12_joinedBy_42 rfl (lv_at hl 4 rfl) ?_
              refine g_get (C := RX12) (T := TX12) (N := 29) (ci := 12) (v := .ref a1) FC hKn hP i_X12 0 rfl rfl 1 (by decide) b_801 rfl dX12_joinedBy_43 ?_
              refine lv_bipush (v := 8) hx hb dX12_joinedBy_46 (by decide) ?_
              refine va_iald hx hb hKn.1 hP 1 0 rfl rfl (by unfold vp_in; decide) dX12_joinedBy_48 ?_
              refine tp_i (v := z17920) e_z17920.symm ?_
              refine lv_iconst (v := 1) hx hb dX12_joinedBy_49 (by decide) ?_
              refine lv_isub hx hb dX12_joinedBy_50 ?_
              have kc1 : (1 : Int32).toInt = 1 := by decide
              refine lv_topi (fun z19779 e_z19779 => ?_)
              have t_z19779 : z19779.toInt = z17920.toInt - ((1 : Int32)).toInt := by rw [e_z19779]; exact fb_subI (by omega) (by omega)
              refine lv_istore (lv' := [(6, .int z19779), (5, .int x19769), (4, .int x19769), (3, .int x19770), (2, .int x17915), (0, .ref h0), (1, .int p1)]) hx hb dX12_joinedBy_51 hl (by decide) rfl (fun ls hl => ?_)
              have lp19952 : ∀ (n19954 : Nat) (x19949 : Int32) (x19950 : Int32) (x19951 : Nat → Int32) (H : Heap) (locs : List Loc) (ls : Array Slot), -1 ≤ x19949.toInt ∧ x19949.toInt ≤ 5 → 0 ≤ x19950.toInt ∧ x19950.toInt ≤ 2147483646 → (x19949.toInt - (-1)).toNat < n19954 → va_P g.1 vwCl [(h0, .inr (12, [.int mthrown, .ref a1, .ref a2, .ref a3, .ref a4, .int mtaped, .ref a6, .int msize, .int mat, .int mfrom, .int mtoken, .int mvalue, .int mfaultKind, .int mfaultPlace, .ref a14, .ref a15, .int mgoal, .int mgoalDays, .int mgoalHearer, .ref a19, .ref a20, .int mleastOrder, .int mwordsMany, .ref a23, .ref a24, .ref a25, .ref a26, .ref a27, .ref a28])), (a1, .inl (g.2 0, 225, .inl mworld)), (a23, .inl (g.2 0, 6, .inl x19951)), (a24, .inl (g.2 0, 6, .inl x19772))] H → va_D A [(h0, .inr (12, [.int mthrown, .ref a1, .ref a2, .ref a3, .ref a4, .int mtaped, .ref a6, .int msize, .int mat, .int mfrom, .int mtoken, .int mvalue, .int mfaultKind, .int mfaultPlace, .ref a14, .ref a15, .int mgoal, .int mgoalDays, .int mgoalHearer, .ref a19, .ref a20, .int mleastOrder, .int mwordsMany, .ref a23, .ref a24, .ref a25, .ref a26, .ref a27, .ref a28])), (a1, .inl (g.2 0, 225, .inl mworld)), (a23, .inl (g.2 0, 6, .inl x19951)), (a24, .inl (g.2 0, 6, .inl x19772))] → va_S A s.heap H locs → lv_has ls 8 [(6, .int x19949), (5, .int x19950), (4, .int x19769), (3, .int x19770), (2, .int x17915), (0, .ref h0), (1, .int p1)] → W p l e { frames := 3, cells := 0, slots := 0, locals := 63 } s m ([.ref h0, .int p1].toArray) below meth c H locs 0 0 (MQ below (QX (S := (Nat → Int32) × (Nat → Nat → Int32) × (Nat → Nat → Int64)) (fun u => some (.int (u.1 0))) (fun u => True) g (fun u => [(h0, .inr (12, [.int mthrown, .ref a1, .ref a2, .ref a3, .ref a4, .int mtaped, .ref a6, .int msize, .int mat, .int mfrom, .int mtoken, .int mvalue, .int mfaultKind, .int mfaultPlace, .ref a14, .ref a15, .int mgoal, .int mgoalDays, .int mgoalHearer, .ref a19, .ref a20, .int mleastOrder, .int mwordsMany, .ref a23, .ref a24, .ref a25, .ref a26, .ref a27, .ref a28])), (a1, .inl (g.2 0, 225, .inl mworld)), (a23, .inl (g.2 0, 6, .inl (u.2.1 0))), (a24, .inl (g.2 0, 6, .inl (u.2.1 1)))]) A) ([.ref h0, .int p1].toArray) s 0 0 A) (F0 m 53 ls []) := by
                intro n19954
                induction n19954 with
                | zero =>
                  intro x19949 x19950 x19951 H locs ls h_x19949 h_x19950 hn19955
                  exact absurd hn19955 (Nat.not_lt_zero _)
                | succ n19954 ih19953 =>
                  intro x19949 x19950 x19951 H locs ls h_x19949 h_x19950 hn19955 hP hD hS hl
                  refine lv_iload hx hb dX12_joinedBy_53 (lv_at hl 0 rfl) ?_
                  refine lv_if_lt (tgt := 81) hx hb dX12_joinedBy_55 (by decide) (fun c19956 => ?_) (fun c19956 => ?_)
                  · have c19956 := k_lt (a := x19949.toInt) (b := 0) rfl (by decide) c19956
                    refine lv_aload_n hx hb dX12_joinedBy_81 rfl (lv_at hl 5 rfl) ?_
                    refine lv_iload_n hx hb dX12_joinedBy_82 rfl (lv_at hl 6 rfl) ?_
                    refine call_V (As := [.int p1]) (rest := []) (wr := [(a24, .inl (g.2 0, 6, .inl x19772))]) FC hKn hZ (k_X12_leftBy l g h0 a1 a2 a3 a4 a6 a14 a15 a19 a20 a23 a24 a25 a26 a27 a28 mthrown mtaped msize mat mfrom mtoken mvalue mfaultKind mfaultPlace mgoal mgoalDays mgoalHearer mleastOrder mwordsMany mworld x19951 p1 (by omega) (by omega) (by omega) (by omega) (by omega) (by omega) (by omega) (by omega) i_mworld (by omega)) m_yX12_leftBy b_1047 (ci := 12) rfl rfl rfl hP hD hS hA [0, 1, 2] [3] rfl (by decide) rfl (by decide) (by decide) rfl hl.1 rfl (Nat.le_of_ble_eq_true rfl) dX12_joinedBy_83 ⟨(Nat.le_of_ble_eq_true rfl), (Nat.le_of_ble_eq_true rfl)⟩ ⟨(Nat.le_of_ble_eq_true rfl), (Nat.le_of_ble_eq_true rfl)⟩ (fun u19957 H locs q19958 hP hD hS => ?_)
                    have hP : va_P g.1 vwCl [(a24, .inl (g.2 0, 6, .inl x19772)), (h0, .inr (12, [.int mthrown, .ref a1, .ref a2, .ref a3, .ref a4, .int mtaped, .ref a6, .int msize, .int mat, .int mfrom, .int mtoken, .int mvalue, .int mfaultKind, .int mfaultPlace, .ref a14, .ref a15, .int mgoal, .int mgoalDays, .int mgoalHearer, .ref a19, .ref a20, .int mleastOrder, .int mwordsMany, .ref a23, .ref a24, .ref a25, .ref a26, .ref a27, .ref a28])), (a1, .inl (g.2 0, 225, .inl mworld)), (a23, .inl (g.2 0, 6, .inl x19951))] H := hP
                    have hD : va_D A [(a24, .inl (g.2 0, 6, .inl x19772)), (h0, .inr (12, [.int mthrown, .ref a1, .ref a2, .ref a3, .ref a4, .int mtaped, .ref a6, .int msize, .int mat, .int mfrom, .int mtoken, .int mvalue, .int mfaultKind, .int mfaultPlace, .ref a14, .ref a15, .int mgoal, .int mgoalDays, .int mgoalHearer, .ref a19, .ref a20, .int mleastOrder, .int mwordsMany, .ref a23, .ref a24, .ref a25, .ref a26, .ref a27, .ref a28])), (a1, .inl (g.2 0, 225, .inl mworld)), (a23, .inl (g.2 0, 6, .inl x19951))] := hD
                    refine W.eq (g2 := F0 m 86 ls [.int (u19957.1 0)]) rfl ?_
                    refine lv_istore (lv' := [(6, .int (u19957.1 0)), (5, .int x19950), (4, .int x19769), (3, .int x19770), (2, .int x17915), (0, .ref h0), (1, .int p1)]) hx hb dX12_joinedBy_86 hl (by decide) rfl (fun ls hl => ?_)
                    refine lv_iload hx hb dX12_joinedBy_88 (lv_at hl 0 rfl) ?_
                    refine lv_iload_n hx hb dX12_joinedBy_90 rfl (lv_at hl 3 rfl) ?_
                    refine lv_icmp_lt (tgt := 97) hx hb dX12_joinedBy_91 (by decide) (fun c19959 => ?_) (fun c19959 => ?_)
                    · have c19959 := k_lt (a := (u19957.1 0).toInt) (b := x19770.toInt) rfl rfl c19959
                      refine lv_iload hx hb dX12_joinedBy_97 (lv_at hl 0 rfl) ?_
                      refine lv_istore_n (lv' := [(3, .int (u19957.1 0)), (6, .int (u19957.1 0)), (5, .int x19950), (4, .int x19769), (2, .int x17915), (0, .ref h0), (1, .int p1)]) hx hb dX12_joinedBy_99 rfl hl (by decide) rfl (fun ls hl => ?_)
                      refine lv_iconst (v := 0) hx hb dX12_joinedBy_100 (by decide) ?_
                      refine lv_istore (lv' := [(7, .int 0), (3, .int (u19957.1 0)), (6, .int (u19957.1 0)), (5, .int x19950), (4, .int x19769), (2, .int x17915), (0, .ref h0), (1, .int p1)]) hx hb dX12_joinedBy_101 hl (by decide) rfl (fun ls hl => ?_)
                      have lp20019 : ∀ (n20021 : Nat) (x20017 : Int32) (x20018 : Nat → Int32) (H : Heap) (locs : List Loc) (ls : Array Slot), 0 ≤ x20017.toInt ∧ x20017.toInt ≤ 6 → (6 - x20017.toInt).toNat < n20021 → va_P g.1 vwCl [(a24, .inl (g.2 0, 6, .inl x20018)), (h0, .inr (12, [.int mthrown, .ref a1, .ref a2, .ref a3, .ref a4, .int mtaped, .ref a6, .int msize, .int mat, .int mfrom, .int mtoken, .int mvalue, .int mfaultKind, .int mfaultPlace, .ref a14, .ref a15, .int mgoal, .int mgoalDays, .int mgoalHearer, .ref a19, .ref a20, .int mleastOrder, .int mwordsMany, .ref a23, .ref a24, .ref a25, .ref a26, .ref a27, .ref a28])), (a1, .inl (g.2 0, 225, .inl mworld)), (a23, .inl (g.2 0, 6, .inl x19951))] H → va_D A [(a24, .inl (g.2 0, 6, .inl x20018)), (h0, .inr (12, [.int mthrown, .ref a1, .ref a2, .ref a3, .ref a4, .int mtaped, .ref a6, .int msize, .int mat, .int mfrom, .int mtoken, .int mvalue, .int mfaultKind, .int mfaultPlace, .ref a14, .ref a15, .int mgoal, .int mgoalDays, .int mgoalHearer, .ref a19, .ref a20, .int mleastOrder, .int mwordsMany, .ref a23, .ref a24, .ref a25, .ref a26, .ref a27, .ref a28])), (a1, .inl (g.2 0, 225, .inl mworld)), (a23, .inl (g.2 0, 6, .inl x19951))] → va_S A s.heap H locs → lv_has ls 8 [(7, .int x20017), (3, .int (u19957.1 0)), (6, .int (u19957.1 0)), (5, .int x19950), (4, .int x19769), (2, .int x17915), (0, .ref h0), (1, .int p1)] → W p l e { frames := 3, cells := 0, slots := 0, locals := 63 } s m ([.ref h0, .int p1].toArray) below meth c H locs 0 0 (MQ below (QX (S := (Nat → Int32) × (Nat → Nat → Int32) × (Nat → Nat → Int64)) (fun u => some (.int (u.1 0))) (fun u => True) g (fun u => [(h0, .inr (12, [.int mthrown, .ref a1, .ref a2, .ref a3, .ref a4, .int mtaped, .ref a6, .int msize, .int mat, .int mfrom, .int mtoken, .int mvalue, .int mfaultKind, .int mfaultPlace, .ref a14, .ref a15, .int mgoal, .int mgoalDays, .int mgoalHearer, .ref a19, .ref a20, .int mleastOrder, .int mwordsMany, .ref a23, .ref a24, .ref a25, .ref a26, .ref a27, .ref a28])), (a1, .inl (g.2 0, 225, .inl mworld)), (a23, .inl (g.2 0, 6, .inl (u.2.1 0))), (a24, .inl (g.2 0, 6, .inl (u.2.1 1)))]) A) ([.ref h0, .int p1].toArray) s 0 0 A) (F0 m 103 ls []) := by
                        intro n20021
                        induction n20021 with
                        | zero =>
                          intro x20017 x20018 H locs ls h_x20017 hn20022
                          exact absurd hn20022 (Nat.not_lt_zero _)
                        | succ n20021 ih20020 =>
                          intro x20017 x20018 H locs ls h_x20017 hn20022 hP hD hS hl
                          refine lv_iload hx hb dX12_joinedBy_103 (lv_at hl 0 rfl) ?_
                          refine lv_bipush (v := 6) hx hb dX12_joinedBy_105 (by decide) ?_
                          refine lv_icmp_ge (tgt := 130) hx hb dX12_joinedBy_107 (by decide) (fun c20023 => ?_) (fun c20023 => ?_)
                          · have c20023 := k_le (a := 6) (b := x20017.toInt) (by decide) rfl c20023
                            have rg20024 := fb_rng x17915
                            obtain ⟨z20025, e_z20025⟩ : ∃ y : Int32, y = x19769 + 1 := ⟨_, rfl⟩
                            have t_z20025 : z20025.toInt = x19769.toInt + 1 := by rw [e_z20025]; exact addk (by decide) (by omega) (by omega)
                            refine lv_iinc (v := z20025) (lv' := [(4, .int z20025), (7, .int x20017), (3, .int (u19957.1 0)), (6, .int (u19957.1 0)), (5, .int x19950), (2, .int x17915), (0, .ref h0), (1, .int p1)]) hx hb dX12_joinedBy_130 hl (k := 4) rfl (by rw [e_z20025]; rfl) (by decide) rfl (fun ls hl => ?_)
                            refine lv_goto (tgt := 32) hx hb dX12_joinedBy_133 (by decide) ?_
                            have rg20026 := fb_rng x17915
                            exact ih19774 z20025 (u19957.1 0) x19951 x20018 _ _ ls (by omega) (by omega) (by omega) (hP.sub [1, 2, 3, 0] rfl) (hD.sub [1, 2, 3, 0] (by decide) rfl) hS (lv_sub hl [0, 2, 5, 6, 7] rfl)
                          · have c20023 := k_nle (a := 6) (b := x20017.toInt) (by decide) rfl c20023
                            refine lv_aload_n hx hb dX12_joinedBy_110 rfl (lv_at hl 6 rfl) ?_
                            refine g_get (C := RX12) (T := TX12) (N := 29) (ci := 12) (v := .ref a24) FC hKn hP i_X12 1 rfl rfl 24 (by decide) b_1048 rfl dX12_joinedBy_111 ?_
                            refine lv_iload hx hb dX12_joinedBy_114 (lv_at hl 0 rfl) ?_
                            refine lv_aload_n hx hb dX12_joinedBy_116 rfl (lv_at hl 6 rfl) ?_
                            refine g_get (C := RX12) (T := TX12) (N := 29) (ci := 12) (v := .ref a23) FC hKn hP i_X12 1 rfl rfl 23 (by decide) b_1046 rfl dX12_joinedBy_117 ?_
                            refine lv_iload hx hb dX12_joinedBy_120 (lv_at hl 0 rfl) ?_
                            refine va_iald hx hb hKn.1 hP 3 0 rfl rfl (vp_in_iff.mpr ⟨by omega, by omega⟩) dX12_joinedBy_122 ?_
                            refine lv_topi (fun z20027 e_z20027 => ?_)
                            refine va_iast hx hb hKn.1 hP hD hS 0 0 rfl rfl (vp_in_iff.mpr ⟨by omega, by omega⟩) dX12_joinedBy_123 (fun H locs hP hD hS => ?_)
                            have hP : va_P g.1 vwCl [(a24, .inl (g.2 0, 6, .inl (upd x20018 (x20017.toNatClampNeg) z20027))), (h0, .inr (12, [.int mthrown, .ref a1, .ref a2, .ref a3, .ref a4, .int mtaped, .ref a6, .int msize, .int mat, .int mfrom, .int mtoken, .int mvalue, .int mfaultKind, .int mfaultPlace, .ref a14, .ref a15, .int mgoal, .int mgoalDays, .int mgoalHearer, .ref a19, .ref a20, .int mleastOrder, .int mwordsMany, .ref a23, .ref a24, .ref a25, .ref a26, .ref a27, .ref a28])), (a1, .inl (g.2 0, 225, .inl mworld)), (a23, .inl (g.2 0, 6, .inl x19951))] H := hP
                            have hD : va_D A [(a24, .inl (g.2 0, 6, .inl (upd x20018 (x20017.toNatClampNeg) z20027))), (h0, .inr (12, [.int mthrown, .ref a1, .ref a2, .ref a3, .ref a4, .int mtaped, .ref a6, .int msize, .int mat, .int mfrom, .int mtoken, .int mvalue, .int mfaultKind, .int mfaultPlace, .ref a14, .ref a15, .int mgoal, .int mgoalDays, .int mgoalHearer, .ref a19, .ref a20, .int mleastOrder, .int mwordsMany, .ref a23, .ref a24, .ref a25, .ref a26, .ref a27, .ref a28])), (a1, .inl (g.2 0, 225, .inl mworld)), (a23, .inl (g.2 0, 6, .inl x19951))] := hD
                            generalize (upd x20018 (x20017.toNatClampNeg) z20027 : Nat → Int32) = f20028 at hP hD
                            have rg20029 := fb_rng x17915
                            obtain ⟨z20030, e_z20030⟩ : ∃ y : Int32, y = x20017 + 1 := ⟨_, rfl⟩
                            have t_z20030 : z20030.toInt = x20017.toInt + 1 := by rw [e_z20030]; exact addk (by decide) (by omega) (by omega)
                            refine lv_iinc (v := z20030) (lv' := [(7, .int z20030), (3, .int (u19957.1 0)), (6, .int (u19957.1 0)), (5, .int x19950), (4, .int x19769), (2, .int x17915), (0, .ref h0), (1, .int p1)]) hx hb dX12_joinedBy_124 hl (k := 0) rfl (by rw [e_z20030]; rfl) (by decide) rfl (fun ls hl => ?_)
                            refine lv_goto (tgt := 103) hx hb dX12_joinedBy_127 (by decide) ?_
                            exact ih20020 z20030 f20028 _ _ ls (by omega) (by omega) hP hD hS (lv_sub hl [0, 1, 2, 3, 4, 5, 6, 7] rfl)
                      have kc0 : (0 : Int32).toInt = 0 := by decide
                      exact lp20019 _ (0 : Int32) x19772 _ _ ls (by decide) (Nat.lt_succ_self _) hP hD hS (lv_sub hl [0, 1, 2, 3, 4, 5, 6, 7] rfl)
                    · have c19959 := k_nlt (a := (u19957.1 0).toInt) (b := x19770.toInt) rfl rfl c19959
                      refine lv_goto (tgt := 130) hx hb dX12_joinedBy_94 (by decide) ?_
                      have rg20031 := fb_rng x17915
                      obtain ⟨z20032, e_z20032⟩ : ∃ y : Int32, y = x19769 + 1 := ⟨_, rfl⟩
                      have t_z20032 : z20032.toInt = x19769.toInt + 1 := by rw [e_z20032]; exact addk (by decide) (by omega) (by omega)
                      refine lv_iinc (v := z20032) (lv' := [(4, .int z20032), (6, .int (u19957.1 0)), (5, .int x19950), (3, .int x19770), (2, .int x17915), (0, .ref h0), (1, .int p1)]) hx hb dX12_joinedBy_130 hl (k := 2) rfl (by rw [e_z20032]; rfl) (by decide) rfl (fun ls hl => ?_)
                      refine lv_goto (tgt := 32) hx hb dX12_joinedBy_133 (by decide) ?_
                      have rg20033 := fb_rng x17915
                      exact ih19774 z20032 x19770 x19951 x19772 _ _ ls (by omega) (by omega) (by omega) (hP.sub [1, 2, 3, 0] rfl) (hD.sub [1, 2, 3, 0] (by decide) rfl) hS (lv_sub hl [0, 3, 4, 5, 6] rfl)
                  · have c19956 := k_nlt (a := x19949.toInt) (b := 0) rfl (by decide) c19956
                    refine lv_aload_n hx hb dX12_joinedBy_58 rfl (lv_at hl 5 rfl) ?_
                    refine g_get (C := RX12) (T := TX12) (N := 29) (ci := 12) (v := .ref a23) FC hKn hP i_X12 0 rfl rfl 23 (by decide) b_1046 rfl dX12_joinedBy_59 ?_
                    refine lv_iload hx hb dX12_joinedBy_62 (lv_at hl 0 rfl) ?_
                    refine lv_iload hx hb dX12_joinedBy_64 (lv_at hl 1 rfl) ?_
                    refine lv_iload_n hx hb dX12_joinedBy_66 rfl (lv_at hl 6 rfl) ?_
                    refine lv_irem hx hb dX12_joinedBy_67 (ne0 (by omega)) ?_
                    refine lv_topi (fun z20034 e_z20034 => ?_)
                    have t_z20034 : 0 ≤ z20034.toInt ∧ z20034.toInt < p1.toInt := by rw [e_z20034]; exact rem_b (by omega) (by omega)
                    refine va_iast hx hb hKn.1 hP hD hS 2 0 rfl rfl (vp_in_iff.mpr ⟨by omega, by omega⟩) dX12_joinedBy_68 (fun H locs hP hD hS => ?_)
                    have hP : va_P g.1 vwCl [(h0, .inr (12, [.int mthrown, .ref a1, .ref a2, .ref a3, .ref a4, .int mtaped, .ref a6, .int msize, .int mat, .int mfrom, .int mtoken, .int mvalue, .int mfaultKind, .int mfaultPlace, .ref a14, .ref a15, .int mgoal, .int mgoalDays, .int mgoalHearer, .ref a19, .ref a20, .int mleastOrder, .int mwordsMany, .ref a23, .ref a24, .ref a25, .ref a26, .ref a27, .ref a28])), (a1, .inl (g.2 0, 225, .inl mworld)), (a23, .inl (g.2 0, 6, .inl (upd x19951 (x19949.toNatClampNeg) z20034))), (a24, .inl (g.2 0, 6, .inl x19772))] H := hP
                    have hD : va_D A [(h0, .inr (12, [.int mthrown, .ref a1, .ref a2, .ref a3, .ref a4, .int mtaped, .ref a6, .int msize, .int mat, .int mfrom, .int mtoken, .int mvalue, .int mfaultKind, .int mfaultPlace, .ref a14, .ref a15, .int mgoal, .int mgoalDays, .int mgoalHearer, .ref a19, .ref a20, .int mleastOrder, .int mwordsMany, .ref a23, .ref a24, .ref a25, .ref a26, .ref a27, .ref a28])), (a1, .inl (g.2 0, 225, .inl mworld)), (a23, .inl (g.2 0, 6, .inl (upd x19951 (x19949.toNatClampNeg) z20034))), (a24, .inl (g.2 0, 6, .inl x19772))] := hD
                    generalize (upd x19951 (x19949.toNatClampNeg) z20034 : Nat → Int32) = f20035 at hP hD
                    refine lv_iload hx hb dX12_joinedBy_69 (lv_at hl 1 rfl) ?_
                    refine lv_iload_n hx hb dX12_joinedBy_71 rfl (lv_at hl 6 rfl) ?_
                    refine lv_idiv hx hb dX12_joinedBy_72 (ne0 (by omega)) ?_
                    refine lv_topi (fun z20036 e_z20036 => ?_)
                    have t_z20036 : 0 ≤ z20036.toInt ∧ z20036.toInt ≤ x19950.toInt := by rw [e_z20036]; exact div_b (by omega) (by omega)
                    refine lv_istore (lv' := [(5, .int z20036), (6, .int x19949), (4, .int x19769), (3, .int x19770), (2, .int x17915), (0, .ref h0), (1, .int p1)]) hx hb dX12_joinedBy_73 hl (by decide) rfl (fun ls hl => ?_)
                    have rg20037 := fb_rng x17915
                    obtain ⟨z20038, e_z20038⟩ : ∃ y : Int32, y = x19949 + (-1) := ⟨_, rfl⟩
                    have t_z20038 : z20038.toInt = x19949.toInt + (-1) := by rw [e_z20038]; exact addk (by decide) (by omega) (by omega)
                    refine lv_iinc (v := z20038) (lv' := [(6, .int z20038), (5, .int z20036), (4, .int x19769), (3, .int x19770), (2, .int x17915), (0, .ref h0), (1, .int p1)]) hx hb dX12_joinedBy_75 hl (k := 1) rfl (by rw [e_z20038]; rfl) (by decide) rfl (fun ls hl => ?_)
                    refine lv_goto (tgt := 53) hx hb dX12_joinedBy_78 (by decide) ?_
                    exact ih19953 z20038 z20036 f20035 _ _ ls (by omega) (by omega) (by omega) hP hD hS (lv_sub hl [0, 1, 2, 3, 4, 5, 6] rfl)
              exact lp19952 _ z19779 x19769 x19771 _ _ ls (by omega) (by omega) (Nat.lt_succ_self _) hP hD hS (lv_sub hl [0, 1, 2, 3, 4, 5, 6] rfl)
        have kc0 : (0 : Int32).toInt = 0 := by decide
        have kc1000000000 : (1000000000 : Int32).toInt = 1000000000 := by decide
        exact lp19773 _ (0 : Int32) (1000000000 : Int32) mletters mbestLetters _ _ ls (by decide) (by decide) (Nat.lt_succ_self _) hP hD hS (lv_sub hl [0, 1, 2, 3, 4] rfl)
      · have c17921 := k_nle (a := z17920.toInt) (b := x17914.toInt) rfl rfl c17921
        refine lv_iload_n hx hb dX12_joinedBy_15 rfl (lv_at hl 1 rfl) ?_
        refine lv_iload_n hx hb dX12_joinedBy_16 rfl (lv_at hl 3 rfl) ?_
        refine lv_imul hx hb dX12_joinedBy_17 ?_
        refine lv_topi (fun z20039 e_z20039 => ?_)
        refine lv_istore_n (lv' := [(2, .int z20039), (3, .int x17914), (0, .ref h0), (1, .int p1)]) hx hb dX12_joinedBy_18 rfl hl (by decide) rfl (fun ls hl => ?_)
        have rg20040 := fb_rng z20039
        obtain ⟨z20041, e_z20041⟩ : ∃ y : Int32, y = x17914 + 1 := ⟨_, rfl⟩
        have t_z20041 : z20041.toInt = x17914.toInt + 1 := by rw [e_z20041]; exact addk (by decide) (by omega) (by omega)
        refine lv_iinc (v := z20041) (lv' := [(3, .int z20041), (2, .int z20039), (0, .ref h0), (1, .int p1)]) hx hb dX12_joinedBy_19 hl (k := 1) rfl (by rw [e_z20041]; rfl) (by decide) rfl (fun ls hl => ?_)
        refine lv_goto (tgt := 4) hx hb dX12_joinedBy_22 (by decide) ?_
        exact ih17917 z20041 z20039 _ _ ls (by omega) (by omega) hP hD hS (lv_sub hl [0, 1, 2, 3] rfl)
  have kc0 : (0 : Int32).toInt = 0 := by decide
  have kc1 : (1 : Int32).toInt = 1 := by decide
  exact lp17916 _ (0 : Int32) (1 : Int32) _ _ ls (by decide) (Nat.lt_succ_self _) hP hD hS (lv_sub hl [0, 1, 2, 3] rfl)
set_option maxRecDepth 100000 in
set_option maxHeartbeats 4000000 in
theorem k_X12_areLetters (l : Launch) (g : GG) (h0 : Nat) (a1 : Nat) (a2 : Nat) (a3 : Nat) (a4 : Nat) (a6 : Nat) (a14 : Nat) (a15 : Nat) (a19 : Nat) (a20 : Nat) (a23 : Nat) (a24 : Nat) (a25 : Nat) (a26 : Nat) (a27 : Nat) (a28 : Nat) (mthrown : Int32) (mtaped : Int32) (msize : Int32) (mat : Int32) (mfrom : Int32) (mtoken : Int32) (mvalue : Int32) (mfaultKind : Int32) (mfaultPlace : Int32) (mgoal : Int32) (mgoalDays : Int32) (mgoalHearer : Int32) (mleastOrder : Int32) (mwordsMany : Int32) (mworld : Nat → Int32) (p1 : Int32) (i_mtaped : 0 ≤ mtaped.toInt ∧ mtaped.toInt ≤ 900) (i_msize : 0 ≤ msize.toInt ∧ msize.toInt ≤ 900) (i_mat : 0 ≤ mat.toInt ∧ mat.toInt ≤ 900) (i_mfrom : 0 ≤ mfrom.toInt ∧ mfrom.toInt ≤ 900) (i_mtoken : 0 ≤ mtoken.toInt ∧ mtoken.toInt ≤ 4) (i_mvalue : 0 ≤ mvalue.toInt ∧ mvalue.toInt ≤ 99999) (i_mgoalHearer : 0 ≤ mgoalHearer.toInt ∧ mgoalHearer.toInt ≤ 3) (i_mwordsMany : 0 ≤ mwordsMany.toInt ∧ mwordsMany.toInt ≤ 10) (i_mworld : wod mworld) : Ct l g yX12_areLetters cX12_areLetters 2 (some .boolean) { frames := 1, cells := 0, slots := 0, locals := 25 } [.ref h0, .int p1] [(h0, .inr (12, [.int mthrown, .ref a1, .ref a2, .ref a3, .ref a4, .int mtaped, .ref a6, .int msize, .int mat, .int mfrom, .int mtoken, .int mvalue, .int mfaultKind, .int mfaultPlace, .ref a14, .ref a15, .int mgoal, .int mgoalDays, .int mgoalHearer, .ref a19, .ref a20, .int mleastOrder, .int mwordsMany, .ref a23, .ref a24, .ref a25, .ref a26, .ref a27, .ref a28])), (a1, .inl (g.2 0, 225, .inl mworld))] (S := (Nat → Int32) × (Nat → Nat → Int32) × (Nat → Nat → Int64)) (fun u => some (.int (u.1 0))) (fun u => (0 ≤ (u.1 0).toInt ∧ (u.1 0).toInt ≤ 1) ∧ ((u.1 0).toInt = 1 → 1 ≤ p1.toInt ∧ p1.toInt ≤ 4 ∧ 1 ≤ (mworld 0).toInt ∧ 1 ≤ (mworld 2).toInt)) (fun u => [(h0, .inr (12, [.int mthrown, .ref a1, .ref a2, .ref a3, .ref a4, .int mtaped, .ref a6, .int msize, .int mat, .int mfrom, .int mtoken, .int mvalue, .int mfaultKind, .int mfaultPlace, .ref a14, .ref a15, .int mgoal, .int mgoalDays, .int mgoalHearer, .ref a19, .ref a20, .int mleastOrder, .int mwordsMany, .ref a23, .ref a24, .ref a25, .ref a26, .ref a27, .ref a28])), (a1, .inl (g.2 0, 225, .inl mworld))]) := by
  refine Ct.of (by decide) (Nat.le_of_ble_eq_true rfl) ?_
  intro p e s m below meth c A ls FX hP hD hS hl
  obtain ⟨FC, hr, hlk, hKn, hA, hnm, hZ⟩ := id FX
  have FC : CallFix p m c cX12_areLetters 2 s _ BIG RX12 := FC
  obtain ⟨hx, hb, hml, hown, hB⟩ := id FC
  have hl : lv_has ls 2 [(0, .ref h0), (1, .int p1)] := hl
  refine lv_aload_n hx hb dX12_areLetters_0 rfl (lv_at hl 0 rfl) ?_
  refine call_V (As := []) (rest := []) (wr := []) FC hKn hZ (k_X12_isDesk l g h0 a1 a2 a3 a4 a6 a14 a15 a19 a20 a23 a24 a25 a26 a27 a28 mthrown mtaped msize mat mfrom mtoken mvalue mfaultKind mfaultPlace mgoal mgoalDays mgoalHearer mleastOrder mwordsMany mworld (by omega) (by omega) (by omega) (by omega) (by omega) (by omega) (by omega) (by omega) i_mworld) m_yX12_isDesk b_805 (ci := 12) rfl rfl rfl hP hD hS hA [0, 1] [] rfl (by decide) rfl (by decide) (by decide) rfl hl.1 rfl (Nat.le_of_ble_eq_true rfl) dX12_areLetters_1 ⟨(Nat.le_of_ble_eq_true rfl), (Nat.le_of_ble_eq_true rfl)⟩ ⟨(Nat.le_of_ble_eq_true rfl), (Nat.le_of_ble_eq_true rfl)⟩ (fun u1 H locs q2 hP hD hS => ?_)
  obtain ⟨q2_0, q2_1⟩ := q2
  have hP : va_P g.1 vwCl [(h0, .inr (12, [.int mthrown, .ref a1, .ref a2, .ref a3, .ref a4, .int mtaped, .ref a6, .int msize, .int mat, .int mfrom, .int mtoken, .int mvalue, .int mfaultKind, .int mfaultPlace, .ref a14, .ref a15, .int mgoal, .int mgoalDays, .int mgoalHearer, .ref a19, .ref a20, .int mleastOrder, .int mwordsMany, .ref a23, .ref a24, .ref a25, .ref a26, .ref a27, .ref a28])), (a1, .inl (g.2 0, 225, .inl mworld))] H := hP
  have hD : va_D A [(h0, .inr (12, [.int mthrown, .ref a1, .ref a2, .ref a3, .ref a4, .int mtaped, .ref a6, .int msize, .int mat, .int mfrom, .int mtoken, .int mvalue, .int mfaultKind, .int mfaultPlace, .ref a14, .ref a15, .int mgoal, .int mgoalDays, .int mgoalHearer, .ref a19, .ref a20, .int mleastOrder, .int mwordsMany, .ref a23, .ref a24, .ref a25, .ref a26, .ref a27, .ref a28])), (a1, .inl (g.2 0, 225, .inl mworld))] := hD
  refine W.eq (g2 := F0 m 4 ls [.int (u1.1 0)]) rfl ?_
  rcases (show (u1.1 0).toInt = 0 ∨ (u1.1 0).toInt = 1 by omega) with c3 | c3
  · skip
    refine lv_if_eq (tgt := 23) hx hb dX12_areLetters_4 (by decide) (fun c4 => ?_) (fun c4 => ?_)
    · have c4 := k_eq (a := (u1.1 0).toInt) (b := 0) rfl (by decide) c4
      refine lv_iconst (v := 0) hx hb dX12_areLetters_23 (by decide) ?_
      exact rt_z FX rfl ((fun k => match k with | 0 => (0 : Int32) | _ => 0), (fun _ => fun _ => 0), (fun _ => fun _ => 0)) rfl ⟨(show 0 ≤ ((0 : Int32)).toInt ∧ ((0 : Int32)).toInt ≤ 1 by decide), (fun h => absurd h (by decide))⟩ (hP.sub [0, 1] rfl) (hD.sub [0, 1] (by decide) rfl) hS (Nat.le_of_ble_eq_true rfl) (Nat.le_of_ble_eq_true rfl) dX12_areLetters_24
    · have c4 := k_ne (a := (u1.1 0).toInt) (b := 0) rfl (by decide) c4
      exfalso; omega
  · have c3_r := q2_1 c3
    refine lv_if_eq (tgt := 23) hx hb dX12_areLetters_4 (by decide) (fun c5 => ?_) (fun c5 => ?_)
    · have c5 := k_eq (a := (u1.1 0).toInt) (b := 0) rfl (by decide) c5
      exfalso; omega
    · have c5 := k_ne (a := (u1.1 0).toInt) (b := 0) rfl (by decide) c5
      refine lv_iload_n hx hb dX12_areLetters_7 rfl (lv_at hl 1 rfl) ?_
      refine lv_i2l (v := p1.toInt64) hx hb dX12_areLetters_8 rfl ?_
      refine lv_topl (fun z6 e_z6 => ?_)
      have t_z6 : z6.toInt = p1.toInt := by rw [e_z6]; exact Int32.toInt_toInt64 _
      refine lv_lconst (v := 1) hx hb dX12_areLetters_9 (by decide) ?_
      refine lv_ldc2 hx hb hown (hB _ b_1049) dX12_areLetters_10 ?_
      have kcl1 : (1 : Int64).toInt = 1 := by decide
      have kcl4 : (4 : Int64).toInt = 4 := by decide
      refine call_S (As := [.long z6, .long 1, .long 4]) (rest := []) (wr := [(h0, .inr (12, [.int mthrown, .ref a1, .ref a2, .ref a3, .ref a4, .int mtaped, .ref a6, .int msize, .int mat, .int mfrom, .int mtoken, .int mvalue, .int mfaultKind, .int mfaultPlace, .ref a14, .ref a15, .int mgoal, .int mgoalDays, .int mgoalHearer, .ref a19, .ref a20, .int mleastOrder, .int mwordsMany, .ref a23, .ref a24, .ref a25, .ref a26, .ref a27, .ref a28])), (a1, .inl (g.2 0, 225, .inl mworld))]) FC hKn hZ (k_X12_in l g z6 ((1 : Int64)) ((4 : Int64))) m_yX12_in b_802 hP hD hS hA [] [0, 1] rfl (by decide) rfl (by decide) (by decide) rfl hl.1 rfl (Nat.le_of_ble_eq_true rfl) dX12_areLetters_13 ⟨(Nat.le_of_ble_eq_true rfl), (Nat.le_of_ble_eq_true rfl)⟩ ⟨(Nat.le_of_ble_eq_true rfl), (Nat.le_of_ble_eq_true rfl)⟩ (fun u7 H locs q8 hP hD hS => ?_)
      obtain ⟨q8_0, q8_1, q8_2⟩ := q8
      have hP : va_P g.1 vwCl [(h0, .inr (12, [.int mthrown, .ref a1, .ref a2, .ref a3, .ref a4, .int mtaped, .ref a6, .int msize, .int mat, .int mfrom, .int mtoken, .int mvalue, .int mfaultKind, .int mfaultPlace, .ref a14, .ref a15, .int mgoal, .int mgoalDays, .int mgoalHearer, .ref a19, .ref a20, .int mleastOrder, .int mwordsMany, .ref a23, .ref a24, .ref a25, .ref a26, .ref a27, .ref a28])), (a1, .inl (g.2 0, 225, .inl mworld))] H := hP
      have hD : va_D A [(h0, .inr (12, [.int mthrown, .ref a1, .ref a2, .ref a3, .ref a4, .int mtaped, .ref a6, .int msize, .int mat, .int mfrom, .int mtoken, .int mvalue, .int mfaultKind, .int mfaultPlace, .ref a14, .ref a15, .int mgoal, .int mgoalDays, .int mgoalHearer, .ref a19, .ref a20, .int mleastOrder, .int mwordsMany, .ref a23, .ref a24, .ref a25, .ref a26, .ref a27, .ref a28])), (a1, .inl (g.2 0, 225, .inl mworld))] := hD
      refine W.eq (g2 := F0 m 16 ls [.int (u7.1 0)]) rfl ?_
      rcases (show (u7.1 0).toInt = 0 ∨ (u7.1 0).toInt = 1 by omega) with c9 | c9
      · skip
        refine lv_if_eq (tgt := 23) hx hb dX12_areLetters_16 (by decide) (fun c10 => ?_) (fun c10 => ?_)
        · have c10 := k_eq (a := (u7.1 0).toInt) (b := 0) rfl (by decide) c10
          refine lv_iconst (v := 0) hx hb dX12_areLetters_23 (by decide) ?_
          exact rt_z FX rfl ((fun k => match k with | 0 => (0 : Int32) | _ => 0), (fun _ => fun _ => 0), (fun _ => fun _ => 0)) rfl ⟨(show 0 ≤ ((0 : Int32)).toInt ∧ ((0 : Int32)).toInt ≤ 1 by decide), (fun h => absurd h (by decide))⟩ (hP.sub [0, 1] rfl) (hD.sub [0, 1] (by decide) rfl) hS (Nat.le_of_ble_eq_true rfl) (Nat.le_of_ble_eq_true rfl) dX12_areLetters_24
        · have c10 := k_ne (a := (u7.1 0).toInt) (b := 0) rfl (by decide) c10
          exfalso; omega
      · have c9_r := q8_2 c9
        refine lv_if_eq (tgt := 23) hx hb dX12_areLetters_16 (by decide) (fun c11 => ?_) (fun c11 => ?_)
        · have c11 := k_eq (a := (u7.1 0).toInt) (b := 0) rfl (by decide) c11
          exfalso; omega
        · have c11 := k_ne (a := (u7.1 0).toInt) (b := 0) rfl (by decide) c11
          refine lv_iconst (v := 1) hx hb dX12_areLetters_19 (by decide) ?_
          refine lv_goto (tgt := 24) hx hb dX12_areLetters_20 (by decide) ?_
          exact rt_z FX rfl ((fun k => match k with | 0 => (1 : Int32) | _ => 0), (fun _ => fun _ => 0), (fun _ => fun _ => 0)) rfl ⟨(show 0 ≤ ((1 : Int32)).toInt ∧ ((1 : Int32)).toInt ≤ 1 by decide), (fun _ => by omega)⟩ (hP.sub [0, 1] rfl) (hD.sub [0, 1] (by decide) rfl) hS (Nat.le_of_ble_eq_true rfl) (Nat.le_of_ble_eq_true rfl) dX12_areLetters_24
set_option maxRecDepth 100000 in
set_option maxHeartbeats 4000000 in
theorem k_X12_lettersOf (l : Launch) (g : GG) (h0 : Nat) (a1 : Nat) (a2 : Nat) (a3 : Nat) (a4 : Nat) (a6 : Nat) (a14 : Nat) (a15 : Nat) (a19 : Nat) (a20 : Nat) (a23 : Nat) (a24 : Nat) (a25 : Nat) (a26 : Nat) (a27 : Nat) (a28 : Nat) (mthrown : Int32) (mtaped : Int32) (msize : Int32) (mat : Int32) (mfrom : Int32) (mtoken : Int32) (mvalue : Int32) (mfaultKind : Int32) (mfaultPlace : Int32) (mgoal : Int32) (mgoalDays : Int32) (mgoalHearer : Int32) (mleastOrder : Int32) (mwordsMany : Int32) (mworld : Nat → Int32) (p1 : Int32) (i_mtaped : 0 ≤ mtaped.toInt ∧ mtaped.toInt ≤ 900) (i_msize : 0 ≤ msize.toInt ∧ msize.toInt ≤ 900) (i_mat : 0 ≤ mat.toInt ∧ mat.toInt ≤ 900) (i_mfrom : 0 ≤ mfrom.toInt ∧ mfrom.toInt ≤ 900) (i_mtoken : 0 ≤ mtoken.toInt ∧ mtoken.toInt ≤ 4) (i_mvalue : 0 ≤ mvalue.toInt ∧ mvalue.toInt ≤ 99999) (i_mgoalHearer : 0 ≤ mgoalHearer.toInt ∧ mgoalHearer.toInt ≤ 3) (i_mwordsMany : 0 ≤ mwordsMany.toInt ∧ mwordsMany.toInt ≤ 10) (i_mworld : wod mworld) (i_p1 : 1 ≤ p1.toInt ∧ p1.toInt ≤ 4) (hd0 : 1 ≤ (mworld 0).toInt ∧ 1 ≤ (mworld 2).toInt) : Ct l g yX12_lettersOf cX12_lettersOf 2 (some .int) { frames := 1, cells := 0, slots := 0, locals := 13 } [.ref h0, .int p1] [(h0, .inr (12, [.int mthrown, .ref a1, .ref a2, .ref a3, .ref a4, .int mtaped, .ref a6, .int msize, .int mat, .int mfrom, .int mtoken, .int mvalue, .int mfaultKind, .int mfaultPlace, .ref a14, .ref a15, .int mgoal, .int mgoalDays, .int mgoalHearer, .ref a19, .ref a20, .int mleastOrder, .int mwordsMany, .ref a23, .ref a24, .ref a25, .ref a26, .ref a27, .ref a28])), (a1, .inl (g.2 0, 225, .inl mworld))] (S := (Nat → Int32) × (Nat → Nat → Int32) × (Nat → Nat → Int64)) (fun u => some (.int (u.1 0))) (fun u => (1 ≤ (u.1 0).toInt ∧ (u.1 0).toInt ≤ 4)) (fun u => [(h0, .inr (12, [.int mthrown, .ref a1, .ref a2, .ref a3, .ref a4, .int mtaped, .ref a6, .int msize, .int mat, .int mfrom, .int mtoken, .int mvalue, .int mfaultKind, .int mfaultPlace, .ref a14, .ref a15, .int mgoal, .int mgoalDays, .int mgoalHearer, .ref a19, .ref a20, .int mleastOrder, .int mwordsMany, .ref a23, .ref a24, .ref a25, .ref a26, .ref a27, .ref a28])), (a1, .inl (g.2 0, 225, .inl mworld))]) := by
  refine Ct.of (by decide) (Nat.le_of_ble_eq_true rfl) ?_
  intro p e s m below meth c A ls FX hP hD hS hl
  obtain ⟨FC, hr, hlk, hKn, hA, hnm, hZ⟩ := id FX
  have FC : CallFix p m c cX12_lettersOf 2 s _ BIG RX12 := FC
  obtain ⟨hx, hb, hml, hown, hB⟩ := id FC
  have hl : lv_has ls 2 [(0, .ref h0), (1, .int p1)] := hl
  refine lv_iload_n hx hb dX12_lettersOf_0 rfl (lv_at hl 1 rfl) ?_
  refine lv_aload_n hx hb dX12_lettersOf_1 rfl (lv_at hl 0 rfl) ?_
  refine g_get (C := RX12) (T := TX12) (N := 29) (ci := 12) (v := .ref a1) FC hKn hP i_X12 0 rfl rfl 1 (by decide) b_801 rfl dX12_lettersOf_2 ?_
  refine lv_iconst (v := 2) hx hb dX12_lettersOf_5 (by decide) ?_
  refine va_iald hx hb hKn.1 hP 1 0 rfl rfl (by unfold vp_in; decide) dX12_lettersOf_6 ?_
  have kc2 : (2 : Int32).toInt = 2 := by decide
  refine lv_topi (fun z1 e_z1 => ?_)
  have t_z1 : 0 ≤ z1.toInt ∧ z1.toInt ≤ 10 := by rw [e_z1]; exact wk_2 i_mworld.1
  have q_z1 : z1.toInt = (mworld 2).toInt := by rw [e_z1]; rfl
  refine va_mmin hx hb (by rw [hml]; exact hl.1.symm) hown (hB _ b_1050) (hB _ b_121) (hB _ b_58) (hB _ b_122) (Nat.le_of_ble_eq_true rfl) (Nat.le_of_ble_eq_true rfl) (Nat.le_of_ble_eq_true rfl) (Nat.le_of_ble_eq_true rfl) dX12_lettersOf_7 ?_
  refine lv_topi (fun z2 e_z2 => ?_)
  have t_z2 : (z2.toInt ≤ p1.toInt ∧ z2.toInt ≤ z1.toInt ∧ (z2.toInt = p1.toInt ∨ z2.toInt = z1.toInt)) := by rw [e_z2]; exact mmin_b _ _
  exact rt_i FX ((fun k => match k with | 0 => z2 | _ => 0), (fun _ => fun _ => 0), (fun _ => fun _ => 0)) rfl (show 1 ≤ z2.toInt ∧ z2.toInt ≤ 4 by omega) (hP.sub [0, 1] rfl) (hD.sub [0, 1] (by decide) rfl) hS (Nat.le_of_ble_eq_true rfl) (Nat.le_of_ble_eq_true rfl) dX12_lettersOf_10
set_option maxRecDepth 100000 in
set_option maxHeartbeats 4000000 in
theorem k_X12_joined (l : Launch) (g : GG) (h0 : Nat) (a1 : Nat) (a2 : Nat) (a3 : Nat) (a4 : Nat) (a6 : Nat) (a14 : Nat) (a15 : Nat) (a19 : Nat) (a20 : Nat) (a23 : Nat) (a24 : Nat) (a25 : Nat) (a26 : Nat) (a27 : Nat) (a28 : Nat) (mthrown : Int32) (mtaped : Int32) (msize : Int32) (mat : Int32) (mfrom : Int32) (mtoken : Int32) (mvalue : Int32) (mfaultKind : Int32) (mfaultPlace : Int32) (mgoal : Int32) (mgoalDays : Int32) (mgoalHearer : Int32) (mleastOrder : Int32) (mwordsMany : Int32) (mworld : Nat → Int32) (mletters : Nat → Int32) (mbestLetters : Nat → Int32) (p1 : Int32) (i_mtaped : 0 ≤ mtaped.toInt ∧ mtaped.toInt ≤ 900) (i_msize : 0 ≤ msize.toInt ∧ msize.toInt ≤ 900) (i_mat : 0 ≤ mat.toInt ∧ mat.toInt ≤ 900) (i_mfrom : 0 ≤ mfrom.toInt ∧ mfrom.toInt ≤ 900) (i_mtoken : 0 ≤ mtoken.toInt ∧ mtoken.toInt ≤ 4) (i_mvalue : 0 ≤ mvalue.toInt ∧ mvalue.toInt ≤ 99999) (i_mgoalHearer : 0 ≤ mgoalHearer.toInt ∧ mgoalHearer.toInt ≤ 3) (i_mwordsMany : 0 ≤ mwordsMany.toInt ∧ mwordsMany.toInt ≤ 10) (i_mworld : wod mworld) : Ct l g yX12_joined cX12_joined 2 (some .int) { frames := 4, cells := 0, slots := 0, locals := 90 } [.ref h0, .int p1] [(h0, .inr (12, [.int mthrown, .ref a1, .ref a2, .ref a3, .ref a4, .int mtaped, .ref a6, .int msize, .int mat, .int mfrom, .int mtoken, .int mvalue, .int mfaultKind, .int mfaultPlace, .ref a14, .ref a15, .int mgoal, .int mgoalDays, .int mgoalHearer, .ref a19, .ref a20, .int mleastOrder, .int mwordsMany, .ref a23, .ref a24, .ref a25, .ref a26, .ref a27, .ref a28])), (a1, .inl (g.2 0, 225, .inl mworld)), (a23, .inl (g.2 0, 6, .inl mletters)), (a24, .inl (g.2 0, 6, .inl mbestLetters))] (S := (Nat → Int32) × (Nat → Nat → Int32) × (Nat → Nat → Int64)) (fun u => some (.int (u.1 0))) (fun u => True) (fun u => [(h0, .inr (12, [.int mthrown, .ref a1, .ref a2, .ref a3, .ref a4, .int mtaped, .ref a6, .int msize, .int mat, .int mfrom, .int mtoken, .int mvalue, .int mfaultKind, .int mfaultPlace, .ref a14, .ref a15, .int mgoal, .int mgoalDays, .int mgoalHearer, .ref a19, .ref a20, .int mleastOrder, .int mwordsMany, .ref a23, .ref a24, .ref a25, .ref a26, .ref a27, .ref a28])), (a1, .inl (g.2 0, 225, .inl mworld)), (a23, .inl (g.2 0, 6, .inl (u.2.1 0))), (a24, .inl (g.2 0, 6, .inl (u.2.1 1)))]) := by
  refine Ct.of (by decide) (Nat.le_of_ble_eq_true rfl) ?_
  intro p e s m below meth c A ls FX hP hD hS hl
  obtain ⟨FC, hr, hlk, hKn, hA, hnm, hZ⟩ := id FX
  have FC : CallFix p m c cX12_joined 2 s _ BIG RX12 := FC
  obtain ⟨hx, hb, hml, hown, hB⟩ := id FC
  have hl : lv_has ls 2 [(0, .ref h0), (1, .int p1)] := hl
  refine lv_aload_n hx hb dX12_joined_0 rfl (lv_at hl 0 rfl) ?_
  refine lv_iload_n hx hb dX12_joined_1 rfl (lv_at hl 1 rfl) ?_
  refine call_V (As := [.int p1]) (rest := []) (wr := [(a23, .inl (g.2 0, 6, .inl mletters)), (a24, .inl (g.2 0, 6, .inl mbestLetters))]) FC hKn hZ (k_X12_areLetters l g h0 a1 a2 a3 a4 a6 a14 a15 a19 a20 a23 a24 a25 a26 a27 a28 mthrown mtaped msize mat mfrom mtoken mvalue mfaultKind mfaultPlace mgoal mgoalDays mgoalHearer mleastOrder mwordsMany mworld p1 (by omega) (by omega) (by omega) (by omega) (by omega) (by omega) (by omega) (by omega) i_mworld) m_yX12_areLetters b_1051 (ci := 12) rfl rfl rfl hP hD hS hA [0, 1] [2, 3] rfl (by decide) rfl (by decide) (by decide) rfl hl.1 rfl (Nat.le_of_ble_eq_true rfl) dX12_joined_2 ⟨(Nat.le_of_ble_eq_true rfl), (Nat.le_of_ble_eq_true rfl)⟩ ⟨(Nat.le_of_ble_eq_true rfl), (Nat.le_of_ble_eq_true rfl)⟩ (fun u1 H locs q2 hP hD hS => ?_)
  obtain ⟨q2_0, q2_1⟩ := q2
  have hP : va_P g.1 vwCl [(a23, .inl (g.2 0, 6, .inl mletters)), (a24, .inl (g.2 0, 6, .inl mbestLetters)), (h0, .inr (12, [.int mthrown, .ref a1, .ref a2, .ref a3, .ref a4, .int mtaped, .ref a6, .int msize, .int mat, .int mfrom, .int mtoken, .int mvalue, .int mfaultKind, .int mfaultPlace, .ref a14, .ref a15, .int mgoal, .int mgoalDays, .int mgoalHearer, .ref a19, .ref a20, .int mleastOrder, .int mwordsMany, .ref a23, .ref a24, .ref a25, .ref a26, .ref a27, .ref a28])), (a1, .inl (g.2 0, 225, .inl mworld))] H := hP
  have hD : va_D A [(a23, .inl (g.2 0, 6, .inl mletters)), (a24, .inl (g.2 0, 6, .inl mbestLetters)), (h0, .inr (12, [.int mthrown, .ref a1, .ref a2, .ref a3, .ref a4, .int mtaped, .ref a6, .int msize, .int mat, .int mfrom, .int mtoken, .int mvalue, .int mfaultKind, .int mfaultPlace, .ref a14, .ref a15, .int mgoal, .int mgoalDays, .int mgoalHearer, .ref a19, .ref a20, .int mleastOrder, .int mwordsMany, .ref a23, .ref a24, .ref a25, .ref a26, .ref a27, .ref a28])), (a1, .inl (g.2 0, 225, .inl mworld))] := hD
  refine W.eq (g2 := F0 m 5 ls [.int (u1.1 0)]) rfl ?_
  rcases (show (u1.1 0).toInt = 0 ∨ (u1.1 0).toInt = 1 by omega) with c3 | c3
  · skip
    refine lv_if_eq (tgt := 20) hx hb dX12_joined_5 (by decide) (fun c4 => ?_) (fun c4 => ?_)
    · have c4 := k_eq (a := (u1.1 0).toInt) (b := 0) rfl (by decide) c4
      refine lv_bipush (v := -2) hx hb dX12_joined_20 (by decide) ?_
      exact rt_i FX ((fun k => match k with | 0 => (-2 : Int32) | _ => 0), (fun k => match k with | 0 => mletters | 1 => mbestLetters | _ => fun _ => 0), (fun _ => fun _ => 0)) rfl trivial (hP.sub [2, 3, 0, 1] rfl) (hD.sub [2, 3, 0, 1] (by decide) rfl) hS (Nat.le_of_ble_eq_true rfl) (Nat.le_of_ble_eq_true rfl) dX12_joined_22
    · have c4 := k_ne (a := (u1.1 0).toInt) (b := 0) rfl (by decide) c4
      exfalso; omega
  · have c3_r := q2_1 c3
    refine lv_if_eq (tgt := 20) hx hb dX12_joined_5 (by decide) (fun c5 => ?_) (fun c5 => ?_)
    · have c5 := k_eq (a := (u1.1 0).toInt) (b := 0) rfl (by decide) c5
      exfalso; omega
    · have c5 := k_ne (a := (u1.1 0).toInt) (b := 0) rfl (by decide) c5
      refine lv_aload_n hx hb dX12_joined_8 rfl (lv_at hl 0 rfl) ?_
      refine lv_aload_n hx hb dX12_joined_9 rfl (lv_at hl 0 rfl) ?_
      refine lv_iload_n hx hb dX12_joined_10 rfl (lv_at hl 1 rfl) ?_
      refine call_V (As := [.int p1]) (rest := [.ref h0]) (wr := [(a23, .inl (g.2 0, 6, .inl mletters)), (a24, .inl (g.2 0, 6, .inl mbestLetters))]) FC hKn hZ (k_X12_lettersOf l g h0 a1 a2 a3 a4 a6 a14 a15 a19 a20 a23 a24 a25 a26 a27 a28 mthrown mtaped msize mat mfrom mtoken mvalue mfaultKind mfaultPlace mgoal mgoalDays mgoalHearer mleastOrder mwordsMany mworld p1 (by omega) (by omega) (by omega) (by omega) (by omega) (by omega) (by omega) (by omega) i_mworld (by omega) (by omega)) m_yX12_lettersOf b_1052 (ci := 12) rfl rfl rfl hP hD hS hA [2, 3] [0, 1] rfl (by decide) rfl (by decide) (by decide) rfl hl.1 rfl (Nat.le_of_ble_eq_true rfl) dX12_joined_11 ⟨(Nat.le_of_ble_eq_true rfl), (Nat.le_of_ble_eq_true rfl)⟩ ⟨(Nat.le_of_ble_eq_true rfl), (Nat.le_of_ble_eq_true rfl)⟩ (fun u6 H locs q7 hP hD hS => ?_)
      have q7_0 : 1 ≤ (u6.1 0).toInt ∧ (u6.1 0).toInt ≤ 4 := q7
      have hP : va_P g.1 vwCl [(a23, .inl (g.2 0, 6, .inl mletters)), (a24, .inl (g.2 0, 6, .inl mbestLetters)), (h0, .inr (12, [.int mthrown, .ref a1, .ref a2, .ref a3, .ref a4, .int mtaped, .ref a6, .int msize, .int mat, .int mfrom, .int mtoken, .int mvalue, .int mfaultKind, .int mfaultPlace, .ref a14, .ref a15, .int mgoal, .int mgoalDays, .int mgoalHearer, .ref a19, .ref a20, .int mleastOrder, .int mwordsMany, .ref a23, .ref a24, .ref a25, .ref a26, .ref a27, .ref a28])), (a1, .inl (g.2 0, 225, .inl mworld))] H := hP
      have hD : va_D A [(a23, .inl (g.2 0, 6, .inl mletters)), (a24, .inl (g.2 0, 6, .inl mbestLetters)), (h0, .inr (12, [.int mthrown, .ref a1, .ref a2, .ref a3, .ref a4, .int mtaped, .ref a6, .int msize, .int mat, .int mfrom, .int mtoken, .int mvalue, .int mfaultKind, .int mfaultPlace, .ref a14, .ref a15, .int mgoal, .int mgoalDays, .int mgoalHearer, .ref a19, .ref a20, .int mleastOrder, .int mwordsMany, .ref a23, .ref a24, .ref a25, .ref a26, .ref a27, .ref a28])), (a1, .inl (g.2 0, 225, .inl mworld))] := hD
      refine W.eq (g2 := F0 m 14 ls [.int (u6.1 0), .ref h0]) rfl ?_
      refine call_V (As := [.int (u6.1 0)]) (rest := []) (wr := []) FC hKn hZ (k_X12_joinedBy l g h0 a1 a2 a3 a4 a6 a14 a15 a19 a20 a23 a24 a25 a26 a27 a28 mthrown mtaped msize mat mfrom mtoken mvalue mfaultKind mfaultPlace mgoal mgoalDays mgoalHearer mleastOrder mwordsMany mworld mletters mbestLetters (u6.1 0) (by omega) (by omega) (by omega) (by omega) (by omega) (by omega) (by omega) (by omega) i_mworld (by omega)) m_yX12_joinedBy b_1053 (ci := 12) rfl rfl rfl hP hD hS hA [2, 3, 0, 1] [] rfl (by decide) rfl (by decide) (by decide) rfl hl.1 rfl (Nat.le_of_ble_eq_true rfl) dX12_joined_14 ⟨(Nat.le_of_ble_eq_true rfl), (Nat.le_of_ble_eq_true rfl)⟩ ⟨(Nat.le_of_ble_eq_true rfl), (Nat.le_of_ble_eq_true rfl)⟩ (fun u8 H locs q9 hP hD hS => ?_)
      have hP : va_P g.1 vwCl [(h0, .inr (12, [.int mthrown, .ref a1, .ref a2, .ref a3, .ref a4, .int mtaped, .ref a6, .int msize, .int mat, .int mfrom, .int mtoken, .int mvalue, .int mfaultKind, .int mfaultPlace, .ref a14, .ref a15, .int mgoal, .int mgoalDays, .int mgoalHearer, .ref a19, .ref a20, .int mleastOrder, .int mwordsMany, .ref a23, .ref a24, .ref a25, .ref a26, .ref a27, .ref a28])), (a1, .inl (g.2 0, 225, .inl mworld)), (a23, .inl (g.2 0, 6, .inl (u8.2.1 0))), (a24, .inl (g.2 0, 6, .inl (u8.2.1 1)))] H := hP
      have hD : va_D A [(h0, .inr (12, [.int mthrown, .ref a1, .ref a2, .ref a3, .ref a4, .int mtaped, .ref a6, .int msize, .int mat, .int mfrom, .int mtoken, .int mvalue, .int mfaultKind, .int mfaultPlace, .ref a14, .ref a15, .int mgoal, .int mgoalDays, .int mgoalHearer, .ref a19, .ref a20, .int mleastOrder, .int mwordsMany, .ref a23, .ref a24, .ref a25, .ref a26, .ref a27, .ref a28])), (a1, .inl (g.2 0, 225, .inl mworld)), (a23, .inl (g.2 0, 6, .inl (u8.2.1 0))), (a24, .inl (g.2 0, 6, .inl (u8.2.1 1)))] := hD
      refine W.eq (g2 := F0 m 17 ls [.int (u8.1 0)]) rfl ?_
      refine lv_goto (tgt := 22) hx hb dX12_joined_17 (by decide) ?_
      exact rt_i FX ((fun k => match k with | 0 => u8.1 0 | _ => 0), (fun k => match k with | 0 => u8.2.1 0 | 1 => u8.2.1 1 | _ => fun _ => 0), (fun _ => fun _ => 0)) rfl trivial (hP.sub [0, 1, 2, 3] rfl) (hD.sub [0, 1, 2, 3] (by decide) rfl) hS (Nat.le_of_ble_eq_true rfl) (Nat.le_of_ble_eq_true rfl) dX12_joined_22
set_option maxRecDepth 100000 in
set_option maxHeartbeats 4000000 in
theorem k_X12_letter (l : Launch) (g : GG) (h0 : Nat) (a1 : Nat) (a2 : Nat) (a3 : Nat) (a4 : Nat) (a6 : Nat) (a14 : Nat) (a15 : Nat) (a19 : Nat) (a20 : Nat) (a23 : Nat) (a24 : Nat) (a25 : Nat) (a26 : Nat) (a27 : Nat) (a28 : Nat) (mthrown : Int32) (mtaped : Int32) (msize : Int32) (mat : Int32) (mfrom : Int32) (mtoken : Int32) (mvalue : Int32) (mfaultKind : Int32) (mfaultPlace : Int32) (mgoal : Int32) (mgoalDays : Int32) (mgoalHearer : Int32) (mleastOrder : Int32) (mwordsMany : Int32) (mworld : Nat → Int32) (mletters : Nat → Int32) (mbestLetters : Nat → Int32) (p1 : Int32) (p2 : Int32) (i_mtaped : 0 ≤ mtaped.toInt ∧ mtaped.toInt ≤ 900) (i_msize : 0 ≤ msize.toInt ∧ msize.toInt ≤ 900) (i_mat : 0 ≤ mat.toInt ∧ mat.toInt ≤ 900) (i_mfrom : 0 ≤ mfrom.toInt ∧ mfrom.toInt ≤ 900) (i_mtoken : 0 ≤ mtoken.toInt ∧ mtoken.toInt ≤ 4) (i_mvalue : 0 ≤ mvalue.toInt ∧ mvalue.toInt ≤ 99999) (i_mgoalHearer : 0 ≤ mgoalHearer.toInt ∧ mgoalHearer.toInt ≤ 3) (i_mwordsMany : 0 ≤ mwordsMany.toInt ∧ mwordsMany.toInt ≤ 10) (i_mworld : wod mworld) : Ct l g yX12_letter cX12_letter 3 (some .int) { frames := 4, cells := 0, slots := 0, locals := 90 } [.ref h0, .int p1, .int p2] [(h0, .inr (12, [.int mthrown, .ref a1, .ref a2, .ref a3, .ref a4, .int mtaped, .ref a6, .int msize, .int mat, .int mfrom, .int mtoken, .int mvalue, .int mfaultKind, .int mfaultPlace, .ref a14, .ref a15, .int mgoal, .int mgoalDays, .int mgoalHearer, .ref a19, .ref a20, .int mleastOrder, .int mwordsMany, .ref a23, .ref a24, .ref a25, .ref a26, .ref a27, .ref a28])), (a1, .inl (g.2 0, 225, .inl mworld)), (a23, .inl (g.2 0, 6, .inl mletters)), (a24, .inl (g.2 0, 6, .inl mbestLetters))] (S := (Nat → Int32) × (Nat → Nat → Int32) × (Nat → Nat → Int64)) (fun u => some (.int (u.1 0))) (fun u => True) (fun u => [(h0, .inr (12, [.int mthrown, .ref a1, .ref a2, .ref a3, .ref a4, .int mtaped, .ref a6, .int msize, .int mat, .int mfrom, .int mtoken, .int mvalue, .int mfaultKind, .int mfaultPlace, .ref a14, .ref a15, .int mgoal, .int mgoalDays, .int mgoalHearer, .ref a19, .ref a20, .int mleastOrder, .int mwordsMany, .ref a23, .ref a24, .ref a25, .ref a26, .ref a27, .ref a28])), (a1, .inl (g.2 0, 225, .inl mworld)), (a23, .inl (g.2 0, 6, .inl (u.2.1 0))), (a24, .inl (g.2 0, 6, .inl (u.2.1 1)))]) := by
  refine Ct.of (by decide) (Nat.le_of_ble_eq_true rfl) ?_
  intro p e s m below meth c A ls FX hP hD hS hl
  obtain ⟨FC, hr, hlk, hKn, hA, hnm, hZ⟩ := id FX
  have FC : CallFix p m c cX12_letter 3 s _ BIG RX12 := FC
  obtain ⟨hx, hb, hml, hown, hB⟩ := id FC
  have hl : lv_has ls 3 [(0, .ref h0), (1, .int p1), (2, .int p2)] := hl
  refine lv_aload_n hx hb dX12_letter_0 rfl (lv_at hl 0 rfl) ?_
  refine lv_iload_n hx hb dX12_letter_1 rfl (lv_at hl 1 rfl) ?_
  refine call_V (As := [.int p1]) (rest := []) (wr := [(a23, .inl (g.2 0, 6, .inl mletters)), (a24, .inl (g.2 0, 6, .inl mbestLetters))]) FC hKn hZ (k_X12_areLetters l g h0 a1 a2 a3 a4 a6 a14 a15 a19 a20 a23 a24 a25 a26 a27 a28 mthrown mtaped msize mat mfrom mtoken mvalue mfaultKind mfaultPlace mgoal mgoalDays mgoalHearer mleastOrder mwordsMany mworld p1 (by omega) (by omega) (by omega) (by omega) (by omega) (by omega) (by omega) (by omega) i_mworld) m_yX12_areLetters b_1051 (ci := 12) rfl rfl rfl hP hD hS hA [0, 1] [2, 3] rfl (by decide) rfl (by decide) (by decide) rfl hl.1 rfl (Nat.le_of_ble_eq_true rfl) dX12_letter_2 ⟨(Nat.le_of_ble_eq_true rfl), (Nat.le_of_ble_eq_true rfl)⟩ ⟨(Nat.le_of_ble_eq_true rfl), (Nat.le_of_ble_eq_true rfl)⟩ (fun u1 H locs q2 hP hD hS => ?_)
  obtain ⟨q2_0, q2_1⟩ := q2
  have hP : va_P g.1 vwCl [(a23, .inl (g.2 0, 6, .inl mletters)), (a24, .inl (g.2 0, 6, .inl mbestLetters)), (h0, .inr (12, [.int mthrown, .ref a1, .ref a2, .ref a3, .ref a4, .int mtaped, .ref a6, .int msize, .int mat, .int mfrom, .int mtoken, .int mvalue, .int mfaultKind, .int mfaultPlace, .ref a14, .ref a15, .int mgoal, .int mgoalDays, .int mgoalHearer, .ref a19, .ref a20, .int mleastOrder, .int mwordsMany, .ref a23, .ref a24, .ref a25, .ref a26, .ref a27, .ref a28])), (a1, .inl (g.2 0, 225, .inl mworld))] H := hP
  have hD : va_D A [(a23, .inl (g.2 0, 6, .inl mletters)), (a24, .inl (g.2 0, 6, .inl mbestLetters)), (h0, .inr (12, [.int mthrown, .ref a1, .ref a2, .ref a3, .ref a4, .int mtaped, .ref a6, .int msize, .int mat, .int mfrom, .int mtoken, .int mvalue, .int mfaultKind, .int mfaultPlace, .ref a14, .ref a15, .int mgoal, .int mgoalDays, .int mgoalHearer, .ref a19, .ref a20, .int mleastOrder, .int mwordsMany, .ref a23, .ref a24, .ref a25, .ref a26, .ref a27, .ref a28])), (a1, .inl (g.2 0, 225, .inl mworld))] := hD
  refine W.eq (g2 := F0 m 5 ls [.int (u1.1 0)]) rfl ?_
  rcases (show (u1.1 0).toInt = 0 ∨ (u1.1 0).toInt = 1 by omega) with c3 | c3
  · skip
    refine lv_if_eq (tgt := 27) hx hb dX12_letter_5 (by decide) (fun c4 => ?_) (fun c4 => ?_)
    · have c4 := k_eq (a := (u1.1 0).toInt) (b := 0) rfl (by decide) c4
      refine lv_bipush (v := -2) hx hb dX12_letter_27 (by decide) ?_
      exact rt_i FX ((fun k => match k with | 0 => (-2 : Int32) | _ => 0), (fun k => match k with | 0 => mletters | 1 => mbestLetters | _ => fun _ => 0), (fun _ => fun _ => 0)) rfl trivial (hP.sub [2, 3, 0, 1] rfl) (hD.sub [2, 3, 0, 1] (by decide) rfl) hS (Nat.le_of_ble_eq_true rfl) (Nat.le_of_ble_eq_true rfl) dX12_letter_29
    · have c4 := k_ne (a := (u1.1 0).toInt) (b := 0) rfl (by decide) c4
      exfalso; omega
  · have c3_r := q2_1 c3
    refine lv_if_eq (tgt := 27) hx hb dX12_letter_5 (by decide) (fun c5 => ?_) (fun c5 => ?_)
    · have c5 := k_eq (a := (u1.1 0).toInt) (b := 0) rfl (by decide) c5
      exfalso; omega
    · have c5 := k_ne (a := (u1.1 0).toInt) (b := 0) rfl (by decide) c5
      refine lv_iload_n hx hb dX12_letter_8 rfl (lv_at hl 2 rfl) ?_
      refine lv_i2l (v := p2.toInt64) hx hb dX12_letter_9 rfl ?_
      refine lv_topl (fun z6 e_z6 => ?_)
      have t_z6 : z6.toInt = p2.toInt := by rw [e_z6]; exact Int32.toInt_toInt64 _
      refine lv_lconst (v := 0) hx hb dX12_letter_10 (by decide) ?_
      refine lv_aload_n hx hb dX12_letter_11 rfl (lv_at hl 0 rfl) ?_
      refine g_get (C := RX12) (T := TX12) (N := 29) (ci := 12) (v := .ref a1) FC hKn hP i_X12 2 rfl rfl 1 (by decide) b_801 rfl dX12_letter_12 ?_
      refine lv_bipush (v := 8) hx hb dX12_letter_15 (by decide) ?_
      refine va_iald hx hb hKn.1 hP 3 0 rfl rfl (by unfold vp_in; decide) dX12_letter_17 ?_
      have kc8 : (8 : Int32).toInt = 8 := by decide
      refine lv_topi (fun z7 e_z7 => ?_)
      have t_z7 : 0 ≤ z7.toInt ∧ z7.toInt ≤ 6 := by rw [e_z7]; exact wk_8 i_mworld.1
      have q_z7 : z7.toInt = (mworld 8).toInt := by rw [e_z7]; rfl
      refine lv_iconst (v := 1) hx hb dX12_letter_18 (by decide) ?_
      refine lv_isub hx hb dX12_letter_19 ?_
      have kc1 : (1 : Int32).toInt = 1 := by decide
      refine lv_topi (fun z8 e_z8 => ?_)
      have t_z8 : z8.toInt = z7.toInt - ((1 : Int32)).toInt := by rw [e_z8]; exact fb_subI (by omega) (by omega)
      refine lv_i2l (v := z8.toInt64) hx hb dX12_letter_20 rfl ?_
      refine lv_topl (fun z9 e_z9 => ?_)
      have t_z9 : z9.toInt = z8.toInt := by rw [e_z9]; exact Int32.toInt_toInt64 _
      have kcl0 : (0 : Int64).toInt = 0 := by decide
      refine call_S (As := [.long z6, .long 0, .long z9]) (rest := []) (wr := [(a23, .inl (g.2 0, 6, .inl mletters)), (a24, .inl (g.2 0, 6, .inl mbestLetters)), (h0, .inr (12, [.int mthrown, .ref a1, .ref a2, .ref a3, .ref a4, .int mtaped, .ref a6, .int msize, .int mat, .int mfrom, .int mtoken, .int mvalue, .int mfaultKind, .int mfaultPlace, .ref a14, .ref a15, .int mgoal, .int mgoalDays, .int mgoalHearer, .ref a19, .ref a20, .int mleastOrder, .int mwordsMany, .ref a23, .ref a24, .ref a25, .ref a26, .ref a27, .ref a28])), (a1, .inl (g.2 0, 225, .inl mworld))]) FC hKn hZ (k_X12_in l g z6 ((0 : Int64)) z9) m_yX12_in b_802 hP hD hS hA [] [0, 1, 2, 3] rfl (by decide) rfl (by decide) (by decide) rfl hl.1 rfl (Nat.le_of_ble_eq_true rfl) dX12_letter_21 ⟨(Nat.le_of_ble_eq_true rfl), (Nat.le_of_ble_eq_true rfl)⟩ ⟨(Nat.le_of_ble_eq_true rfl), (Nat.le_of_ble_eq_true rfl)⟩ (fun u10 H locs q11 hP hD hS => ?_)
      obtain ⟨q11_0, q11_1, q11_2⟩ := q11
      have hP : va_P g.1 vwCl [(a23, .inl (g.2 0, 6, .inl mletters)), (a24, .inl (g.2 0, 6, .inl mbestLetters)), (h0, .inr (12, [.int mthrown, .ref a1, .ref a2, .ref a3, .ref a4, .int mtaped, .ref a6, .int msize, .int mat, .int mfrom, .int mtoken, .int mvalue, .int mfaultKind, .int mfaultPlace, .ref a14, .ref a15, .int mgoal, .int mgoalDays, .int mgoalHearer, .ref a19, .ref a20, .int mleastOrder, .int mwordsMany, .ref a23, .ref a24, .ref a25, .ref a26, .ref a27, .ref a28])), (a1, .inl (g.2 0, 225, .inl mworld))] H := hP
      have hD : va_D A [(a23, .inl (g.2 0, 6, .inl mletters)), (a24, .inl (g.2 0, 6, .inl mbestLetters)), (h0, .inr (12, [.int mthrown, .ref a1, .ref a2, .ref a3, .ref a4, .int mtaped, .ref a6, .int msize, .int mat, .int mfrom, .int mtoken, .int mvalue, .int mfaultKind, .int mfaultPlace, .ref a14, .ref a15, .int mgoal, .int mgoalDays, .int mgoalHearer, .ref a19, .ref a20, .int mleastOrder, .int mwordsMany, .ref a23, .ref a24, .ref a25, .ref a26, .ref a27, .ref a28])), (a1, .inl (g.2 0, 225, .inl mworld))] := hD
      refine W.eq (g2 := F0 m 24 ls [.int (u10.1 0)]) rfl ?_
      rcases (show (u10.1 0).toInt = 0 ∨ (u10.1 0).toInt = 1 by omega) with c12 | c12
      · skip
        refine lv_if_ne (tgt := 30) hx hb dX12_letter_24 (by decide) (fun c13 => ?_) (fun c13 => ?_)
        · have c13 := k_ne (a := (u10.1 0).toInt) (b := 0) rfl (by decide) c13
          exfalso; omega
        · have c13 := k_eq (a := (u10.1 0).toInt) (b := 0) rfl (by decide) c13
          refine lv_bipush (v := -2) hx hb dX12_letter_27 (by decide) ?_
          exact rt_i FX ((fun k => match k with | 0 => (-2 : Int32) | _ => 0), (fun k => match k with | 0 => mletters | 1 => mbestLetters | _ => fun _ => 0), (fun _ => fun _ => 0)) rfl trivial (hP.sub [2, 3, 0, 1] rfl) (hD.sub [2, 3, 0, 1] (by decide) rfl) hS (Nat.le_of_ble_eq_true rfl) (Nat.le_of_ble_eq_true rfl) dX12_letter_29
      · have c12_r := q11_2 c12
        refine lv_if_ne (tgt := 30) hx hb dX12_letter_24 (by decide) (fun c14 => ?_) (fun c14 => ?_)
        · have c14 := k_ne (a := (u10.1 0).toInt) (b := 0) rfl (by decide) c14
          refine lv_aload_n hx hb dX12_letter_30 rfl (lv_at hl 0 rfl) ?_
          refine lv_aload_n hx hb dX12_letter_31 rfl (lv_at hl 0 rfl) ?_
          refine lv_iload_n hx hb dX12_letter_32 rfl (lv_at hl 1 rfl) ?_
          refine call_V (As := [.int p1]) (rest := [.ref h0]) (wr := [(a23, .inl (g.2 0, 6, .inl mletters)), (a24, .inl (g.2 0, 6, .inl mbestLetters))]) FC hKn hZ (k_X12_lettersOf l g h0 a1 a2 a3 a4 a6 a14 a15 a19 a20 a23 a24 a25 a26 a27 a28 mthrown mtaped msize mat mfrom mtoken mvalue mfaultKind mfaultPlace mgoal mgoalDays mgoalHearer mleastOrder mwordsMany mworld p1 (by omega) (by omega) (by omega) (by omega) (by omega) (by omega) (by omega) (by omega) i_mworld (by omega) (by omega)) m_yX12_lettersOf b_1052 (ci := 12) rfl rfl rfl hP hD hS hA [2, 3] [0, 1] rfl (by decide) rfl (by decide) (by decide) rfl hl.1 rfl (Nat.le_of_ble_eq_true rfl) dX12_letter_33 ⟨(Nat.le_of_ble_eq_true rfl), (Nat.le_of_ble_eq_true rfl)⟩ ⟨(Nat.le_of_ble_eq_true rfl), (Nat.le_of_ble_eq_true rfl)⟩ (fun u15 H locs q16 hP hD hS => ?_)
          have q16_0 : 1 ≤ (u15.1 0).toInt ∧ (u15.1 0).toInt ≤ 4 := q16
          have hP : va_P g.1 vwCl [(a23, .inl (g.2 0, 6, .inl mletters)), (a24, .inl (g.2 0, 6, .inl mbestLetters)), (h0, .inr (12, [.int mthrown, .ref a1, .ref a2, .ref a3, .ref a4, .int mtaped, .ref a6, .int msize, .int mat, .int mfrom, .int mtoken, .int mvalue, .int mfaultKind, .int mfaultPlace, .ref a14, .ref a15, .int mgoal, .int mgoalDays, .int mgoalHearer, .ref a19, .ref a20, .int mleastOrder, .int mwordsMany, .ref a23, .ref a24, .ref a25, .ref a26, .ref a27, .ref a28])), (a1, .inl (g.2 0, 225, .inl mworld))] H := hP
          have hD : va_D A [(a23, .inl (g.2 0, 6, .inl mletters)), (a24, .inl (g.2 0, 6, .inl mbestLetters)), (h0, .inr (12, [.int mthrown, .ref a1, .ref a2, .ref a3, .ref a4, .int mtaped, .ref a6, .int msize, .int mat, .int mfrom, .int mtoken, .int mvalue, .int mfaultKind, .int mfaultPlace, .ref a14, .ref a15, .int mgoal, .int mgoalDays, .int mgoalHearer, .ref a19, .ref a20, .int mleastOrder, .int mwordsMany, .ref a23, .ref a24, .ref a25, .ref a26, .ref a27, .ref a28])), (a1, .inl (g.2 0, 225, .inl mworld))] := hD
          refine W.eq (g2 := F0 m 36 ls [.int (u15.1 0), .ref h0]) rfl ?_
          refine call_V (As := [.int (u15.1 0)]) (rest := []) (wr := []) FC hKn hZ (k_X12_joinedBy l g h0 a1 a2 a3 a4 a6 a14 a15 a19 a20 a23 a24 a25 a26 a27 a28 mthrown mtaped msize mat mfrom mtoken mvalue mfaultKind mfaultPlace mgoal mgoalDays mgoalHearer mleastOrder mwordsMany mworld mletters mbestLetters (u15.1 0) (by omega) (by omega) (by omega) (by omega) (by omega) (by omega) (by omega) (by omega) i_mworld (by omega)) m_yX12_joinedBy b_1053 (ci := 12) rfl rfl rfl hP hD hS hA [2, 3, 0, 1] [] rfl (by decide) rfl (by decide) (by decide) rfl hl.1 rfl (Nat.le_of_ble_eq_true rfl) dX12_letter_36 ⟨(Nat.le_of_ble_eq_true rfl), (Nat.le_of_ble_eq_true rfl)⟩ ⟨(Nat.le_of_ble_eq_true rfl), (Nat.le_of_ble_eq_true rfl)⟩ (fun u17 H locs q18 hP hD hS => ?_)
          have hP : va_P g.1 vwCl [(h0, .inr (12, [.int mthrown, .ref a1, .ref a2, .ref a3, .ref a4, .int mtaped, .ref a6, .int msize, .int mat, .int mfrom, .int mtoken, .int mvalue, .int mfaultKind, .int mfaultPlace, .ref a14, .ref a15, .int mgoal, .int mgoalDays, .int mgoalHearer, .ref a19, .ref a20, .int mleastOrder, .int mwordsMany, .ref a23, .ref a24, .ref a25, .ref a26, .ref a27, .ref a28])), (a1, .inl (g.2 0, 225, .inl mworld)), (a23, .inl (g.2 0, 6, .inl (u17.2.1 0))), (a24, .inl (g.2 0, 6, .inl (u17.2.1 1)))] H := hP
          have hD : va_D A [(h0, .inr (12, [.int mthrown, .ref a1, .ref a2, .ref a3, .ref a4, .int mtaped, .ref a6, .int msize, .int mat, .int mfrom, .int mtoken, .int mvalue, .int mfaultKind, .int mfaultPlace, .ref a14, .ref a15, .int mgoal, .int mgoalDays, .int mgoalHearer, .ref a19, .ref a20, .int mleastOrder, .int mwordsMany, .ref a23, .ref a24, .ref a25, .ref a26, .ref a27, .ref a28])), (a1, .inl (g.2 0, 225, .inl mworld)), (a23, .inl (g.2 0, 6, .inl (u17.2.1 0))), (a24, .inl (g.2 0, 6, .inl (u17.2.1 1)))] := hD
          refine W.eq (g2 := F0 m 39 ls [.int (u17.1 0)]) rfl ?_
          refine lv_pop hx hb dX12_letter_39 rfl ?_
          refine lv_aload_n hx hb dX12_letter_40 rfl (lv_at hl 0 rfl) ?_
          refine g_get (C := RX12) (T := TX12) (N := 29) (ci := 12) (v := .ref a24) FC hKn hP i_X12 0 rfl rfl 24 (by decide) b_1048 rfl dX12_letter_41 ?_
          refine lv_iload_n hx hb dX12_letter_44 rfl (lv_at hl 2 rfl) ?_
          refine va_iald hx hb hKn.1 hP 3 0 rfl rfl (vp_in_iff.mpr ⟨by omega, by omega⟩) dX12_letter_45 ?_
          refine lv_topi (fun z19 e_z19 => ?_)
          exact rt_i FX ((fun k => match k with | 0 => z19 | _ => 0), (fun k => match k with | 0 => u17.2.1 0 | 1 => u17.2.1 1 | _ => fun _ => 0), (fun _ => fun _ => 0)) rfl trivial (hP.sub [0, 1, 2, 3] rfl) (hD.sub [0, 1, 2, 3] (by decide) rfl) hS (Nat.le_of_ble_eq_true rfl) (Nat.le_of_ble_eq_true rfl) dX12_letter_46
        · have c14 := k_eq (a := (u10.1 0).toInt) (b := 0) rfl (by decide) c14
          exfalso; omega
set_option maxRecDepth 100000 in
set_option maxHeartbeats 4000000 in
theorem k_X12_all (l : Launch) (g : GG) (h0 : Nat) (a1 : Nat) (a2 : Nat) (a3 : Nat) (a4 : Nat) (a6 : Nat) (a14 : Nat) (a15 : Nat) (a19 : Nat) (a20 : Nat) (a23 : Nat) (a24 : Nat) (a25 : Nat) (a26 : Nat) (a27 : Nat) (a28 : Nat) (mthrown : Int32) (mtaped : Int32) (msize : Int32) (mat : Int32) (mfrom : Int32) (mtoken : Int32) (mvalue : Int32) (mfaultKind : Int32) (mfaultPlace : Int32) (mgoal : Int32) (mgoalDays : Int32) (mgoalHearer : Int32) (mleastOrder : Int32) (mwordsMany : Int32) (mworld : Nat → Int32) (mletters : Nat → Int32) (mbestLetters : Nat → Int32) (i_mtaped : 0 ≤ mtaped.toInt ∧ mtaped.toInt ≤ 900) (i_msize : 0 ≤ msize.toInt ∧ msize.toInt ≤ 900) (i_mat : 0 ≤ mat.toInt ∧ mat.toInt ≤ 900) (i_mfrom : 0 ≤ mfrom.toInt ∧ mfrom.toInt ≤ 900) (i_mtoken : 0 ≤ mtoken.toInt ∧ mtoken.toInt ≤ 4) (i_mvalue : 0 ≤ mvalue.toInt ∧ mvalue.toInt ≤ 99999) (i_mgoalHearer : 0 ≤ mgoalHearer.toInt ∧ mgoalHearer.toInt ≤ 3) (i_mwordsMany : 0 ≤ mwordsMany.toInt ∧ mwordsMany.toInt ≤ 10) (i_mworld : wod mworld) : Ct l g yX12_all cX12_all 1 (some .int) { frames := 4, cells := 0, slots := 0, locals := 90 } [.ref h0] [(h0, .inr (12, [.int mthrown, .ref a1, .ref a2, .ref a3, .ref a4, .int mtaped, .ref a6, .int msize, .int mat, .int mfrom, .int mtoken, .int mvalue, .int mfaultKind, .int mfaultPlace, .ref a14, .ref a15, .int mgoal, .int mgoalDays, .int mgoalHearer, .ref a19, .ref a20, .int mleastOrder, .int mwordsMany, .ref a23, .ref a24, .ref a25, .ref a26, .ref a27, .ref a28])), (a1, .inl (g.2 0, 225, .inl mworld)), (a23, .inl (g.2 0, 6, .inl mletters)), (a24, .inl (g.2 0, 6, .inl mbestLetters))] (S := (Nat → Int32) × (Nat → Nat → Int32) × (Nat → Nat → Int64)) (fun u => some (.int (u.1 0))) (fun u => True) (fun u => [(h0, .inr (12, [.int mthrown, .ref a1, .ref a2, .ref a3, .ref a4, .int mtaped, .ref a6, .int msize, .int mat, .int mfrom, .int mtoken, .int mvalue, .int mfaultKind, .int mfaultPlace, .ref a14, .ref a15, .int mgoal, .int mgoalDays, .int mgoalHearer, .ref a19, .ref a20, .int mleastOrder, .int mwordsMany, .ref a23, .ref a24, .ref a25, .ref a26, .ref a27, .ref a28])), (a1, .inl (g.2 0, 225, .inl mworld)), (a23, .inl (g.2 0, 6, .inl (u.2.1 0))), (a24, .inl (g.2 0, 6, .inl (u.2.1 1)))]) := by
  refine Ct.of (by decide) (Nat.le_of_ble_eq_true rfl) ?_
  intro p e s m below meth c A ls FX hP hD hS hl
  obtain ⟨FC, hr, hlk, hKn, hA, hnm, hZ⟩ := id FX
  have FC : CallFix p m c cX12_all 1 s _ BIG RX12 := FC
  obtain ⟨hx, hb, hml, hown, hB⟩ := id FC
  have hl : lv_has ls 1 [(0, .ref h0)] := hl
  refine lv_aload_n hx hb dX12_all_0 rfl (lv_at hl 0 rfl) ?_
  refine call_V (As := []) (rest := []) (wr := [(a23, .inl (g.2 0, 6, .inl mletters)), (a24, .inl (g.2 0, 6, .inl mbestLetters))]) FC hKn hZ (k_X12_isDesk l g h0 a1 a2 a3 a4 a6 a14 a15 a19 a20 a23 a24 a25 a26 a27 a28 mthrown mtaped msize mat mfrom mtoken mvalue mfaultKind mfaultPlace mgoal mgoalDays mgoalHearer mleastOrder mwordsMany mworld (by omega) (by omega) (by omega) (by omega) (by omega) (by omega) (by omega) (by omega) i_mworld) m_yX12_isDesk b_805 (ci := 12) rfl rfl rfl hP hD hS hA [0, 1] [2, 3] rfl (by decide) rfl (by decide) (by decide) rfl hl.1 rfl (Nat.le_of_ble_eq_true rfl) dX12_all_1 ⟨(Nat.le_of_ble_eq_true rfl), (Nat.le_of_ble_eq_true rfl)⟩ ⟨(Nat.le_of_ble_eq_true rfl), (Nat.le_of_ble_eq_true rfl)⟩ (fun u1 H locs q2 hP hD hS => ?_)
  obtain ⟨q2_0, q2_1⟩ := q2
  have hP : va_P g.1 vwCl [(a23, .inl (g.2 0, 6, .inl mletters)), (a24, .inl (g.2 0, 6, .inl mbestLetters)), (h0, .inr (12, [.int mthrown, .ref a1, .ref a2, .ref a3, .ref a4, .int mtaped, .ref a6, .int msize, .int mat, .int mfrom, .int mtoken, .int mvalue, .int mfaultKind, .int mfaultPlace, .ref a14, .ref a15, .int mgoal, .int mgoalDays, .int mgoalHearer, .ref a19, .ref a20, .int mleastOrder, .int mwordsMany, .ref a23, .ref a24, .ref a25, .ref a26, .ref a27, .ref a28])), (a1, .inl (g.2 0, 225, .inl mworld))] H := hP
  have hD : va_D A [(a23, .inl (g.2 0, 6, .inl mletters)), (a24, .inl (g.2 0, 6, .inl mbestLetters)), (h0, .inr (12, [.int mthrown, .ref a1, .ref a2, .ref a3, .ref a4, .int mtaped, .ref a6, .int msize, .int mat, .int mfrom, .int mtoken, .int mvalue, .int mfaultKind, .int mfaultPlace, .ref a14, .ref a15, .int mgoal, .int mgoalDays, .int mgoalHearer, .ref a19, .ref a20, .int mleastOrder, .int mwordsMany, .ref a23, .ref a24, .ref a25, .ref a26, .ref a27, .ref a28])), (a1, .inl (g.2 0, 225, .inl mworld))] := hD
  refine W.eq (g2 := F0 m 4 ls [.int (u1.1 0)]) rfl ?_
  rcases (show (u1.1 0).toInt = 0 ∨ (u1.1 0).toInt = 1 by omega) with c3 | c3
  · skip
    refine lv_if_eq (tgt := 15) hx hb dX12_all_4 (by decide) (fun c4 => ?_) (fun c4 => ?_)
    · have c4 := k_eq (a := (u1.1 0).toInt) (b := 0) rfl (by decide) c4
      refine lv_bipush (v := -2) hx hb dX12_all_15 (by decide) ?_
      exact rt_i FX ((fun k => match k with | 0 => (-2 : Int32) | _ => 0), (fun k => match k with | 0 => mletters | 1 => mbestLetters | _ => fun _ => 0), (fun _ => fun _ => 0)) rfl trivial (hP.sub [2, 3, 0, 1] rfl) (hD.sub [2, 3, 0, 1] (by decide) rfl) hS (Nat.le_of_ble_eq_true rfl) (Nat.le_of_ble_eq_true rfl) dX12_all_17
    · have c4 := k_ne (a := (u1.1 0).toInt) (b := 0) rfl (by decide) c4
      exfalso; omega
  · have c3_r := q2_1 c3
    refine lv_if_eq (tgt := 15) hx hb dX12_all_4 (by decide) (fun c5 => ?_) (fun c5 => ?_)
    · have c5 := k_eq (a := (u1.1 0).toInt) (b := 0) rfl (by decide) c5
      exfalso; omega
    · have c5 := k_ne (a := (u1.1 0).toInt) (b := 0) rfl (by decide) c5
      refine lv_aload_n hx hb dX12_all_7 rfl (lv_at hl 0 rfl) ?_
      refine lv_iconst (v := 1) hx hb dX12_all_8 (by decide) ?_
      have kc1 : (1 : Int32).toInt = 1 := by decide
      refine call_V (As := [.int 1]) (rest := []) (wr := []) FC hKn hZ (k_X12_joinedBy l g h0 a1 a2 a3 a4 a6 a14 a15 a19 a20 a23 a24 a25 a26 a27 a28 mthrown mtaped msize mat mfrom mtoken mvalue mfaultKind mfaultPlace mgoal mgoalDays mgoalHearer mleastOrder mwordsMany mworld mletters mbestLetters ((1 : Int32)) (by omega) (by omega) (by omega) (by omega) (by omega) (by omega) (by omega) (by omega) i_mworld (by omega)) m_yX12_joinedBy b_1053 (ci := 12) rfl rfl rfl hP hD hS hA [2, 3, 0, 1] [] rfl (by decide) rfl (by decide) (by decide) rfl hl.1 rfl (Nat.le_of_ble_eq_true rfl) dX12_all_9 ⟨(Nat.le_of_ble_eq_true rfl), (Nat.le_of_ble_eq_true rfl)⟩ ⟨(Nat.le_of_ble_eq_true rfl), (Nat.le_of_ble_eq_true rfl)⟩ (fun u6 H locs q7 hP hD hS => ?_)
      have hP : va_P g.1 vwCl [(h0, .inr (12, [.int mthrown, .ref a1, .ref a2, .ref a3, .ref a4, .int mtaped, .ref a6, .int msize, .int mat, .int mfrom, .int mtoken, .int mvalue, .int mfaultKind, .int mfaultPlace, .ref a14, .ref a15, .int mgoal, .int mgoalDays, .int mgoalHearer, .ref a19, .ref a20, .int mleastOrder, .int mwordsMany, .ref a23, .ref a24, .ref a25, .ref a26, .ref a27, .ref a28])), (a1, .inl (g.2 0, 225, .inl mworld)), (a23, .inl (g.2 0, 6, .inl (u6.2.1 0))), (a24, .inl (g.2 0, 6, .inl (u6.2.1 1)))] H := hP
      have hD : va_D A [(h0, .inr (12, [.int mthrown, .ref a1, .ref a2, .ref a3, .ref a4, .int mtaped, .ref a6, .int msize, .int mat, .int mfrom, .int mtoken, .int mvalue, .int mfaultKind, .int mfaultPlace, .ref a14, .ref a15, .int mgoal, .int mgoalDays, .int mgoalHearer, .ref a19, .ref a20, .int mleastOrder, .int mwordsMany, .ref a23, .ref a24, .ref a25, .ref a26, .ref a27, .ref a28])), (a1, .inl (g.2 0, 225, .inl mworld)), (a23, .inl (g.2 0, 6, .inl (u6.2.1 0))), (a24, .inl (g.2 0, 6, .inl (u6.2.1 1)))] := hD
      refine W.eq (g2 := F0 m 12 ls [.int (u6.1 0)]) rfl ?_
      refine lv_goto (tgt := 17) hx hb dX12_all_12 (by decide) ?_
      exact rt_i FX ((fun k => match k with | 0 => u6.1 0 | _ => 0), (fun k => match k with | 0 => u6.2.1 0 | 1 => u6.2.1 1 | _ => fun _ => 0), (fun _ => fun _ => 0)) rfl trivial (hP.sub [0, 1, 2, 3] rfl) (hD.sub [0, 1, 2, 3] (by decide) rfl) hS (Nat.le_of_ble_eq_true rfl) (Nat.le_of_ble_eq_true rfl) dX12_all_17
set_option maxRecDepth 100000 in
set_option maxHeartbeats 4000000 in
theorem k_X12_heardBy (l : Launch) (g : GG) (h0 : Nat) (a1 : Nat) (a2 : Nat) (a3 : Nat) (a4 : Nat) (a6 : Nat) (a14 : Nat) (a15 : Nat) (a19 : Nat) (a20 : Nat) (a23 : Nat) (a24 : Nat) (a25 : Nat) (a26 : Nat) (a27 : Nat) (a28 : Nat) (mthrown : Int32) (mtaped : Int32) (msize : Int32) (mat : Int32) (mfrom : Int32) (mtoken : Int32) (mvalue : Int32) (mfaultKind : Int32) (mfaultPlace : Int32) (mgoal : Int32) (mgoalDays : Int32) (mgoalHearer : Int32) (mleastOrder : Int32) (mwordsMany : Int32) (mworld : Nat → Int32) (p1 : Int32) (p2 : Int32) (i_mtaped : 0 ≤ mtaped.toInt ∧ mtaped.toInt ≤ 900) (i_msize : 0 ≤ msize.toInt ∧ msize.toInt ≤ 900) (i_mat : 0 ≤ mat.toInt ∧ mat.toInt ≤ 900) (i_mfrom : 0 ≤ mfrom.toInt ∧ mfrom.toInt ≤ 900) (i_mtoken : 0 ≤ mtoken.toInt ∧ mtoken.toInt ≤ 4) (i_mvalue : 0 ≤ mvalue.toInt ∧ mvalue.toInt ≤ 99999) (i_mgoalHearer : 0 ≤ mgoalHearer.toInt ∧ mgoalHearer.toInt ≤ 3) (i_mwordsMany : 0 ≤ mwordsMany.toInt ∧ mwordsMany.toInt ≤ 10) (i_mworld : wod mworld) : Ct l g yX12_heardBy cX12_heardBy 7 (some .int) { frames := 1, cells := 0, slots := 0, locals := 21 } [.ref h0, .int p1, .int p2] [(h0, .inr (12, [.int mthrown, .ref a1, .ref a2, .ref a3, .ref a4, .int mtaped, .ref a6, .int msize, .int mat, .int mfrom, .int mtoken, .int mvalue, .int mfaultKind, .int mfaultPlace, .ref a14, .ref a15, .int mgoal, .int mgoalDays, .int mgoalHearer, .ref a19, .ref a20, .int mleastOrder, .int mwordsMany, .ref a23, .ref a24, .ref a25, .ref a26, .ref a27, .ref a28])), (a1, .inl (g.2 0, 225, .inl mworld))] (S := (Nat → Int32) × (Nat → Nat → Int32) × (Nat → Nat → Int64)) (fun u => some (.int (u.1 0))) (fun u => True) (fun u => [(h0, .inr (12, [.int mthrown, .ref a1, .ref a2, .ref a3, .ref a4, .int mtaped, .ref a6, .int msize, .int mat, .int mfrom, .int mtoken, .int mvalue, .int mfaultKind, .int mfaultPlace, .ref a14, .ref a15, .int mgoal, .int mgoalDays, .int mgoalHearer, .ref a19, .ref a20, .int mleastOrder, .int mwordsMany, .ref a23, .ref a24, .ref a25, .ref a26, .ref a27, .ref a28])), (a1, .inl (g.2 0, 225, .inl mworld))]) := by
  refine Ct.of (by decide) (Nat.le_of_ble_eq_true rfl) ?_
  intro p e s m below meth c A ls FX hP hD hS hl
  obtain ⟨FC, hr, hlk, hKn, hA, hnm, hZ⟩ := id FX
  have FC : CallFix p m c cX12_heardBy 7 s _ BIG RX12 := FC
  obtain ⟨hx, hb, hml, hown, hB⟩ := id FC
  have hl : lv_has ls 7 [(0, .ref h0), (1, .int p1), (2, .int p2)] := hl
  refine lv_iload_n hx hb dX12_heardBy_0 rfl (lv_at hl 1 rfl) ?_
  refine lv_istore_n (lv' := [(3, .int p1), (0, .ref h0), (1, .int p1), (2, .int p2)]) hx hb dX12_heardBy_1 rfl hl (by decide) rfl (fun ls hl => ?_)
  refine lv_iconst (v := 0) hx hb dX12_heardBy_2 (by decide) ?_
  refine lv_istore (lv' := [(4, .int 0), (3, .int p1), (0, .ref h0), (1, .int p1), (2, .int p2)]) hx hb dX12_heardBy_3 hl (by decide) rfl (fun ls hl => ?_)
  have lp429 : ∀ (n431 : Nat) (x427 : Int32) (x428 : Int32) (H : Heap) (locs : List Loc) (ls : Array Slot), 0 ≤ x427.toInt ∧ x427.toInt ≤ 4 → (4 - x427.toInt).toNat < n431 → va_P g.1 vwCl [(h0, .inr (12, [.int mthrown, .ref a1, .ref a2, .ref a3, .ref a4, .int mtaped, .ref a6, .int msize, .int mat, .int mfrom, .int mtoken, .int mvalue, .int mfaultKind, .int mfaultPlace, .ref a14, .ref a15, .int mgoal, .int mgoalDays, .int mgoalHearer, .ref a19, .ref a20, .int mleastOrder, .int mwordsMany, .ref a23, .ref a24, .ref a25, .ref a26, .ref a27, .ref a28])), (a1, .inl (g.2 0, 225, .inl mworld))] H → va_D A [(h0, .inr (12, [.int mthrown, .ref a1, .ref a2, .ref a3, .ref a4, .int mtaped, .ref a6, .int msize, .int mat, .int mfrom, .int mtoken, .int mvalue, .int mfaultKind, .int mfaultPlace, .ref a14, .ref a15, .int mgoal, .int mgoalDays, .int mgoalHearer, .ref a19, .ref a20, .int mleastOrder, .int mwordsMany, .ref a23, .ref a24, .ref a25, .ref a26, .ref a27, .ref a28])), (a1, .inl (g.2 0, 225, .inl mworld))] → va_S A s.heap H locs → lv_has ls 7 [(4, .int x427), (3, .int x428), (0, .ref h0), (1, .int p1), (2, .int p2)] → W p l e { frames := 1, cells := 0, slots := 0, locals := 21 } s m ([.ref h0, .int p1, .int p2].toArray) below meth c H locs 0 0 (MQ below (QX (S := (Nat → Int32) × (Nat → Nat → Int32) × (Nat → Nat → Int64)) (fun u => some (.int (u.1 0))) (fun u => True) g (fun u => [(h0, .inr (12, [.int mthrown, .ref a1, .ref a2, .ref a3, .ref a4, .int mtaped, .ref a6, .int msize, .int mat, .int mfrom, .int mtoken, .int mvalue, .int mfaultKind, .int mfaultPlace, .ref a14, .ref a15, .int mgoal, .int mgoalDays, .int mgoalHearer, .ref a19, .ref a20, .int mleastOrder, .int mwordsMany, .ref a23, .ref a24, .ref a25, .ref a26, .ref a27, .ref a28])), (a1, .inl (g.2 0, 225, .inl mworld))]) A) ([.ref h0, .int p1, .int p2].toArray) s 0 0 A) (F0 m 5 ls []) := by
    intro n431
    induction n431 with
    | zero =>
      intro x427 x428 H locs ls h_x427 hn432
      exact absurd hn432 (Nat.not_lt_zero _)
    | succ n431 ih430 =>
      intro x427 x428 H locs ls h_x427 hn432 hP hD hS hl
      refine lv_iload hx hb dX12_heardBy_5 (lv_at hl 0 rfl) ?_
      refine lv_iload_n hx hb dX12_heardBy_7 rfl (lv_at hl 4 rfl) ?_
      refine lv_icmp_ge (tgt := 78) hx hb dX12_heardBy_8 (by decide) (fun c433 => ?_) (fun c433 => ?_)
      · have c433 := k_le (a := p2.toInt) (b := x427.toInt) rfl rfl c433
        refine lv_iload_n hx hb dX12_heardBy_78 rfl (lv_at hl 1 rfl) ?_
        exact rt_i FX ((fun k => match k with | 0 => x428 | _ => 0), (fun _ => fun _ => 0), (fun _ => fun _ => 0)) rfl trivial (hP.sub [0, 1] rfl) (hD.sub [0, 1] (by decide) rfl) hS (Nat.le_of_ble_eq_true rfl) (Nat.le_of_ble_eq_true rfl) dX12_heardBy_79
      · have c433 := k_nle (a := p2.toInt) (b := x427.toInt) rfl rfl c433
        refine lv_iload hx hb dX12_heardBy_11 (lv_at hl 0 rfl) ?_
        refine lv_iconst (v := 4) hx hb dX12_heardBy_13 (by decide) ?_
        refine lv_icmp_ge (tgt := 78) hx hb dX12_heardBy_14 (by decide) (fun c434 => ?_) (fun c434 => ?_)
        · have c434 := k_le (a := 4) (b := x427.toInt) (by decide) rfl c434
          refine lv_iload_n hx hb dX12_heardBy_78 rfl (lv_at hl 1 rfl) ?_
          exact rt_i FX ((fun k => match k with | 0 => x428 | _ => 0), (fun _ => fun _ => 0), (fun _ => fun _ => 0)) rfl trivial (hP.sub [0, 1] rfl) (hD.sub [0, 1] (by decide) rfl) hS (Nat.le_of_ble_eq_true rfl) (Nat.le_of_ble_eq_true rfl) dX12_heardBy_79
        · have c434 := k_nle (a := 4) (b := x427.toInt) (by decide) rfl c434
          refine lv_iload_n hx hb dX12_heardBy_17 rfl (lv_at hl 1 rfl) ?_
          refine lv_istore (lv' := [(5, .int x428), (4, .int x427), (3, .int x428), (0, .ref h0), (1, .int p1), (2, .int p2)]) hx hb dX12_heardBy_18 hl (by decide) rfl (fun ls hl => ?_)
          refine lv_iconst (v := 0) hx hb dX12_heardBy_20 (by decide) ?_
          refine lv_istore (lv' := [(6, .int 0), (5, .int x428), (4, .int x427), (3, .int x428), (0, .ref h0), (1, .int p1), (2, .int p2)]) hx hb dX12_heardBy_21 hl (by decide) rfl (fun ls hl => ?_)
          have lp502 : ∀ (n504 : Nat) (x500 : Int32) (x501 : Int32) (H : Heap) (locs : List Loc) (ls : Array Slot), 0 ≤ x500.toInt ∧ x500.toInt ≤ 4 → (4 - x500.toInt).toNat < n504 → va_P g.1 vwCl [(h0, .inr (12, [.int mthrown, .ref a1, .ref a2, .ref a3, .ref a4, .int mtaped, .ref a6, .int msize, .int mat, .int mfrom, .int mtoken, .int mvalue, .int mfaultKind, .int mfaultPlace, .ref a14, .ref a15, .int mgoal, .int mgoalDays, .int mgoalHearer, .ref a19, .ref a20, .int mleastOrder, .int mwordsMany, .ref a23, .ref a24, .ref a25, .ref a26, .ref a27, .ref a28])), (a1, .inl (g.2 0, 225, .inl mworld))] H → va_D A [(h0, .inr (12, [.int mthrown, .ref a1, .ref a2, .ref a3, .ref a4, .int mtaped, .ref a6, .int msize, .int mat, .int mfrom, .int mtoken, .int mvalue, .int mfaultKind, .int mfaultPlace, .ref a14, .ref a15, .int mgoal, .int mgoalDays, .int mgoalHearer, .ref a19, .ref a20, .int mleastOrder, .int mwordsMany, .ref a23, .ref a24, .ref a25, .ref a26, .ref a27, .ref a28])), (a1, .inl (g.2 0, 225, .inl mworld))] → va_S A s.heap H locs → lv_has ls 7 [(6, .int x500), (5, .int x501), (4, .int x427), (3, .int x428), (0, .ref h0), (1, .int p1), (2, .int p2)] → W p l e { frames := 1, cells := 0, slots := 0, locals := 21 } s m ([.ref h0, .int p1, .int p2].toArray) below meth c H locs 0 0 (MQ below (QX (S := (Nat → Int32) × (Nat → Nat → Int32) × (Nat → Nat → Int64)) (fun u => some (.int (u.1 0))) (fun u => True) g (fun u => [(h0, .inr (12, [.int mthrown, .ref a1, .ref a2, .ref a3, .ref a4, .int mtaped, .ref a6, .int msize, .int mat, .int mfrom, .int mtoken, .int mvalue, .int mfaultKind, .int mfaultPlace, .ref a14, .ref a15, .int mgoal, .int mgoalDays, .int mgoalHearer, .ref a19, .ref a20, .int mleastOrder, .int mwordsMany, .ref a23, .ref a24, .ref a25, .ref a26, .ref a27, .ref a28])), (a1, .inl (g.2 0, 225, .inl mworld))]) A) ([.ref h0, .int p1, .int p2].toArray) s 0 0 A) (F0 m 23 ls []) := by
            intro n504
            induction n504 with
            | zero =>
              intro x500 x501 H locs ls h_x500 hn505
              exact absurd hn505 (Nat.not_lt_zero _)
            | succ n504 ih503 =>
              intro x500 x501 H locs ls h_x500 hn505 hP hD hS hl
              refine lv_iload hx hb dX12_heardBy_23 (lv_at hl 0 rfl) ?_
              refine lv_aload_n hx hb dX12_heardBy_25 rfl (lv_at hl 4 rfl) ?_
              refine g_get (C := RX12) (T := TX12) (N := 29) (ci := 12) (v := .ref a1) FC hKn hP i_X12 0 rfl rfl 1 (by decide) b_801 rfl dX12_heardBy_26 ?_
              refine lv_iconst (v := 5) hx hb dX12_heardBy_29 (by decide) ?_
              refine va_iald hx hb hKn.1 hP 1 0 rfl rfl (by unfold vp_in; decide) dX12_heardBy_30 ?_
              have kc5 : (5 : Int32).toInt = 5 := by decide
              refine lv_topi (fun z506 e_z506 => ?_)
              have t_z506 : 0 ≤ z506.toInt ∧ z506.toInt ≤ 4 := by rw [e_z506]; exact wk_5 i_mworld.1
              have q_z506 : z506.toInt = (mworld 5).toInt := by rw [e_z506]; rfl
              refine lv_icmp_ge (tgt := 69) hx hb dX12_heardBy_31 (by decide) (fun c507 => ?_) (fun c507 => ?_)
              · have c507 := k_le (a := z506.toInt) (b := x500.toInt) rfl rfl c507
                refine lv_iload hx hb dX12_heardBy_69 (lv_at hl 1 rfl) ?_
                refine lv_istore_n (lv' := [(3, .int x501), (6, .int x500), (5, .int x501), (4, .int x427), (0, .ref h0), (1, .int p1), (2, .int p2)]) hx hb dX12_heardBy_71 rfl hl (by decide) rfl (fun ls hl => ?_)
                obtain ⟨z508, e_z508⟩ : ∃ y : Int32, y = x427 + 1 := ⟨_, rfl⟩
                have t_z508 : z508.toInt = x427.toInt + 1 := by rw [e_z508]; exact addk (by decide) (by omega) (by omega)
                refine lv_iinc (v := z508) (lv' := [(4, .int z508), (3, .int x501), (6, .int x500), (5, .int x501), (0, .ref h0), (1, .int p1), (2, .int p2)]) hx hb dX12_heardBy_72 hl (k := 3) rfl (by rw [e_z508]; rfl) (by decide) rfl (fun ls hl => ?_)
                refine lv_goto (tgt := 5) hx hb dX12_heardBy_75 (by decide) ?_
                exact ih430 z508 x501 _ _ ls (by omega) (by omega) hP hD hS (lv_sub hl [0, 1, 4, 5, 6] rfl)
              · have c507 := k_nle (a := z506.toInt) (b := x500.toInt) rfl rfl c507
                refine lv_iload hx hb dX12_heardBy_34 (lv_at hl 1 rfl) ?_
                refine lv_iload_n hx hb dX12_heardBy_36 rfl (lv_at hl 3 rfl) ?_
                refine lv_iload hx hb dX12_heardBy_37 (lv_at hl 0 rfl) ?_
                refine call_S (As := [.int x428, .int x500]) (rest := [.int x501]) (wr := [(h0, .inr (12, [.int mthrown, .ref a1, .ref a2, .ref a3, .ref a4, .int mtaped, .ref a6, .int msize, .int mat, .int mfrom, .int mtoken, .int mvalue, .int mfaultKind, .int mfaultPlace, .ref a14, .ref a15, .int mgoal, .int mgoalDays, .int mgoalHearer, .ref a19, .ref a20, .int mleastOrder, .int mwordsMany, .ref a23, .ref a24, .ref a25, .ref a26, .ref a27, .ref a28])), (a1, .inl (g.2 0, 225, .inl mworld))]) FC hKn hZ (k_X12_bit l g x428 x500) m_yX12_bit b_849 hP hD hS hA [] [0, 1] rfl (by decide) rfl (by decide) (by decide) rfl hl.1 rfl (Nat.le_of_ble_eq_true rfl) dX12_heardBy_39 ⟨(Nat.le_of_ble_eq_true rfl), (Nat.le_of_ble_eq_true rfl)⟩ ⟨(Nat.le_of_ble_eq_true rfl), (Nat.le_of_ble_eq_true rfl)⟩ (fun u509 H locs q510 hP hD hS => ?_)
                obtain ⟨q510_0, q510_1⟩ := q510
                have hP : va_P g.1 vwCl [(h0, .inr (12, [.int mthrown, .ref a1, .ref a2, .ref a3, .ref a4, .int mtaped, .ref a6, .int msize, .int mat, .int mfrom, .int mtoken, .int mvalue, .int mfaultKind, .int mfaultPlace, .ref a14, .ref a15, .int mgoal, .int mgoalDays, .int mgoalHearer, .ref a19, .ref a20, .int mleastOrder, .int mwordsMany, .ref a23, .ref a24, .ref a25, .ref a26, .ref a27, .ref a28])), (a1, .inl (g.2 0, 225, .inl mworld))] H := hP
                have hD : va_D A [(h0, .inr (12, [.int mthrown, .ref a1, .ref a2, .ref a3, .ref a4, .int mtaped, .ref a6, .int msize, .int mat, .int mfrom, .int mtoken, .int mvalue, .int mfaultKind, .int mfaultPlace, .ref a14, .ref a15, .int mgoal, .int mgoalDays, .int mgoalHearer, .ref a19, .ref a20, .int mleastOrder, .int mwordsMany, .ref a23, .ref a24, .ref a25, .ref a26, .ref a27, .ref a28])), (a1, .inl (g.2 0, 225, .inl mworld))] := hD
                refine W.eq (g2 := F0 m 42 ls [.int (u509.1 0), .int x501]) rfl ?_
                rw [q510_1] at q510_0
                refine tp_i (v := bitF x428 x500) q510_1 ?_
                refine lv_iconst (v := 1) hx hb dX12_heardBy_42 (by decide) ?_
                refine lv_icmp_ne (tgt := 59) hx hb dX12_heardBy_43 (by decide) (fun c511 => ?_) (fun c511 => ?_)
                · have c511 := k_ne (a := (bitF x428 x500).toInt) (b := 1) rfl (by decide) c511
                  refine lv_iconst (v := 0) hx hb dX12_heardBy_59 (by decide) ?_
                  refine lv_ior hx hb dX12_heardBy_60 ?_
                  refine lv_topi (fun z512 e_z512 => ?_)
                  refine lv_istore (lv' := [(5, .int z512), (6, .int x500), (4, .int x427), (3, .int x428), (0, .ref h0), (1, .int p1), (2, .int p2)]) hx hb dX12_heardBy_61 hl (by decide) rfl (fun ls hl => ?_)
                  obtain ⟨z513, e_z513⟩ : ∃ y : Int32, y = x500 + 1 := ⟨_, rfl⟩
                  have t_z513 : z513.toInt = x500.toInt + 1 := by rw [e_z513]; exact addk (by decide) (by omega) (by omega)
                  refine lv_iinc (v := z513) (lv' := [(6, .int z513), (5, .int z512), (4, .int x427), (3, .int x428), (0, .ref h0), (1, .int p1), (2, .int p2)]) hx hb dX12_heardBy_63 hl (k := 1) rfl (by rw [e_z513]; rfl) (by decide) rfl (fun ls hl => ?_)
                  refine lv_goto (tgt := 23) hx hb dX12_heardBy_66 (by decide) ?_
                  exact ih503 z513 z512 _ _ ls (by omega) (by omega) hP hD hS (lv_sub hl [0, 1, 2, 3, 4, 5, 6] rfl)
                · have c511 := k_eq (a := (bitF x428 x500).toInt) (b := 1) rfl (by decide) c511
                  refine lv_aload_n hx hb dX12_heardBy_46 rfl (lv_at hl 4 rfl) ?_
                  refine g_get (C := RX12) (T := TX12) (N := 29) (ci := 12) (v := .ref a1) FC hKn hP i_X12 0 rfl rfl 1 (by decide) b_801 rfl dX12_heardBy_47 ?_
                  refine lv_bipush (v := 101) hx hb dX12_heardBy_50 (by decide) ?_
                  refine lv_iload hx hb dX12_heardBy_52 (lv_at hl 0 rfl) ?_
                  refine lv_iadd hx hb dX12_heardBy_54 ?_
                  have kc101 : (101 : Int32).toInt = 101 := by decide
                  refine lv_topi (fun z514 e_z514 => ?_)
                  have t_z514 : z514.toInt = ((101 : Int32)).toInt + x500.toInt := by rw [e_z514]; exact fb_addI (by omega) (by omega)
                  refine va_iald hx hb hKn.1 hP 1 0 rfl rfl (vp_in_iff.mpr ⟨by omega, by omega⟩) dX12_heardBy_55 ?_
                  refine lv_topi (fun z515 e_z515 => ?_)
                  have q_z515 : z515.toInt = (mworld z514.toNatClampNeg).toInt := by rw [e_z515]
                  refine lv_goto (tgt := 60) hx hb dX12_heardBy_56 (by decide) ?_
                  refine lv_ior hx hb dX12_heardBy_60 ?_
                  refine lv_topi (fun z516 e_z516 => ?_)
                  refine lv_istore (lv' := [(5, .int z516), (6, .int x500), (4, .int x427), (3, .int x428), (0, .ref h0), (1, .int p1), (2, .int p2)]) hx hb dX12_heardBy_61 hl (by decide) rfl (fun ls hl => ?_)
                  obtain ⟨z517, e_z517⟩ : ∃ y : Int32, y = x500 + 1 := ⟨_, rfl⟩
                  have t_z517 : z517.toInt = x500.toInt + 1 := by rw [e_z517]; exact addk (by decide) (by omega) (by omega)
                  refine lv_iinc (v := z517) (lv' := [(6, .int z517), (5, .int z516), (4, .int x427), (3, .int x428), (0, .ref h0), (1, .int p1), (2, .int p2)]) hx hb dX12_heardBy_63 hl (k := 1) rfl (by rw [e_z517]; rfl) (by decide) rfl (fun ls hl => ?_)
                  refine lv_goto (tgt := 23) hx hb dX12_heardBy_66 (by decide) ?_
                  exact ih503 z517 z516 _ _ ls (by omega) (by omega) hP hD hS (lv_sub hl [0, 1, 2, 3, 4, 5, 6] rfl)
          have kc0 : (0 : Int32).toInt = 0 := by decide
          exact lp502 _ (0 : Int32) x428 _ _ ls (by decide) (Nat.lt_succ_self _) hP hD hS (lv_sub hl [0, 1, 2, 3, 4, 5, 6] rfl)
  have kc0 : (0 : Int32).toInt = 0 := by decide
  exact lp429 _ (0 : Int32) p1 _ _ ls (by decide) (Nat.lt_succ_self _) hP hD hS (lv_sub hl [0, 1, 2, 3, 4] rfl)
set_option maxRecDepth 100000 in
set_option maxHeartbeats 4000000 in
theorem k_X12_heard (l : Launch) (g : GG) (h0 : Nat) (a1 : Nat) (a2 : Nat) (a3 : Nat) (a4 : Nat) (a6 : Nat) (a14 : Nat) (a15 : Nat) (a19 : Nat) (a20 : Nat) (a23 : Nat) (a24 : Nat) (a25 : Nat) (a26 : Nat) (a27 : Nat) (a28 : Nat) (mthrown : Int32) (mtaped : Int32) (msize : Int32) (mat : Int32) (mfrom : Int32) (mtoken : Int32) (mvalue : Int32) (mfaultKind : Int32) (mfaultPlace : Int32) (mgoal : Int32) (mgoalDays : Int32) (mgoalHearer : Int32) (mleastOrder : Int32) (mwordsMany : Int32) (mworld : Nat → Int32) (p1 : Int32) (p2 : Int32) (i_mtaped : 0 ≤ mtaped.toInt ∧ mtaped.toInt ≤ 900) (i_msize : 0 ≤ msize.toInt ∧ msize.toInt ≤ 900) (i_mat : 0 ≤ mat.toInt ∧ mat.toInt ≤ 900) (i_mfrom : 0 ≤ mfrom.toInt ∧ mfrom.toInt ≤ 900) (i_mtoken : 0 ≤ mtoken.toInt ∧ mtoken.toInt ≤ 4) (i_mvalue : 0 ≤ mvalue.toInt ∧ mvalue.toInt ≤ 99999) (i_mgoalHearer : 0 ≤ mgoalHearer.toInt ∧ mgoalHearer.toInt ≤ 3) (i_mwordsMany : 0 ≤ mwordsMany.toInt ∧ mwordsMany.toInt ≤ 10) (i_mworld : wod mworld) : Ct l g yX12_heard cX12_heard 3 (some .int) { frames := 2, cells := 0, slots := 0, locals := 47 } [.ref h0, .int p1, .int p2] [(h0, .inr (12, [.int mthrown, .ref a1, .ref a2, .ref a3, .ref a4, .int mtaped, .ref a6, .int msize, .int mat, .int mfrom, .int mtoken, .int mvalue, .int mfaultKind, .int mfaultPlace, .ref a14, .ref a15, .int mgoal, .int mgoalDays, .int mgoalHearer, .ref a19, .ref a20, .int mleastOrder, .int mwordsMany, .ref a23, .ref a24, .ref a25, .ref a26, .ref a27, .ref a28])), (a1, .inl (g.2 0, 225, .inl mworld))] (S := (Nat → Int32) × (Nat → Nat → Int32) × (Nat → Nat → Int64)) (fun u => some (.int (u.1 0))) (fun u => True) (fun u => [(h0, .inr (12, [.int mthrown, .ref a1, .ref a2, .ref a3, .ref a4, .int mtaped, .ref a6, .int msize, .int mat, .int mfrom, .int mtoken, .int mvalue, .int mfaultKind, .int mfaultPlace, .ref a14, .ref a15, .int mgoal, .int mgoalDays, .int mgoalHearer, .ref a19, .ref a20, .int mleastOrder, .int mwordsMany, .ref a23, .ref a24, .ref a25, .ref a26, .ref a27, .ref a28])), (a1, .inl (g.2 0, 225, .inl mworld))]) := by
  refine Ct.of (by decide) (Nat.le_of_ble_eq_true rfl) ?_
  intro p e s m below meth c A ls FX hP hD hS hl
  obtain ⟨FC, hr, hlk, hKn, hA, hnm, hZ⟩ := id FX
  have FC : CallFix p m c cX12_heard 3 s _ BIG RX12 := FC
  obtain ⟨hx, hb, hml, hown, hB⟩ := id FC
  have hl : lv_has ls 3 [(0, .ref h0), (1, .int p1), (2, .int p2)] := hl
  refine lv_aload_n hx hb dX12_heard_0 rfl (lv_at hl 0 rfl) ?_
  refine call_V (As := []) (rest := []) (wr := []) FC hKn hZ (k_X12_isDesk l g h0 a1 a2 a3 a4 a6 a14 a15 a19 a20 a23 a24 a25 a26 a27 a28 mthrown mtaped msize mat mfrom mtoken mvalue mfaultKind mfaultPlace mgoal mgoalDays mgoalHearer mleastOrder mwordsMany mworld (by omega) (by omega) (by omega) (by omega) (by omega) (by omega) (by omega) (by omega) i_mworld) m_yX12_isDesk b_805 (ci := 12) rfl rfl rfl hP hD hS hA [0, 1] [] rfl (by decide) rfl (by decide) (by decide) rfl hl.1 rfl (Nat.le_of_ble_eq_true rfl) dX12_heard_1 ⟨(Nat.le_of_ble_eq_true rfl), (Nat.le_of_ble_eq_true rfl)⟩ ⟨(Nat.le_of_ble_eq_true rfl), (Nat.le_of_ble_eq_true rfl)⟩ (fun u1 H locs q2 hP hD hS => ?_)
  obtain ⟨q2_0, q2_1⟩ := q2
  have hP : va_P g.1 vwCl [(h0, .inr (12, [.int mthrown, .ref a1, .ref a2, .ref a3, .ref a4, .int mtaped, .ref a6, .int msize, .int mat, .int mfrom, .int mtoken, .int mvalue, .int mfaultKind, .int mfaultPlace, .ref a14, .ref a15, .int mgoal, .int mgoalDays, .int mgoalHearer, .ref a19, .ref a20, .int mleastOrder, .int mwordsMany, .ref a23, .ref a24, .ref a25, .ref a26, .ref a27, .ref a28])), (a1, .inl (g.2 0, 225, .inl mworld))] H := hP
  have hD : va_D A [(h0, .inr (12, [.int mthrown, .ref a1, .ref a2, .ref a3, .ref a4, .int mtaped, .ref a6, .int msize, .int mat, .int mfrom, .int mtoken, .int mvalue, .int mfaultKind, .int mfaultPlace, .ref a14, .ref a15, .int mgoal, .int mgoalDays, .int mgoalHearer, .ref a19, .ref a20, .int mleastOrder, .int mwordsMany, .ref a23, .ref a24, .ref a25, .ref a26, .ref a27, .ref a28])), (a1, .inl (g.2 0, 225, .inl mworld))] := hD
  refine W.eq (g2 := F0 m 4 ls [.int (u1.1 0)]) rfl ?_
  rcases (show (u1.1 0).toInt = 0 ∨ (u1.1 0).toInt = 1 by omega) with c3 | c3
  · skip
    refine lv_if_eq (tgt := 34) hx hb dX12_heard_4 (by decide) (fun c4 => ?_) (fun c4 => ?_)
    · have c4 := k_eq (a := (u1.1 0).toInt) (b := 0) rfl (by decide) c4
      refine lv_bipush (v := -2) hx hb dX12_heard_34 (by decide) ?_
      exact rt_i FX ((fun k => match k with | 0 => (-2 : Int32) | _ => 0), (fun _ => fun _ => 0), (fun _ => fun _ => 0)) rfl trivial (hP.sub [0, 1] rfl) (hD.sub [0, 1] (by decide) rfl) hS (Nat.le_of_ble_eq_true rfl) (Nat.le_of_ble_eq_true rfl) dX12_heard_36
    · have c4 := k_ne (a := (u1.1 0).toInt) (b := 0) rfl (by decide) c4
      exfalso; omega
  · have c3_r := q2_1 c3
    refine lv_if_eq (tgt := 34) hx hb dX12_heard_4 (by decide) (fun c5 => ?_) (fun c5 => ?_)
    · have c5 := k_eq (a := (u1.1 0).toInt) (b := 0) rfl (by decide) c5
      exfalso; omega
    · have c5 := k_ne (a := (u1.1 0).toInt) (b := 0) rfl (by decide) c5
      refine lv_iload_n hx hb dX12_heard_7 rfl (lv_at hl 1 rfl) ?_
      refine lv_i2l (v := p1.toInt64) hx hb dX12_heard_8 rfl ?_
      refine lv_topl (fun z6 e_z6 => ?_)
      have t_z6 : z6.toInt = p1.toInt := by rw [e_z6]; exact Int32.toInt_toInt64 _
      refine lv_lconst (v := 0) hx hb dX12_heard_9 (by decide) ?_
      refine lv_aload_n hx hb dX12_heard_10 rfl (lv_at hl 0 rfl) ?_
      refine call_V (As := []) (rest := [.long 0, .long z6]) (wr := []) FC hKn hZ (k_X12_allHearers l g h0 a1 a2 a3 a4 a6 a14 a15 a19 a20 a23 a24 a25 a26 a27 a28 mthrown mtaped msize mat mfrom mtoken mvalue mfaultKind mfaultPlace mgoal mgoalDays mgoalHearer mleastOrder mwordsMany mworld (by omega) (by omega) (by omega) (by omega) (by omega) (by omega) (by omega) (by omega) i_mworld) m_yX12_allHearers b_1054 (ci := 12) rfl rfl rfl hP hD hS hA [0, 1] [] rfl (by decide) rfl (by decide) (by decide) rfl hl.1 rfl (Nat.le_of_ble_eq_true rfl) dX12_heard_11 ⟨(Nat.le_of_ble_eq_true rfl), (Nat.le_of_ble_eq_true rfl)⟩ ⟨(Nat.le_of_ble_eq_true rfl), (Nat.le_of_ble_eq_true rfl)⟩ (fun u7 H locs q8 hP hD hS => ?_)
      have q8_0 : 0 ≤ (u7.1 0).toInt ∧ (u7.1 0).toInt ≤ 15 := q8
      have hP : va_P g.1 vwCl [(h0, .inr (12, [.int mthrown, .ref a1, .ref a2, .ref a3, .ref a4, .int mtaped, .ref a6, .int msize, .int mat, .int mfrom, .int mtoken, .int mvalue, .int mfaultKind, .int mfaultPlace, .ref a14, .ref a15, .int mgoal, .int mgoalDays, .int mgoalHearer, .ref a19, .ref a20, .int mleastOrder, .int mwordsMany, .ref a23, .ref a24, .ref a25, .ref a26, .ref a27, .ref a28])), (a1, .inl (g.2 0, 225, .inl mworld))] H := hP
      have hD : va_D A [(h0, .inr (12, [.int mthrown, .ref a1, .ref a2, .ref a3, .ref a4, .int mtaped, .ref a6, .int msize, .int mat, .int mfrom, .int mtoken, .int mvalue, .int mfaultKind, .int mfaultPlace, .ref a14, .ref a15, .int mgoal, .int mgoalDays, .int mgoalHearer, .ref a19, .ref a20, .int mleastOrder, .int mwordsMany, .ref a23, .ref a24, .ref a25, .ref a26, .ref a27, .ref a28])), (a1, .inl (g.2 0, 225, .inl mworld))] := hD
      refine W.eq (g2 := F0 m 14 ls [.int (u7.1 0), .long 0, .long z6]) rfl ?_
      refine lv_i2l (v := (u7.1 0).toInt64) hx hb dX12_heard_14 rfl ?_
      refine lv_topl (fun z9 e_z9 => ?_)
      have t_z9 : z9.toInt = (u7.1 0).toInt := by rw [e_z9]; exact Int32.toInt_toInt64 _
      have kcl0 : (0 : Int64).toInt = 0 := by decide
      refine call_S (As := [.long z6, .long 0, .long z9]) (rest := []) (wr := [(h0, .inr (12, [.int mthrown, .ref a1, .ref a2, .ref a3, .ref a4, .int mtaped, .ref a6, .int msize, .int mat, .int mfrom, .int mtoken, .int mvalue, .int mfaultKind, .int mfaultPlace, .ref a14, .ref a15, .int mgoal, .int mgoalDays, .int mgoalHearer, .ref a19, .ref a20, .int mleastOrder, .int mwordsMany, .ref a23, .ref a24, .ref a25, .ref a26, .ref a27, .ref a28])), (a1, .inl (g.2 0, 225, .inl mworld))]) FC hKn hZ (k_X12_in l g z6 ((0 : Int64)) z9) m_yX12_in b_802 hP hD hS hA [] [0, 1] rfl (by decide) rfl (by decide) (by decide) rfl hl.1 rfl (Nat.le_of_ble_eq_true rfl) dX12_heard_15 ⟨(Nat.le_of_ble_eq_true rfl), (Nat.le_of_ble_eq_true rfl)⟩ ⟨(Nat.le_of_ble_eq_true rfl), (Nat.le_of_ble_eq_true rfl)⟩ (fun u10 H locs q11 hP hD hS => ?_)
      obtain ⟨q11_0, q11_1, q11_2⟩ := q11
      have hP : va_P g.1 vwCl [(h0, .inr (12, [.int mthrown, .ref a1, .ref a2, .ref a3, .ref a4, .int mtaped, .ref a6, .int msize, .int mat, .int mfrom, .int mtoken, .int mvalue, .int mfaultKind, .int mfaultPlace, .ref a14, .ref a15, .int mgoal, .int mgoalDays, .int mgoalHearer, .ref a19, .ref a20, .int mleastOrder, .int mwordsMany, .ref a23, .ref a24, .ref a25, .ref a26, .ref a27, .ref a28])), (a1, .inl (g.2 0, 225, .inl mworld))] H := hP
      have hD : va_D A [(h0, .inr (12, [.int mthrown, .ref a1, .ref a2, .ref a3, .ref a4, .int mtaped, .ref a6, .int msize, .int mat, .int mfrom, .int mtoken, .int mvalue, .int mfaultKind, .int mfaultPlace, .ref a14, .ref a15, .int mgoal, .int mgoalDays, .int mgoalHearer, .ref a19, .ref a20, .int mleastOrder, .int mwordsMany, .ref a23, .ref a24, .ref a25, .ref a26, .ref a27, .ref a28])), (a1, .inl (g.2 0, 225, .inl mworld))] := hD
      refine W.eq (g2 := F0 m 18 ls [.int (u10.1 0)]) rfl ?_
      rcases (show (u10.1 0).toInt = 0 ∨ (u10.1 0).toInt = 1 by omega) with c12 | c12
      · skip
        refine lv_if_eq (tgt := 34) hx hb dX12_heard_18 (by decide) (fun c13 => ?_) (fun c13 => ?_)
        · have c13 := k_eq (a := (u10.1 0).toInt) (b := 0) rfl (by decide) c13
          refine lv_bipush (v := -2) hx hb dX12_heard_34 (by decide) ?_
          exact rt_i FX ((fun k => match k with | 0 => (-2 : Int32) | _ => 0), (fun _ => fun _ => 0), (fun _ => fun _ => 0)) rfl trivial (hP.sub [0, 1] rfl) (hD.sub [0, 1] (by decide) rfl) hS (Nat.le_of_ble_eq_true rfl) (Nat.le_of_ble_eq_true rfl) dX12_heard_36
        · have c13 := k_ne (a := (u10.1 0).toInt) (b := 0) rfl (by decide) c13
          exfalso; omega
      · have c12_r := q11_2 c12
        refine lv_if_eq (tgt := 34) hx hb dX12_heard_18 (by decide) (fun c14 => ?_) (fun c14 => ?_)
        · have c14 := k_eq (a := (u10.1 0).toInt) (b := 0) rfl (by decide) c14
          exfalso; omega
        · have c14 := k_ne (a := (u10.1 0).toInt) (b := 0) rfl (by decide) c14
          refine lv_iload_n hx hb dX12_heard_21 rfl (lv_at hl 2 rfl) ?_
          refine lv_if_lt (tgt := 34) hx hb dX12_heard_22 (by decide) (fun c15 => ?_) (fun c15 => ?_)
          · have c15 := k_lt (a := p2.toInt) (b := 0) rfl (by decide) c15
            refine lv_bipush (v := -2) hx hb dX12_heard_34 (by decide) ?_
            exact rt_i FX ((fun k => match k with | 0 => (-2 : Int32) | _ => 0), (fun _ => fun _ => 0), (fun _ => fun _ => 0)) rfl trivial (hP.sub [0, 1] rfl) (hD.sub [0, 1] (by decide) rfl) hS (Nat.le_of_ble_eq_true rfl) (Nat.le_of_ble_eq_true rfl) dX12_heard_36
          · have c15 := k_nlt (a := p2.toInt) (b := 0) rfl (by decide) c15
            refine lv_aload_n hx hb dX12_heard_25 rfl (lv_at hl 0 rfl) ?_
            refine lv_iload_n hx hb dX12_heard_26 rfl (lv_at hl 1 rfl) ?_
            refine lv_iload_n hx hb dX12_heard_27 rfl (lv_at hl 2 rfl) ?_
            refine call_V (As := [.int p1, .int p2]) (rest := []) (wr := []) FC hKn hZ (k_X12_heardBy l g h0 a1 a2 a3 a4 a6 a14 a15 a19 a20 a23 a24 a25 a26 a27 a28 mthrown mtaped msize mat mfrom mtoken mvalue mfaultKind mfaultPlace mgoal mgoalDays mgoalHearer mleastOrder mwordsMany mworld p1 p2 (by omega) (by omega) (by omega) (by omega) (by omega) (by omega) (by omega) (by omega) i_mworld) m_yX12_heardBy b_1055 (ci := 12) rfl rfl rfl hP hD hS hA [0, 1] [] rfl (by decide) rfl (by decide) (by decide) rfl hl.1 rfl (Nat.le_of_ble_eq_true rfl) dX12_heard_28 ⟨(Nat.le_of_ble_eq_true rfl), (Nat.le_of_ble_eq_true rfl)⟩ ⟨(Nat.le_of_ble_eq_true rfl), (Nat.le_of_ble_eq_true rfl)⟩ (fun u16 H locs q17 hP hD hS => ?_)
            have hP : va_P g.1 vwCl [(h0, .inr (12, [.int mthrown, .ref a1, .ref a2, .ref a3, .ref a4, .int mtaped, .ref a6, .int msize, .int mat, .int mfrom, .int mtoken, .int mvalue, .int mfaultKind, .int mfaultPlace, .ref a14, .ref a15, .int mgoal, .int mgoalDays, .int mgoalHearer, .ref a19, .ref a20, .int mleastOrder, .int mwordsMany, .ref a23, .ref a24, .ref a25, .ref a26, .ref a27, .ref a28])), (a1, .inl (g.2 0, 225, .inl mworld))] H := hP
            have hD : va_D A [(h0, .inr (12, [.int mthrown, .ref a1, .ref a2, .ref a3, .ref a4, .int mtaped, .ref a6, .int msize, .int mat, .int mfrom, .int mtoken, .int mvalue, .int mfaultKind, .int mfaultPlace, .ref a14, .ref a15, .int mgoal, .int mgoalDays, .int mgoalHearer, .ref a19, .ref a20, .int mleastOrder, .int mwordsMany, .ref a23, .ref a24, .ref a25, .ref a26, .ref a27, .ref a28])), (a1, .inl (g.2 0, 225, .inl mworld))] := hD
            refine W.eq (g2 := F0 m 31 ls [.int (u16.1 0)]) rfl ?_
            refine lv_goto (tgt := 36) hx hb dX12_heard_31 (by decide) ?_
            exact rt_i FX ((fun k => match k with | 0 => u16.1 0 | _ => 0), (fun _ => fun _ => 0), (fun _ => fun _ => 0)) rfl trivial (hP.sub [0, 1] rfl) (hD.sub [0, 1] (by decide) rfl) hS (Nat.le_of_ble_eq_true rfl) (Nat.le_of_ble_eq_true rfl) dX12_heard_36
set_option maxRecDepth 100000 in
set_option maxHeartbeats 4000000 in
theorem k_X12_firstOf (l : Launch) (g : GG) (h0 : Nat) (a1 : Nat) (a2 : Nat) (a3 : Nat) (a4 : Nat) (a6 : Nat) (a14 : Nat) (a15 : Nat) (a19 : Nat) (a20 : Nat) (a23 : Nat) (a24 : Nat) (a25 : Nat) (a26 : Nat) (a27 : Nat) (a28 : Nat) (mthrown : Int32) (mtaped : Int32) (msize : Int32) (mat : Int32) (mfrom : Int32) (mtoken : Int32) (mvalue : Int32) (mfaultKind : Int32) (mfaultPlace : Int32) (mgoal : Int32) (mgoalDays : Int32) (mgoalHearer : Int32) (mleastOrder : Int32) (mwordsMany : Int32) (mworld : Nat → Int32) (i_mtaped : 0 ≤ mtaped.toInt ∧ mtaped.toInt ≤ 900) (i_msize : 0 ≤ msize.toInt ∧ msize.toInt ≤ 900) (i_mat : 0 ≤ mat.toInt ∧ mat.toInt ≤ 900) (i_mfrom : 0 ≤ mfrom.toInt ∧ mfrom.toInt ≤ 900) (i_mtoken : 0 ≤ mtoken.toInt ∧ mtoken.toInt ≤ 4) (i_mvalue : 0 ≤ mvalue.toInt ∧ mvalue.toInt ≤ 99999) (i_mgoalHearer : 0 ≤ mgoalHearer.toInt ∧ mgoalHearer.toInt ≤ 3) (i_mwordsMany : 0 ≤ mwordsMany.toInt ∧ mwordsMany.toInt ≤ 10) (i_mworld : wod mworld) : Ct l g yX12_firstOf cX12_firstOf 3 (some .int) { frames := 2, cells := 0, slots := 0, locals := 47 } [.ref h0] [(h0, .inr (12, [.int mthrown, .ref a1, .ref a2, .ref a3, .ref a4, .int mtaped, .ref a6, .int msize, .int mat, .int mfrom, .int mtoken, .int mvalue, .int mfaultKind, .int mfaultPlace, .ref a14, .ref a15, .int mgoal, .int mgoalDays, .int mgoalHearer, .ref a19, .ref a20, .int mleastOrder, .int mwordsMany, .ref a23, .ref a24, .ref a25, .ref a26, .ref a27, .ref a28])), (a1, .inl (g.2 0, 225, .inl mworld))] (S := (Nat → Int32) × (Nat → Nat → Int32) × (Nat → Nat → Int64)) (fun u => some (.int (u.1 0))) (fun u => True) (fun u => [(h0, .inr (12, [.int mthrown, .ref a1, .ref a2, .ref a3, .ref a4, .int mtaped, .ref a6, .int msize, .int mat, .int mfrom, .int mtoken, .int mvalue, .int mfaultKind, .int mfaultPlace, .ref a14, .ref a15, .int mgoal, .int mgoalDays, .int mgoalHearer, .ref a19, .ref a20, .int mleastOrder, .int mwordsMany, .ref a23, .ref a24, .ref a25, .ref a26, .ref a27, .ref a28])), (a1, .inl (g.2 0, 225, .inl mworld))]) := by
  refine Ct.of (by decide) (Nat.le_of_ble_eq_true rfl) ?_
  intro p e s m below meth c A ls FX hP hD hS hl
  obtain ⟨FC, hr, hlk, hKn, hA, hnm, hZ⟩ := id FX
  have FC : CallFix p m c cX12_firstOf 3 s _ BIG RX12 := FC
  obtain ⟨hx, hb, hml, hown, hB⟩ := id FC
  have hl : lv_has ls 3 [(0, .ref h0)] := hl
  refine lv_aload_n hx hb dX12_firstOf_0 rfl (lv_at hl 0 rfl) ?_
  refine call_V (As := []) (rest := []) (wr := []) FC hKn hZ (k_X12_allHearers l g h0 a1 a2 a3 a4 a6 a14 a15 a19 a20 a23 a24 a25 a26 a27 a28 mthrown mtaped msize mat mfrom mtoken mvalue mfaultKind mfaultPlace mgoal mgoalDays mgoalHearer mleastOrder mwordsMany mworld (by omega) (by omega) (by omega) (by omega) (by omega) (by omega) (by omega) (by omega) i_mworld) m_yX12_allHearers b_1054 (ci := 12) rfl rfl rfl hP hD hS hA [0, 1] [] rfl (by decide) rfl (by decide) (by decide) rfl hl.1 rfl (Nat.le_of_ble_eq_true rfl) dX12_firstOf_1 ⟨(Nat.le_of_ble_eq_true rfl), (Nat.le_of_ble_eq_true rfl)⟩ ⟨(Nat.le_of_ble_eq_true rfl), (Nat.le_of_ble_eq_true rfl)⟩ (fun u1 H locs q2 hP hD hS => ?_)
  have q2_0 : 0 ≤ (u1.1 0).toInt ∧ (u1.1 0).toInt ≤ 15 := q2
  have hP : va_P g.1 vwCl [(h0, .inr (12, [.int mthrown, .ref a1, .ref a2, .ref a3, .ref a4, .int mtaped, .ref a6, .int msize, .int mat, .int mfrom, .int mtoken, .int mvalue, .int mfaultKind, .int mfaultPlace, .ref a14, .ref a15, .int mgoal, .int mgoalDays, .int mgoalHearer, .ref a19, .ref a20, .int mleastOrder, .int mwordsMany, .ref a23, .ref a24, .ref a25, .ref a26, .ref a27, .ref a28])), (a1, .inl (g.2 0, 225, .inl mworld))] H := hP
  have hD : va_D A [(h0, .inr (12, [.int mthrown, .ref a1, .ref a2, .ref a3, .ref a4, .int mtaped, .ref a6, .int msize, .int mat, .int mfrom, .int mtoken, .int mvalue, .int mfaultKind, .int mfaultPlace, .ref a14, .ref a15, .int mgoal, .int mgoalDays, .int mgoalHearer, .ref a19, .ref a20, .int mleastOrder, .int mwordsMany, .ref a23, .ref a24, .ref a25, .ref a26, .ref a27, .ref a28])), (a1, .inl (g.2 0, 225, .inl mworld))] := hD
  refine W.eq (g2 := F0 m 4 ls [.int (u1.1 0)]) rfl ?_
  refine lv_istore_n (lv' := [(1, .int (u1.1 0)), (0, .ref h0)]) hx hb dX12_firstOf_4 rfl hl (by decide) rfl (fun ls hl => ?_)
  refine lv_aload_n hx hb dX12_firstOf_5 rfl (lv_at hl 1 rfl) ?_
  refine call_V (As := []) (rest := []) (wr := []) FC hKn hZ (k_X12_allHearers l g h0 a1 a2 a3 a4 a6 a14 a15 a19 a20 a23 a24 a25 a26 a27 a28 mthrown mtaped msize mat mfrom mtoken mvalue mfaultKind mfaultPlace mgoal mgoalDays mgoalHearer mleastOrder mwordsMany mworld (by omega) (by omega) (by omega) (by omega) (by omega) (by omega) (by omega) (by omega) i_mworld) m_yX12_allHearers b_1054 (ci := 12) rfl rfl rfl hP hD hS hA [0, 1] [] rfl (by decide) rfl (by decide) (by decide) rfl hl.1 rfl (Nat.le_of_ble_eq_true rfl) dX12_firstOf_6 ⟨(Nat.le_of_ble_eq_true rfl), (Nat.le_of_ble_eq_true rfl)⟩ ⟨(Nat.le_of_ble_eq_true rfl), (Nat.le_of_ble_eq_true rfl)⟩ (fun u3 H locs q4 hP hD hS => ?_)
  have q4_0 : 0 ≤ (u3.1 0).toInt ∧ (u3.1 0).toInt ≤ 15 := q4
  have hP : va_P g.1 vwCl [(h0, .inr (12, [.int mthrown, .ref a1, .ref a2, .ref a3, .ref a4, .int mtaped, .ref a6, .int msize, .int mat, .int mfrom, .int mtoken, .int mvalue, .int mfaultKind, .int mfaultPlace, .ref a14, .ref a15, .int mgoal, .int mgoalDays, .int mgoalHearer, .ref a19, .ref a20, .int mleastOrder, .int mwordsMany, .ref a23, .ref a24, .ref a25, .ref a26, .ref a27, .ref a28])), (a1, .inl (g.2 0, 225, .inl mworld))] H := hP
  have hD : va_D A [(h0, .inr (12, [.int mthrown, .ref a1, .ref a2, .ref a3, .ref a4, .int mtaped, .ref a6, .int msize, .int mat, .int mfrom, .int mtoken, .int mvalue, .int mfaultKind, .int mfaultPlace, .ref a14, .ref a15, .int mgoal, .int mgoalDays, .int mgoalHearer, .ref a19, .ref a20, .int mleastOrder, .int mwordsMany, .ref a23, .ref a24, .ref a25, .ref a26, .ref a27, .ref a28])), (a1, .inl (g.2 0, 225, .inl mworld))] := hD
  refine W.eq (g2 := F0 m 9 ls [.int (u3.1 0)]) rfl ?_
  refine lv_istore_n (lv' := [(2, .int (u3.1 0)), (1, .int (u1.1 0)), (0, .ref h0)]) hx hb dX12_firstOf_9 rfl hl (by decide) rfl (fun ls hl => ?_)
  have lp41 : ∀ (n43 : Nat) (x39 : Int32) (x40 : Int32) (H : Heap) (locs : List Loc) (ls : Array Slot), -1 ≤ x39.toInt ∧ x39.toInt ≤ 15 → 0 ≤ x40.toInt ∧ x40.toInt ≤ 15 → (x39.toInt - (-1)).toNat < n43 → va_P g.1 vwCl [(h0, .inr (12, [.int mthrown, .ref a1, .ref a2, .ref a3, .ref a4, .int mtaped, .ref a6, .int msize, .int mat, .int mfrom, .int mtoken, .int mvalue, .int mfaultKind, .int mfaultPlace, .ref a14, .ref a15, .int mgoal, .int mgoalDays, .int mgoalHearer, .ref a19, .ref a20, .int mleastOrder, .int mwordsMany, .ref a23, .ref a24, .ref a25, .ref a26, .ref a27, .ref a28])), (a1, .inl (g.2 0, 225, .inl mworld))] H → va_D A [(h0, .inr (12, [.int mthrown, .ref a1, .ref a2, .ref a3, .ref a4, .int mtaped, .ref a6, .int msize, .int mat, .int mfrom, .int mtoken, .int mvalue, .int mfaultKind, .int mfaultPlace, .ref a14, .ref a15, .int mgoal, .int mgoalDays, .int mgoalHearer, .ref a19, .ref a20, .int mleastOrder, .int mwordsMany, .ref a23, .ref a24, .ref a25, .ref a26, .ref a27, .ref a28])), (a1, .inl (g.2 0, 225, .inl mworld))] → va_S A s.heap H locs → lv_has ls 3 [(2, .int x39), (1, .int x40), (0, .ref h0)] → W p l e { frames := 2, cells := 0, slots := 0, locals := 47 } s m ([.ref h0].toArray) below meth c H locs 0 0 (MQ below (QX (S := (Nat → Int32) × (Nat → Nat → Int32) × (Nat → Nat → Int64)) (fun u => some (.int (u.1 0))) (fun u => True) g (fun u => [(h0, .inr (12, [.int mthrown, .ref a1, .ref a2, .ref a3, .ref a4, .int mtaped, .ref a6, .int msize, .int mat, .int mfrom, .int mtoken, .int mvalue, .int mfaultKind, .int mfaultPlace, .ref a14, .ref a15, .int mgoal, .int mgoalDays, .int mgoalHearer, .ref a19, .ref a20, .int mleastOrder, .int mwordsMany, .ref a23, .ref a24, .ref a25, .ref a26, .ref a27, .ref a28])), (a1, .inl (g.2 0, 225, .inl mworld))]) A) ([.ref h0].toArray) s 0 0 A) (F0 m 10 ls []) := by
    intro n43
    induction n43 with
    | zero =>
      intro x39 x40 H locs ls h_x39 h_x40 hn44
      exact absurd hn44 (Nat.not_lt_zero _)
    | succ n43 ih42 =>
      intro x39 x40 H locs ls h_x39 h_x40 hn44 hP hD hS hl
      refine lv_iload_n hx hb dX12_firstOf_10 rfl (lv_at hl 0 rfl) ?_
      refine lv_if_lt (tgt := 53) hx hb dX12_firstOf_11 (by decide) (fun c45 => ?_) (fun c45 => ?_)
      · have c45 := k_lt (a := x39.toInt) (b := 0) rfl (by decide) c45
        refine lv_iload_n hx hb dX12_firstOf_53 rfl (lv_at hl 1 rfl) ?_
        exact rt_i FX ((fun k => match k with | 0 => x40 | _ => 0), (fun _ => fun _ => 0), (fun _ => fun _ => 0)) rfl trivial (hP.sub [0, 1] rfl) (hD.sub [0, 1] (by decide) rfl) hS (Nat.le_of_ble_eq_true rfl) (Nat.le_of_ble_eq_true rfl) dX12_firstOf_54
      · have c45 := k_nlt (a := x39.toInt) (b := 0) rfl (by decide) c45
        refine lv_aload_n hx hb dX12_firstOf_14 rfl (lv_at hl 2 rfl) ?_
        refine lv_iload_n hx hb dX12_firstOf_15 rfl (lv_at hl 0 rfl) ?_
        refine lv_aload_n hx hb dX12_firstOf_16 rfl (lv_at hl 2 rfl) ?_
        refine g_get (C := RX12) (T := TX12) (N := 29) (ci := 12) (v := .ref a1) FC hKn hP i_X12 0 rfl rfl 1 (by decide) b_801 rfl dX12_firstOf_17 ?_
        refine lv_iconst (v := 2) hx hb dX12_firstOf_20 (by decide) ?_
        refine va_iald hx hb hKn.1 hP 1 0 rfl rfl (by unfold vp_in; decide) dX12_firstOf_21 ?_
        have kc2 : (2 : Int32).toInt = 2 := by decide
        refine lv_topi (fun z46 e_z46 => ?_)
        have t_z46 : 0 ≤ z46.toInt ∧ z46.toInt ≤ 10 := by rw [e_z46]; exact wk_2 i_mworld.1
        have q_z46 : z46.toInt = (mworld 2).toInt := by rw [e_z46]; rfl
        refine lv_iconst (v := 1) hx hb dX12_firstOf_22 (by decide) ?_
        refine lv_isub hx hb dX12_firstOf_23 ?_
        have kc1 : (1 : Int32).toInt = 1 := by decide
        refine lv_topi (fun z47 e_z47 => ?_)
        have t_z47 : z47.toInt = z46.toInt - ((1 : Int32)).toInt := by rw [e_z47]; exact fb_subI (by omega) (by omega)
        refine call_V (As := [.int x39, .int z47]) (rest := []) (wr := []) FC hKn hZ (k_X12_heardBy l g h0 a1 a2 a3 a4 a6 a14 a15 a19 a20 a23 a24 a25 a26 a27 a28 mthrown mtaped msize mat mfrom mtoken mvalue mfaultKind mfaultPlace mgoal mgoalDays mgoalHearer mleastOrder mwordsMany mworld x39 z47 (by omega) (by omega) (by omega) (by omega) (by omega) (by omega) (by omega) (by omega) i_mworld) m_yX12_heardBy b_1055 (ci := 12) rfl rfl rfl hP hD hS hA [0, 1] [] rfl (by decide) rfl (by decide) (by decide) rfl hl.1 rfl (Nat.le_of_ble_eq_true rfl) dX12_firstOf_24 ⟨(Nat.le_of_ble_eq_true rfl), (Nat.le_of_ble_eq_true rfl)⟩ ⟨(Nat.le_of_ble_eq_true rfl), (Nat.le_of_ble_eq_true rfl)⟩ (fun u48 H locs q49 hP hD hS => ?_)
        have hP : va_P g.1 vwCl [(h0, .inr (12, [.int mthrown, .ref a1, .ref a2, .ref a3, .ref a4, .int mtaped, .ref a6, .int msize, .int mat, .int mfrom, .int mtoken, .int mvalue, .int mfaultKind, .int mfaultPlace, .ref a14, .ref a15, .int mgoal, .int mgoalDays, .int mgoalHearer, .ref a19, .ref a20, .int mleastOrder, .int mwordsMany, .ref a23, .ref a24, .ref a25, .ref a26, .ref a27, .ref a28])), (a1, .inl (g.2 0, 225, .inl mworld))] H := hP
        have hD : va_D A [(h0, .inr (12, [.int mthrown, .ref a1, .ref a2, .ref a3, .ref a4, .int mtaped, .ref a6, .int msize, .int mat, .int mfrom, .int mtoken, .int mvalue, .int mfaultKind, .int mfaultPlace, .ref a14, .ref a15, .int mgoal, .int mgoalDays, .int mgoalHearer, .ref a19, .ref a20, .int mleastOrder, .int mwordsMany, .ref a23, .ref a24, .ref a25, .ref a26, .ref a27, .ref a28])), (a1, .inl (g.2 0, 225, .inl mworld))] := hD
        refine W.eq (g2 := F0 m 27 ls [.int (u48.1 0)]) rfl ?_
        refine lv_aload_n hx hb dX12_firstOf_27 rfl (lv_at hl 2 rfl) ?_
        refine call_V (As := []) (rest := [.int (u48.1 0)]) (wr := []) FC hKn hZ (k_X12_allHearers l g h0 a1 a2 a3 a4 a6 a14 a15 a19 a20 a23 a24 a25 a26 a27 a28 mthrown mtaped msize mat mfrom mtoken mvalue mfaultKind mfaultPlace mgoal mgoalDays mgoalHearer mleastOrder mwordsMany mworld (by omega) (by omega) (by omega) (by omega) (by omega) (by omega) (by omega) (by omega) i_mworld) m_yX12_allHearers b_1054 (ci := 12) rfl rfl rfl hP hD hS hA [0, 1] [] rfl (by decide) rfl (by decide) (by decide) rfl hl.1 rfl (Nat.le_of_ble_eq_true rfl) dX12_firstOf_28 ⟨(Nat.le_of_ble_eq_true rfl), (Nat.le_of_ble_eq_true rfl)⟩ ⟨(Nat.le_of_ble_eq_true rfl), (Nat.le_of_ble_eq_true rfl)⟩ (fun u50 H locs q51 hP hD hS => ?_)
        have q51_0 : 0 ≤ (u50.1 0).toInt ∧ (u50.1 0).toInt ≤ 15 := q51
        have hP : va_P g.1 vwCl [(h0, .inr (12, [.int mthrown, .ref a1, .ref a2, .ref a3, .ref a4, .int mtaped, .ref a6, .int msize, .int mat, .int mfrom, .int mtoken, .int mvalue, .int mfaultKind, .int mfaultPlace, .ref a14, .ref a15, .int mgoal, .int mgoalDays, .int mgoalHearer, .ref a19, .ref a20, .int mleastOrder, .int mwordsMany, .ref a23, .ref a24, .ref a25, .ref a26, .ref a27, .ref a28])), (a1, .inl (g.2 0, 225, .inl mworld))] H := hP
        have hD : va_D A [(h0, .inr (12, [.int mthrown, .ref a1, .ref a2, .ref a3, .ref a4, .int mtaped, .ref a6, .int msize, .int mat, .int mfrom, .int mtoken, .int mvalue, .int mfaultKind, .int mfaultPlace, .ref a14, .ref a15, .int mgoal, .int mgoalDays, .int mgoalHearer, .ref a19, .ref a20, .int mleastOrder, .int mwordsMany, .ref a23, .ref a24, .ref a25, .ref a26, .ref a27, .ref a28])), (a1, .inl (g.2 0, 225, .inl mworld))] := hD
        refine W.eq (g2 := F0 m 31 ls [.int (u50.1 0), .int (u48.1 0)]) rfl ?_
        refine lv_icmp_ne (tgt := 47) hx hb dX12_firstOf_31 (by decide) (fun c52 => ?_) (fun c52 => ?_)
        · have c52 := k_ne (a := (u48.1 0).toInt) (b := (u50.1 0).toInt) rfl rfl c52
          obtain ⟨z53, e_z53⟩ : ∃ y : Int32, y = x39 + (-1) := ⟨_, rfl⟩
          have t_z53 : z53.toInt = x39.toInt + (-1) := by rw [e_z53]; exact addk (by decide) (by omega) (by omega)
          refine lv_iinc (v := z53) (lv' := [(2, .int z53), (1, .int x40), (0, .ref h0)]) hx hb dX12_firstOf_47 hl (k := 0) rfl (by rw [e_z53]; rfl) (by decide) rfl (fun ls hl => ?_)
          refine lv_goto (tgt := 10) hx hb dX12_firstOf_50 (by decide) ?_
          exact ih42 z53 x40 _ _ ls (by omega) (by omega) (by omega) hP hD hS (lv_sub hl [0, 1, 2] rfl)
        · have c52 := k_eq (a := (u48.1 0).toInt) (b := (u50.1 0).toInt) rfl rfl c52
          refine lv_iload_n hx hb dX12_firstOf_34 rfl (lv_at hl 0 rfl) ?_
          refine call_S (As := [.int x39]) (rest := []) (wr := [(h0, .inr (12, [.int mthrown, .ref a1, .ref a2, .ref a3, .ref a4, .int mtaped, .ref a6, .int msize, .int mat, .int mfrom, .int mtoken, .int mvalue, .int mfaultKind, .int mfaultPlace, .ref a14, .ref a15, .int mgoal, .int mgoalDays, .int mgoalHearer, .ref a19, .ref a20, .int mleastOrder, .int mwordsMany, .ref a23, .ref a24, .ref a25, .ref a26, .ref a27, .ref a28])), (a1, .inl (g.2 0, 225, .inl mworld))]) FC hKn hZ (k_X12_bits l g x39) m_yX12_bits b_851 hP hD hS hA [] [0, 1] rfl (by decide) rfl (by decide) (by decide) rfl hl.1 rfl (Nat.le_of_ble_eq_true rfl) dX12_firstOf_35 ⟨(Nat.le_of_ble_eq_true rfl), (Nat.le_of_ble_eq_true rfl)⟩ ⟨(Nat.le_of_ble_eq_true rfl), (Nat.le_of_ble_eq_true rfl)⟩ (fun u54 H locs q55 hP hD hS => ?_)
          obtain ⟨q55_0, q55_1⟩ := q55
          have hP : va_P g.1 vwCl [(h0, .inr (12, [.int mthrown, .ref a1, .ref a2, .ref a3, .ref a4, .int mtaped, .ref a6, .int msize, .int mat, .int mfrom, .int mtoken, .int mvalue, .int mfaultKind, .int mfaultPlace, .ref a14, .ref a15, .int mgoal, .int mgoalDays, .int mgoalHearer, .ref a19, .ref a20, .int mleastOrder, .int mwordsMany, .ref a23, .ref a24, .ref a25, .ref a26, .ref a27, .ref a28])), (a1, .inl (g.2 0, 225, .inl mworld))] H := hP
          have hD : va_D A [(h0, .inr (12, [.int mthrown, .ref a1, .ref a2, .ref a3, .ref a4, .int mtaped, .ref a6, .int msize, .int mat, .int mfrom, .int mtoken, .int mvalue, .int mfaultKind, .int mfaultPlace, .ref a14, .ref a15, .int mgoal, .int mgoalDays, .int mgoalHearer, .ref a19, .ref a20, .int mleastOrder, .int mwordsMany, .ref a23, .ref a24, .ref a25, .ref a26, .ref a27, .ref a28])), (a1, .inl (g.2 0, 225, .inl mworld))] := hD
          refine W.eq (g2 := F0 m 38 ls [.int (u54.1 0)]) rfl ?_
          refine lv_iload_n hx hb dX12_firstOf_38 rfl (lv_at hl 1 rfl) ?_
          refine call_S (As := [.int x40]) (rest := [.int (u54.1 0)]) (wr := [(h0, .inr (12, [.int mthrown, .ref a1, .ref a2, .ref a3, .ref a4, .int mtaped, .ref a6, .int msize, .int mat, .int mfrom, .int mtoken, .int mvalue, .int mfaultKind, .int mfaultPlace, .ref a14, .ref a15, .int mgoal, .int mgoalDays, .int mgoalHearer, .ref a19, .ref a20, .int mleastOrder, .int mwordsMany, .ref a23, .ref a24, .ref a25, .ref a26, .ref a27, .ref a28])), (a1, .inl (g.2 0, 225, .inl mworld))]) FC hKn hZ (k_X12_bits l g x40) m_yX12_bits b_851 hP hD hS hA [] [0, 1] rfl (by decide) rfl (by decide) (by decide) rfl hl.1 rfl (Nat.le_of_ble_eq_true rfl) dX12_firstOf_39 ⟨(Nat.le_of_ble_eq_true rfl), (Nat.le_of_ble_eq_true rfl)⟩ ⟨(Nat.le_of_ble_eq_true rfl), (Nat.le_of_ble_eq_true rfl)⟩ (fun u56 H locs q57 hP hD hS => ?_)
          obtain ⟨q57_0, q57_1⟩ := q57
          have hP : va_P g.1 vwCl [(h0, .inr (12, [.int mthrown, .ref a1, .ref a2, .ref a3, .ref a4, .int mtaped, .ref a6, .int msize, .int mat, .int mfrom, .int mtoken, .int mvalue, .int mfaultKind, .int mfaultPlace, .ref a14, .ref a15, .int mgoal, .int mgoalDays, .int mgoalHearer, .ref a19, .ref a20, .int mleastOrder, .int mwordsMany, .ref a23, .ref a24, .ref a25, .ref a26, .ref a27, .ref a28])), (a1, .inl (g.2 0, 225, .inl mworld))] H := hP
          have hD : va_D A [(h0, .inr (12, [.int mthrown, .ref a1, .ref a2, .ref a3, .ref a4, .int mtaped, .ref a6, .int msize, .int mat, .int mfrom, .int mtoken, .int mvalue, .int mfaultKind, .int mfaultPlace, .ref a14, .ref a15, .int mgoal, .int mgoalDays, .int mgoalHearer, .ref a19, .ref a20, .int mleastOrder, .int mwordsMany, .ref a23, .ref a24, .ref a25, .ref a26, .ref a27, .ref a28])), (a1, .inl (g.2 0, 225, .inl mworld))] := hD
          refine W.eq (g2 := F0 m 42 ls [.int (u56.1 0), .int (u54.1 0)]) rfl ?_
          refine lv_icmp_gt (tgt := 47) hx hb dX12_firstOf_42 (by decide) (fun c58 => ?_) (fun c58 => ?_)
          · have c58 := k_lt (a := (u56.1 0).toInt) (b := (u54.1 0).toInt) rfl rfl c58
            obtain ⟨z59, e_z59⟩ : ∃ y : Int32, y = x39 + (-1) := ⟨_, rfl⟩
            have t_z59 : z59.toInt = x39.toInt + (-1) := by rw [e_z59]; exact addk (by decide) (by omega) (by omega)
            refine lv_iinc (v := z59) (lv' := [(2, .int z59), (1, .int x40), (0, .ref h0)]) hx hb dX12_firstOf_47 hl (k := 0) rfl (by rw [e_z59]; rfl) (by decide) rfl (fun ls hl => ?_)
            refine lv_goto (tgt := 10) hx hb dX12_firstOf_50 (by decide) ?_
            exact ih42 z59 x40 _ _ ls (by omega) (by omega) (by omega) hP hD hS (lv_sub hl [0, 1, 2] rfl)
          · have c58 := k_nlt (a := (u56.1 0).toInt) (b := (u54.1 0).toInt) rfl rfl c58
            refine lv_iload_n hx hb dX12_firstOf_45 rfl (lv_at hl 0 rfl) ?_
            refine lv_istore_n (lv' := [(1, .int x39), (2, .int x39), (0, .ref h0)]) hx hb dX12_firstOf_46 rfl hl (by decide) rfl (fun ls hl => ?_)
            obtain ⟨z60, e_z60⟩ : ∃ y : Int32, y = x39 + (-1) := ⟨_, rfl⟩
            have t_z60 : z60.toInt = x39.toInt + (-1) := by rw [e_z60]; exact addk (by decide) (by omega) (by omega)
            refine lv_iinc (v := z60) (lv' := [(2, .int z60), (1, .int x39), (0, .ref h0)]) hx hb dX12_firstOf_47 hl (k := 1) rfl (by rw [e_z60]; rfl) (by decide) rfl (fun ls hl => ?_)
            refine lv_goto (tgt := 10) hx hb dX12_firstOf_50 (by decide) ?_
            exact ih42 z60 x39 _ _ ls (by omega) (by omega) (by omega) hP hD hS (lv_sub hl [0, 1, 2] rfl)
  exact lp41 _ (u3.1 0) (u1.1 0) _ _ ls (by omega) (by omega) (Nat.lt_succ_self _) hP hD hS (lv_sub hl [0, 1, 2] rfl)
set_option maxRecDepth 100000 in
set_option maxHeartbeats 4000000 in
theorem k_X12_whom (l : Launch) (g : GG) (h0 : Nat) (a1 : Nat) (a2 : Nat) (a3 : Nat) (a4 : Nat) (a6 : Nat) (a14 : Nat) (a15 : Nat) (a19 : Nat) (a20 : Nat) (a23 : Nat) (a24 : Nat) (a25 : Nat) (a26 : Nat) (a27 : Nat) (a28 : Nat) (mthrown : Int32) (mtaped : Int32) (msize : Int32) (mat : Int32) (mfrom : Int32) (mtoken : Int32) (mvalue : Int32) (mfaultKind : Int32) (mfaultPlace : Int32) (mgoal : Int32) (mgoalDays : Int32) (mgoalHearer : Int32) (mleastOrder : Int32) (mwordsMany : Int32) (mworld : Nat → Int32) (i_mtaped : 0 ≤ mtaped.toInt ∧ mtaped.toInt ≤ 900) (i_msize : 0 ≤ msize.toInt ∧ msize.toInt ≤ 900) (i_mat : 0 ≤ mat.toInt ∧ mat.toInt ≤ 900) (i_mfrom : 0 ≤ mfrom.toInt ∧ mfrom.toInt ≤ 900) (i_mtoken : 0 ≤ mtoken.toInt ∧ mtoken.toInt ≤ 4) (i_mvalue : 0 ≤ mvalue.toInt ∧ mvalue.toInt ≤ 99999) (i_mgoalHearer : 0 ≤ mgoalHearer.toInt ∧ mgoalHearer.toInt ≤ 3) (i_mwordsMany : 0 ≤ mwordsMany.toInt ∧ mwordsMany.toInt ≤ 10) (i_mworld : wod mworld) : Ct l g yX12_whom cX12_whom 1 (some .int) { frames := 3, cells := 0, slots := 0, locals := 69 } [.ref h0] [(h0, .inr (12, [.int mthrown, .ref a1, .ref a2, .ref a3, .ref a4, .int mtaped, .ref a6, .int msize, .int mat, .int mfrom, .int mtoken, .int mvalue, .int mfaultKind, .int mfaultPlace, .ref a14, .ref a15, .int mgoal, .int mgoalDays, .int mgoalHearer, .ref a19, .ref a20, .int mleastOrder, .int mwordsMany, .ref a23, .ref a24, .ref a25, .ref a26, .ref a27, .ref a28])), (a1, .inl (g.2 0, 225, .inl mworld))] (S := (Nat → Int32) × (Nat → Nat → Int32) × (Nat → Nat → Int64)) (fun u => some (.int (u.1 0))) (fun u => True) (fun u => [(h0, .inr (12, [.int mthrown, .ref a1, .ref a2, .ref a3, .ref a4, .int mtaped, .ref a6, .int msize, .int mat, .int mfrom, .int mtoken, .int mvalue, .int mfaultKind, .int mfaultPlace, .ref a14, .ref a15, .int mgoal, .int mgoalDays, .int mgoalHearer, .ref a19, .ref a20, .int mleastOrder, .int mwordsMany, .ref a23, .ref a24, .ref a25, .ref a26, .ref a27, .ref a28])), (a1, .inl (g.2 0, 225, .inl mworld))]) := by
  refine Ct.of (by decide) (Nat.le_of_ble_eq_true rfl) ?_
  intro p e s m below meth c A ls FX hP hD hS hl
  obtain ⟨FC, hr, hlk, hKn, hA, hnm, hZ⟩ := id FX
  have FC : CallFix p m c cX12_whom 1 s _ BIG RX12 := FC
  obtain ⟨hx, hb, hml, hown, hB⟩ := id FC
  have hl : lv_has ls 1 [(0, .ref h0)] := hl
  refine lv_aload_n hx hb dX12_whom_0 rfl (lv_at hl 0 rfl) ?_
  refine call_V (As := []) (rest := []) (wr := []) FC hKn hZ (k_X12_isDesk l g h0 a1 a2 a3 a4 a6 a14 a15 a19 a20 a23 a24 a25 a26 a27 a28 mthrown mtaped msize mat mfrom mtoken mvalue mfaultKind mfaultPlace mgoal mgoalDays mgoalHearer mleastOrder mwordsMany mworld (by omega) (by omega) (by omega) (by omega) (by omega) (by omega) (by omega) (by omega) i_mworld) m_yX12_isDesk b_805 (ci := 12) rfl rfl rfl hP hD hS hA [0, 1] [] rfl (by decide) rfl (by decide) (by decide) rfl hl.1 rfl (Nat.le_of_ble_eq_true rfl) dX12_whom_1 ⟨(Nat.le_of_ble_eq_true rfl), (Nat.le_of_ble_eq_true rfl)⟩ ⟨(Nat.le_of_ble_eq_true rfl), (Nat.le_of_ble_eq_true rfl)⟩ (fun u1 H locs q2 hP hD hS => ?_)
  obtain ⟨q2_0, q2_1⟩ := q2
  have hP : va_P g.1 vwCl [(h0, .inr (12, [.int mthrown, .ref a1, .ref a2, .ref a3, .ref a4, .int mtaped, .ref a6, .int msize, .int mat, .int mfrom, .int mtoken, .int mvalue, .int mfaultKind, .int mfaultPlace, .ref a14, .ref a15, .int mgoal, .int mgoalDays, .int mgoalHearer, .ref a19, .ref a20, .int mleastOrder, .int mwordsMany, .ref a23, .ref a24, .ref a25, .ref a26, .ref a27, .ref a28])), (a1, .inl (g.2 0, 225, .inl mworld))] H := hP
  have hD : va_D A [(h0, .inr (12, [.int mthrown, .ref a1, .ref a2, .ref a3, .ref a4, .int mtaped, .ref a6, .int msize, .int mat, .int mfrom, .int mtoken, .int mvalue, .int mfaultKind, .int mfaultPlace, .ref a14, .ref a15, .int mgoal, .int mgoalDays, .int mgoalHearer, .ref a19, .ref a20, .int mleastOrder, .int mwordsMany, .ref a23, .ref a24, .ref a25, .ref a26, .ref a27, .ref a28])), (a1, .inl (g.2 0, 225, .inl mworld))] := hD
  refine W.eq (g2 := F0 m 4 ls [.int (u1.1 0)]) rfl ?_
  rcases (show (u1.1 0).toInt = 0 ∨ (u1.1 0).toInt = 1 by omega) with c3 | c3
  · skip
    refine lv_if_eq (tgt := 17) hx hb dX12_whom_4 (by decide) (fun c4 => ?_) (fun c4 => ?_)
    · have c4 := k_eq (a := (u1.1 0).toInt) (b := 0) rfl (by decide) c4
      refine lv_bipush (v := -2) hx hb dX12_whom_17 (by decide) ?_
      exact rt_i FX ((fun k => match k with | 0 => (-2 : Int32) | _ => 0), (fun _ => fun _ => 0), (fun _ => fun _ => 0)) rfl trivial (hP.sub [0, 1] rfl) (hD.sub [0, 1] (by decide) rfl) hS (Nat.le_of_ble_eq_true rfl) (Nat.le_of_ble_eq_true rfl) dX12_whom_19
    · have c4 := k_ne (a := (u1.1 0).toInt) (b := 0) rfl (by decide) c4
      exfalso; omega
  · have c3_r := q2_1 c3
    refine lv_if_eq (tgt := 17) hx hb dX12_whom_4 (by decide) (fun c5 => ?_) (fun c5 => ?_)
    · have c5 := k_eq (a := (u1.1 0).toInt) (b := 0) rfl (by decide) c5
      exfalso; omega
    · have c5 := k_ne (a := (u1.1 0).toInt) (b := 0) rfl (by decide) c5
      refine lv_aload_n hx hb dX12_whom_7 rfl (lv_at hl 0 rfl) ?_
      refine call_V (As := []) (rest := []) (wr := []) FC hKn hZ (k_X12_firstOf l g h0 a1 a2 a3 a4 a6 a14 a15 a19 a20 a23 a24 a25 a26 a27 a28 mthrown mtaped msize mat mfrom mtoken mvalue mfaultKind mfaultPlace mgoal mgoalDays mgoalHearer mleastOrder mwordsMany mworld (by omega) (by omega) (by omega) (by omega) (by omega) (by omega) (by omega) (by omega) i_mworld) m_yX12_firstOf b_1056 (ci := 12) rfl rfl rfl hP hD hS hA [0, 1] [] rfl (by decide) rfl (by decide) (by decide) rfl hl.1 rfl (Nat.le_of_ble_eq_true rfl) dX12_whom_8 ⟨(Nat.le_of_ble_eq_true rfl), (Nat.le_of_ble_eq_true rfl)⟩ ⟨(Nat.le_of_ble_eq_true rfl), (Nat.le_of_ble_eq_true rfl)⟩ (fun u6 H locs q7 hP hD hS => ?_)
      have hP : va_P g.1 vwCl [(h0, .inr (12, [.int mthrown, .ref a1, .ref a2, .ref a3, .ref a4, .int mtaped, .ref a6, .int msize, .int mat, .int mfrom, .int mtoken, .int mvalue, .int mfaultKind, .int mfaultPlace, .ref a14, .ref a15, .int mgoal, .int mgoalDays, .int mgoalHearer, .ref a19, .ref a20, .int mleastOrder, .int mwordsMany, .ref a23, .ref a24, .ref a25, .ref a26, .ref a27, .ref a28])), (a1, .inl (g.2 0, 225, .inl mworld))] H := hP
      have hD : va_D A [(h0, .inr (12, [.int mthrown, .ref a1, .ref a2, .ref a3, .ref a4, .int mtaped, .ref a6, .int msize, .int mat, .int mfrom, .int mtoken, .int mvalue, .int mfaultKind, .int mfaultPlace, .ref a14, .ref a15, .int mgoal, .int mgoalDays, .int mgoalHearer, .ref a19, .ref a20, .int mleastOrder, .int mwordsMany, .ref a23, .ref a24, .ref a25, .ref a26, .ref a27, .ref a28])), (a1, .inl (g.2 0, 225, .inl mworld))] := hD
      refine W.eq (g2 := F0 m 11 ls [.int (u6.1 0)]) rfl ?_
      refine call_S (As := [.int (u6.1 0)]) (rest := []) (wr := [(h0, .inr (12, [.int mthrown, .ref a1, .ref a2, .ref a3, .ref a4, .int mtaped, .ref a6, .int msize, .int mat, .int mfrom, .int mtoken, .int mvalue, .int mfaultKind, .int mfaultPlace, .ref a14, .ref a15, .int mgoal, .int mgoalDays, .int mgoalHearer, .ref a19, .ref a20, .int mleastOrder, .int mwordsMany, .ref a23, .ref a24, .ref a25, .ref a26, .ref a27, .ref a28])), (a1, .inl (g.2 0, 225, .inl mworld))]) FC hKn hZ (k_X12_bits l g (u6.1 0)) m_yX12_bits b_851 hP hD hS hA [] [0, 1] rfl (by decide) rfl (by decide) (by decide) rfl hl.1 rfl (Nat.le_of_ble_eq_true rfl) dX12_whom_11 ⟨(Nat.le_of_ble_eq_true rfl), (Nat.le_of_ble_eq_true rfl)⟩ ⟨(Nat.le_of_ble_eq_true rfl), (Nat.le_of_ble_eq_true rfl)⟩ (fun u8 H locs q9 hP hD hS => ?_)
      obtain ⟨q9_0, q9_1⟩ := q9
      have hP : va_P g.1 vwCl [(h0, .inr (12, [.int mthrown, .ref a1, .ref a2, .ref a3, .ref a4, .int mtaped, .ref a6, .int msize, .int mat, .int mfrom, .int mtoken, .int mvalue, .int mfaultKind, .int mfaultPlace, .ref a14, .ref a15, .int mgoal, .int mgoalDays, .int mgoalHearer, .ref a19, .ref a20, .int mleastOrder, .int mwordsMany, .ref a23, .ref a24, .ref a25, .ref a26, .ref a27, .ref a28])), (a1, .inl (g.2 0, 225, .inl mworld))] H := hP
      have hD : va_D A [(h0, .inr (12, [.int mthrown, .ref a1, .ref a2, .ref a3, .ref a4, .int mtaped, .ref a6, .int msize, .int mat, .int mfrom, .int mtoken, .int mvalue, .int mfaultKind, .int mfaultPlace, .ref a14, .ref a15, .int mgoal, .int mgoalDays, .int mgoalHearer, .ref a19, .ref a20, .int mleastOrder, .int mwordsMany, .ref a23, .ref a24, .ref a25, .ref a26, .ref a27, .ref a28])), (a1, .inl (g.2 0, 225, .inl mworld))] := hD
      refine W.eq (g2 := F0 m 14 ls [.int (u8.1 0)]) rfl ?_
      refine lv_goto (tgt := 19) hx hb dX12_whom_14 (by decide) ?_
      exact rt_i FX ((fun k => match k with | 0 => u8.1 0 | _ => 0), (fun _ => fun _ => 0), (fun _ => fun _ => 0)) rfl trivial (hP.sub [0, 1] rfl) (hD.sub [0, 1] (by decide) rfl) hS (Nat.le_of_ble_eq_true rfl) (Nat.le_of_ble_eq_true rfl) dX12_whom_19
set_option maxRecDepth 100000 in
set_option maxHeartbeats 4000000 in
theorem k_X12_first (l : Launch) (g : GG) (h0 : Nat) (a1 : Nat) (a2 : Nat) (a3 : Nat) (a4 : Nat) (a6 : Nat) (a14 : Nat) (a15 : Nat) (a19 : Nat) (a20 : Nat) (a23 : Nat) (a24 : Nat) (a25 : Nat) (a26 : Nat) (a27 : Nat) (a28 : Nat) (mthrown : Int32) (mtaped : Int32) (msize : Int32) (mat : Int32) (mfrom : Int32) (mtoken : Int32) (mvalue : Int32) (mfaultKind : Int32) (mfaultPlace : Int32) (mgoal : Int32) (mgoalDays : Int32) (mgoalHearer : Int32) (mleastOrder : Int32) (mwordsMany : Int32) (mworld : Nat → Int32) (i_mtaped : 0 ≤ mtaped.toInt ∧ mtaped.toInt ≤ 900) (i_msize : 0 ≤ msize.toInt ∧ msize.toInt ≤ 900) (i_mat : 0 ≤ mat.toInt ∧ mat.toInt ≤ 900) (i_mfrom : 0 ≤ mfrom.toInt ∧ mfrom.toInt ≤ 900) (i_mtoken : 0 ≤ mtoken.toInt ∧ mtoken.toInt ≤ 4) (i_mvalue : 0 ≤ mvalue.toInt ∧ mvalue.toInt ≤ 99999) (i_mgoalHearer : 0 ≤ mgoalHearer.toInt ∧ mgoalHearer.toInt ≤ 3) (i_mwordsMany : 0 ≤ mwordsMany.toInt ∧ mwordsMany.toInt ≤ 10) (i_mworld : wod mworld) : Ct l g yX12_first cX12_first 1 (some .int) { frames := 3, cells := 0, slots := 0, locals := 69 } [.ref h0] [(h0, .inr (12, [.int mthrown, .ref a1, .ref a2, .ref a3, .ref a4, .int mtaped, .ref a6, .int msize, .int mat, .int mfrom, .int mtoken, .int mvalue, .int mfaultKind, .int mfaultPlace, .ref a14, .ref a15, .int mgoal, .int mgoalDays, .int mgoalHearer, .ref a19, .ref a20, .int mleastOrder, .int mwordsMany, .ref a23, .ref a24, .ref a25, .ref a26, .ref a27, .ref a28])), (a1, .inl (g.2 0, 225, .inl mworld))] (S := (Nat → Int32) × (Nat → Nat → Int32) × (Nat → Nat → Int64)) (fun u => some (.int (u.1 0))) (fun u => True) (fun u => [(h0, .inr (12, [.int mthrown, .ref a1, .ref a2, .ref a3, .ref a4, .int mtaped, .ref a6, .int msize, .int mat, .int mfrom, .int mtoken, .int mvalue, .int mfaultKind, .int mfaultPlace, .ref a14, .ref a15, .int mgoal, .int mgoalDays, .int mgoalHearer, .ref a19, .ref a20, .int mleastOrder, .int mwordsMany, .ref a23, .ref a24, .ref a25, .ref a26, .ref a27, .ref a28])), (a1, .inl (g.2 0, 225, .inl mworld))]) := by
  refine Ct.of (by decide) (Nat.le_of_ble_eq_true rfl) ?_
  intro p e s m below meth c A ls FX hP hD hS hl
  obtain ⟨FC, hr, hlk, hKn, hA, hnm, hZ⟩ := id FX
  have FC : CallFix p m c cX12_first 1 s _ BIG RX12 := FC
  obtain ⟨hx, hb, hml, hown, hB⟩ := id FC
  have hl : lv_has ls 1 [(0, .ref h0)] := hl
  refine lv_aload_n hx hb dX12_first_0 rfl (lv_at hl 0 rfl) ?_
  refine call_V (As := []) (rest := []) (wr := []) FC hKn hZ (k_X12_isDesk l g h0 a1 a2 a3 a4 a6 a14 a15 a19 a20 a23 a24 a25 a26 a27 a28 mthrown mtaped msize mat mfrom mtoken mvalue mfaultKind mfaultPlace mgoal mgoalDays mgoalHearer mleastOrder mwordsMany mworld (by omega) (by omega) (by omega) (by omega) (by omega) (by omega) (by omega) (by omega) i_mworld) m_yX12_isDesk b_805 (ci := 12) rfl rfl rfl hP hD hS hA [0, 1] [] rfl (by decide) rfl (by decide) (by decide) rfl hl.1 rfl (Nat.le_of_ble_eq_true rfl) dX12_first_1 ⟨(Nat.le_of_ble_eq_true rfl), (Nat.le_of_ble_eq_true rfl)⟩ ⟨(Nat.le_of_ble_eq_true rfl), (Nat.le_of_ble_eq_true rfl)⟩ (fun u1 H locs q2 hP hD hS => ?_)
  obtain ⟨q2_0, q2_1⟩ := q2
  have hP : va_P g.1 vwCl [(h0, .inr (12, [.int mthrown, .ref a1, .ref a2, .ref a3, .ref a4, .int mtaped, .ref a6, .int msize, .int mat, .int mfrom, .int mtoken, .int mvalue, .int mfaultKind, .int mfaultPlace, .ref a14, .ref a15, .int mgoal, .int mgoalDays, .int mgoalHearer, .ref a19, .ref a20, .int mleastOrder, .int mwordsMany, .ref a23, .ref a24, .ref a25, .ref a26, .ref a27, .ref a28])), (a1, .inl (g.2 0, 225, .inl mworld))] H := hP
  have hD : va_D A [(h0, .inr (12, [.int mthrown, .ref a1, .ref a2, .ref a3, .ref a4, .int mtaped, .ref a6, .int msize, .int mat, .int mfrom, .int mtoken, .int mvalue, .int mfaultKind, .int mfaultPlace, .ref a14, .ref a15, .int mgoal, .int mgoalDays, .int mgoalHearer, .ref a19, .ref a20, .int mleastOrder, .int mwordsMany, .ref a23, .ref a24, .ref a25, .ref a26, .ref a27, .ref a28])), (a1, .inl (g.2 0, 225, .inl mworld))] := hD
  refine W.eq (g2 := F0 m 4 ls [.int (u1.1 0)]) rfl ?_
  rcases (show (u1.1 0).toInt = 0 ∨ (u1.1 0).toInt = 1 by omega) with c3 | c3
  · skip
    refine lv_if_eq (tgt := 14) hx hb dX12_first_4 (by decide) (fun c4 => ?_) (fun c4 => ?_)
    · have c4 := k_eq (a := (u1.1 0).toInt) (b := 0) rfl (by decide) c4
      refine lv_bipush (v := -2) hx hb dX12_first_14 (by decide) ?_
      exact rt_i FX ((fun k => match k with | 0 => (-2 : Int32) | _ => 0), (fun _ => fun _ => 0), (fun _ => fun _ => 0)) rfl trivial (hP.sub [0, 1] rfl) (hD.sub [0, 1] (by decide) rfl) hS (Nat.le_of_ble_eq_true rfl) (Nat.le_of_ble_eq_true rfl) dX12_first_16
    · have c4 := k_ne (a := (u1.1 0).toInt) (b := 0) rfl (by decide) c4
      exfalso; omega
  · have c3_r := q2_1 c3
    refine lv_if_eq (tgt := 14) hx hb dX12_first_4 (by decide) (fun c5 => ?_) (fun c5 => ?_)
    · have c5 := k_eq (a := (u1.1 0).toInt) (b := 0) rfl (by decide) c5
      exfalso; omega
    · have c5 := k_ne (a := (u1.1 0).toInt) (b := 0) rfl (by decide) c5
      refine lv_aload_n hx hb dX12_first_7 rfl (lv_at hl 0 rfl) ?_
      refine call_V (As := []) (rest := []) (wr := []) FC hKn hZ (k_X12_firstOf l g h0 a1 a2 a3 a4 a6 a14 a15 a19 a20 a23 a24 a25 a26 a27 a28 mthrown mtaped msize mat mfrom mtoken mvalue mfaultKind mfaultPlace mgoal mgoalDays mgoalHearer mleastOrder mwordsMany mworld (by omega) (by omega) (by omega) (by omega) (by omega) (by omega) (by omega) (by omega) i_mworld) m_yX12_firstOf b_1056 (ci := 12) rfl rfl rfl hP hD hS hA [0, 1] [] rfl (by decide) rfl (by decide) (by decide) rfl hl.1 rfl (Nat.le_of_ble_eq_true rfl) dX12_first_8 ⟨(Nat.le_of_ble_eq_true rfl), (Nat.le_of_ble_eq_true rfl)⟩ ⟨(Nat.le_of_ble_eq_true rfl), (Nat.le_of_ble_eq_true rfl)⟩ (fun u6 H locs q7 hP hD hS => ?_)
      have hP : va_P g.1 vwCl [(h0, .inr (12, [.int mthrown, .ref a1, .ref a2, .ref a3, .ref a4, .int mtaped, .ref a6, .int msize, .int mat, .int mfrom, .int mtoken, .int mvalue, .int mfaultKind, .int mfaultPlace, .ref a14, .ref a15, .int mgoal, .int mgoalDays, .int mgoalHearer, .ref a19, .ref a20, .int mleastOrder, .int mwordsMany, .ref a23, .ref a24, .ref a25, .ref a26, .ref a27, .ref a28])), (a1, .inl (g.2 0, 225, .inl mworld))] H := hP
      have hD : va_D A [(h0, .inr (12, [.int mthrown, .ref a1, .ref a2, .ref a3, .ref a4, .int mtaped, .ref a6, .int msize, .int mat, .int mfrom, .int mtoken, .int mvalue, .int mfaultKind, .int mfaultPlace, .ref a14, .ref a15, .int mgoal, .int mgoalDays, .int mgoalHearer, .ref a19, .ref a20, .int mleastOrder, .int mwordsMany, .ref a23, .ref a24, .ref a25, .ref a26, .ref a27, .ref a28])), (a1, .inl (g.2 0, 225, .inl mworld))] := hD
      refine W.eq (g2 := F0 m 11 ls [.int (u6.1 0)]) rfl ?_
      refine lv_goto (tgt := 16) hx hb dX12_first_11 (by decide) ?_
      exact rt_i FX ((fun k => match k with | 0 => u6.1 0 | _ => 0), (fun _ => fun _ => 0), (fun _ => fun _ => 0)) rfl trivial (hP.sub [0, 1] rfl) (hD.sub [0, 1] (by decide) rfl) hS (Nat.le_of_ble_eq_true rfl) (Nat.le_of_ble_eq_true rfl) dX12_first_16
set_option maxRecDepth 100000 in
set_option maxHeartbeats 4000000 in
theorem k_X12_leakBy (l : Launch) (g : GG) (h0 : Nat) (a1 : Nat) (a2 : Nat) (a3 : Nat) (a4 : Nat) (a6 : Nat) (a14 : Nat) (a15 : Nat) (a19 : Nat) (a20 : Nat) (a23 : Nat) (a24 : Nat) (a25 : Nat) (a26 : Nat) (a27 : Nat) (a28 : Nat) (mthrown : Int32) (mtaped : Int32) (msize : Int32) (mat : Int32) (mfrom : Int32) (mtoken : Int32) (mvalue : Int32) (mfaultKind : Int32) (mfaultPlace : Int32) (mgoal : Int32) (mgoalDays : Int32) (mgoalHearer : Int32) (mleastOrder : Int32) (mwordsMany : Int32) (mworld : Nat → Int32) (p1 : Int64) (i_mtaped : 0 ≤ mtaped.toInt ∧ mtaped.toInt ≤ 900) (i_msize : 0 ≤ msize.toInt ∧ msize.toInt ≤ 900) (i_mat : 0 ≤ mat.toInt ∧ mat.toInt ≤ 900) (i_mfrom : 0 ≤ mfrom.toInt ∧ mfrom.toInt ≤ 900) (i_mtoken : 0 ≤ mtoken.toInt ∧ mtoken.toInt ≤ 4) (i_mvalue : 0 ≤ mvalue.toInt ∧ mvalue.toInt ≤ 99999) (i_mgoalHearer : 0 ≤ mgoalHearer.toInt ∧ mgoalHearer.toInt ≤ 3) (i_mwordsMany : 0 ≤ mwordsMany.toInt ∧ mwordsMany.toInt ≤ 10) (i_mworld : wod mworld) : Ct l g yX12_leakBy cX12_leakBy 6 (some .int) { frames := 0, cells := 0, slots := 0, locals := 0 } [.ref h0, .long p1] [(h0, .inr (12, [.int mthrown, .ref a1, .ref a2, .ref a3, .ref a4, .int mtaped, .ref a6, .int msize, .int mat, .int mfrom, .int mtoken, .int mvalue, .int mfaultKind, .int mfaultPlace, .ref a14, .ref a15, .int mgoal, .int mgoalDays, .int mgoalHearer, .ref a19, .ref a20, .int mleastOrder, .int mwordsMany, .ref a23, .ref a24, .ref a25, .ref a26, .ref a27, .ref a28])), (a1, .inl (g.2 0, 225, .inl mworld))] (S := (Nat → Int32) × (Nat → Nat → Int32) × (Nat → Nat → Int64)) (fun u => some (.int (u.1 0))) (fun u => (-1 ≤ (u.1 0).toInt ∧ (u.1 0).toInt ≤ 9)) (fun u => [(h0, .inr (12, [.int mthrown, .ref a1, .ref a2, .ref a3, .ref a4, .int mtaped, .ref a6, .int msize, .int mat, .int mfrom, .int mtoken, .int mvalue, .int mfaultKind, .int mfaultPlace, .ref a14, .ref a15, .int mgoal, .int mgoalDays, .int mgoalHearer, .ref a19, .ref a20, .int mleastOrder, .int mwordsMany, .ref a23, .ref a24, .ref a25, .ref a26, .ref a27, .ref a28])), (a1, .inl (g.2 0, 225, .inl mworld))]) := by
  refine Ct.of (by decide) (Nat.le_of_ble_eq_true rfl) ?_
  intro p e s m below meth c A ls FX hP hD hS hl
  obtain ⟨FC, hr, hlk, hKn, hA, hnm, hZ⟩ := id FX
  have FC : CallFix p m c cX12_leakBy 6 s _ BIG RX12 := FC
  obtain ⟨hx, hb, hml, hown, hB⟩ := id FC
  have hl : lv_has ls 6 [(0, .ref h0), (1, .long p1)] := hl
  refine lv_lload_n hx hb dX12_leakBy_0 rfl (lv_at hl 1 rfl) ?_
  refine lv_lstore_n (lv' := [(3, .long p1), (0, .ref h0), (1, .long p1)]) hx hb dX12_leakBy_1 rfl hl (by decide) rfl (fun ls hl => ?_)
  refine lv_iconst (v := 1) hx hb dX12_leakBy_2 (by decide) ?_
  refine lv_istore (lv' := [(5, .int 1), (3, .long p1), (0, .ref h0), (1, .long p1)]) hx hb dX12_leakBy_3 hl (by decide) rfl (fun ls hl => ?_)
  have lp104 : ∀ (n106 : Nat) (x102 : Int32) (x103 : Int64) (H : Heap) (locs : List Loc) (ls : Array Slot), 1 ≤ x102.toInt ∧ x102.toInt ≤ 10 → (10 - x102.toInt).toNat < n106 → va_P g.1 vwCl [(h0, .inr (12, [.int mthrown, .ref a1, .ref a2, .ref a3, .ref a4, .int mtaped, .ref a6, .int msize, .int mat, .int mfrom, .int mtoken, .int mvalue, .int mfaultKind, .int mfaultPlace, .ref a14, .ref a15, .int mgoal, .int mgoalDays, .int mgoalHearer, .ref a19, .ref a20, .int mleastOrder, .int mwordsMany, .ref a23, .ref a24, .ref a25, .ref a26, .ref a27, .ref a28])), (a1, .inl (g.2 0, 225, .inl mworld))] H → va_D A [(h0, .inr (12, [.int mthrown, .ref a1, .ref a2, .ref a3, .ref a4, .int mtaped, .ref a6, .int msize, .int mat, .int mfrom, .int mtoken, .int mvalue, .int mfaultKind, .int mfaultPlace, .ref a14, .ref a15, .int mgoal, .int mgoalDays, .int mgoalHearer, .ref a19, .ref a20, .int mleastOrder, .int mwordsMany, .ref a23, .ref a24, .ref a25, .ref a26, .ref a27, .ref a28])), (a1, .inl (g.2 0, 225, .inl mworld))] → va_S A s.heap H locs → lv_has ls 6 [(5, .int x102), (3, .long x103), (0, .ref h0), (1, .long p1)] → W p l e { frames := 0, cells := 0, slots := 0, locals := 0 } s m ([.ref h0, .long p1].toArray) below meth c H locs 0 0 (MQ below (QX (S := (Nat → Int32) × (Nat → Nat → Int32) × (Nat → Nat → Int64)) (fun u => some (.int (u.1 0))) (fun u => (-1 ≤ (u.1 0).toInt ∧ (u.1 0).toInt ≤ 9)) g (fun u => [(h0, .inr (12, [.int mthrown, .ref a1, .ref a2, .ref a3, .ref a4, .int mtaped, .ref a6, .int msize, .int mat, .int mfrom, .int mtoken, .int mvalue, .int mfaultKind, .int mfaultPlace, .ref a14, .ref a15, .int mgoal, .int mgoalDays, .int mgoalHearer, .ref a19, .ref a20, .int mleastOrder, .int mwordsMany, .ref a23, .ref a24, .ref a25, .ref a26, .ref a27, .ref a28])), (a1, .inl (g.2 0, 225, .inl mworld))]) A) ([.ref h0, .long p1].toArray) s 0 0 A) (F0 m 5 ls []) := by
    intro n106
    induction n106 with
    | zero =>
      intro x102 x103 H locs ls h_x102 hn107
      exact absurd hn107 (Nat.not_lt_zero _)
    | succ n106 ih105 =>
      intro x102 x103 H locs ls h_x102 hn107 hP hD hS hl
      refine lv_iload hx hb dX12_leakBy_5 (lv_at hl 0 rfl) ?_
      refine lv_aload_n hx hb dX12_leakBy_7 rfl (lv_at hl 2 rfl) ?_
      refine g_get (C := RX12) (T := TX12) (N := 29) (ci := 12) (v := .ref a1) FC hKn hP i_X12 0 rfl rfl 1 (by decide) b_801 rfl dX12_leakBy_8 ?_
      refine lv_iconst (v := 2) hx hb dX12_leakBy_11 (by decide) ?_
      refine va_iald hx hb hKn.1 hP 1 0 rfl rfl (by unfold vp_in; decide) dX12_leakBy_12 ?_
      have kc2 : (2 : Int32).toInt = 2 := by decide
      refine lv_topi (fun z108 e_z108 => ?_)
      have t_z108 : 0 ≤ z108.toInt ∧ z108.toInt ≤ 10 := by rw [e_z108]; exact wk_2 i_mworld.1
      have q_z108 : z108.toInt = (mworld 2).toInt := by rw [e_z108]; rfl
      refine lv_icmp_ge (tgt := 59) hx hb dX12_leakBy_13 (by decide) (fun c109 => ?_) (fun c109 => ?_)
      · have c109 := k_le (a := z108.toInt) (b := x102.toInt) rfl rfl c109
        refine lv_iconst (v := -1) hx hb dX12_leakBy_59 (by decide) ?_
        exact rt_i FX ((fun k => match k with | 0 => (-1 : Int32) | _ => 0), (fun _ => fun _ => 0), (fun _ => fun _ => 0)) rfl (show -1 ≤ ((-1 : Int32)).toInt ∧ ((-1 : Int32)).toInt ≤ 9 by decide) (hP.sub [0, 1] rfl) (hD.sub [0, 1] (by decide) rfl) hS (Nat.le_of_ble_eq_true rfl) (Nat.le_of_ble_eq_true rfl) dX12_leakBy_60
      · have c109 := k_nle (a := z108.toInt) (b := x102.toInt) rfl rfl c109
        refine lv_ldc2 hx hb hown (hB _ b_1057) dX12_leakBy_16 ?_
        refine lv_lload_n hx hb dX12_leakBy_19 rfl (lv_at hl 1 rfl) ?_
        refine lv_lmul hx hb dX12_leakBy_20 ?_
        refine lv_topl (fun z110 e_z110 => ?_)
        refine lv_ldc2 hx hb hown (hB _ b_1058) dX12_leakBy_21 ?_
        refine lv_ladd hx hb dX12_leakBy_24 ?_
        refine lv_topl (fun z111 e_z111 => ?_)
        refine lv_ldc2 hx hb hown (hB _ b_1059) dX12_leakBy_25 ?_
        refine lv_lrem hx hb dX12_leakBy_28 (by decide) ?_
        refine lv_topl (fun z112 e_z112 => ?_)
        refine lv_lstore_n (lv' := [(3, .long z112), (5, .int x102), (0, .ref h0), (1, .long p1)]) hx hb dX12_leakBy_29 rfl hl (by decide) rfl (fun ls hl => ?_)
        refine lv_lload_n hx hb dX12_leakBy_30 rfl (lv_at hl 0 rfl) ?_
        refine lv_ldc2 hx hb hown (hB _ b_1060) dX12_leakBy_31 ?_
        refine lv_ldiv hx hb dX12_leakBy_34 (by decide) ?_
        refine lv_topl (fun z113 e_z113 => ?_)
        refine lv_ldc2 hx hb hown (hB _ b_857) dX12_leakBy_35 ?_
        refine lv_lrem hx hb dX12_leakBy_38 (by decide) ?_
        refine lv_topl (fun z114 e_z114 => ?_)
        refine lv_aload_n hx hb dX12_leakBy_39 rfl (lv_at hl 2 rfl) ?_
        refine g_get (C := RX12) (T := TX12) (N := 29) (ci := 12) (v := .ref a1) FC hKn hP i_X12 0 rfl rfl 1 (by decide) b_801 rfl dX12_leakBy_40 ?_
        refine lv_iconst (v := 4) hx hb dX12_leakBy_43 (by decide) ?_
        refine va_iald hx hb hKn.1 hP 1 0 rfl rfl (by unfold vp_in; decide) dX12_leakBy_44 ?_
        have kc4 : (4 : Int32).toInt = 4 := by decide
        refine lv_topi (fun z115 e_z115 => ?_)
        have q_z115 : z115.toInt = (mworld 4).toInt := by rw [e_z115]; rfl
        refine lv_i2l (v := z115.toInt64) hx hb dX12_leakBy_45 rfl ?_
        refine lv_topl (fun z116 e_z116 => ?_)
        have t_z116 : z116.toInt = z115.toInt := by rw [e_z116]; exact Int32.toInt_toInt64 _
        refine W.lcmp hx hb dX12_leakBy_46 ?_
        refine lv_if_ge (tgt := 53) hx hb dX12_leakBy_47 (by decide) (fun c117 => ?_) (fun c117 => ?_)
        · have c117 := k_le (a := 0) (b := (lg_cmp z114 z116).toInt) (by decide) rfl c117
          have c117 := kc_geT c117
          obtain ⟨z118, e_z118⟩ : ∃ y : Int32, y = x102 + 1 := ⟨_, rfl⟩
          have t_z118 : z118.toInt = x102.toInt + 1 := by rw [e_z118]; exact addk (by decide) (by omega) (by omega)
          refine lv_iinc (v := z118) (lv' := [(5, .int z118), (3, .long z112), (0, .ref h0), (1, .long p1)]) hx hb dX12_leakBy_53 hl (k := 1) rfl (by rw [e_z118]; rfl) (by decide) rfl (fun ls hl => ?_)
          refine lv_goto (tgt := 5) hx hb dX12_leakBy_56 (by decide) ?_
          exact ih105 z118 z112 _ _ ls (by omega) (by omega) hP hD hS (lv_sub hl [0, 1, 2, 3] rfl)
        · have c117 := k_nle (a := 0) (b := (lg_cmp z114 z116).toInt) (by decide) rfl c117
          have c117 := kc_geF c117
          refine lv_iload hx hb dX12_leakBy_50 (lv_at hl 1 rfl) ?_
          exact rt_i FX ((fun k => match k with | 0 => x102 | _ => 0), (fun _ => fun _ => 0), (fun _ => fun _ => 0)) rfl (show -1 ≤ x102.toInt ∧ x102.toInt ≤ 9 by omega) (hP.sub [0, 1] rfl) (hD.sub [0, 1] (by decide) rfl) hS (Nat.le_of_ble_eq_true rfl) (Nat.le_of_ble_eq_true rfl) dX12_leakBy_52
  have kc1 : (1 : Int32).toInt = 1 := by decide
  exact lp104 _ (1 : Int32) p1 _ _ ls (by decide) (Nat.lt_succ_self _) hP hD hS (lv_sub hl [0, 1, 2, 3] rfl)
set_option maxRecDepth 100000 in
set_option maxHeartbeats 4000000 in
theorem k_X12_drawn (l : Launch) (g : GG) (h0 : Nat) (a1 : Nat) (a2 : Nat) (a3 : Nat) (a4 : Nat) (a6 : Nat) (a14 : Nat) (a15 : Nat) (a19 : Nat) (a20 : Nat) (a23 : Nat) (a24 : Nat) (a25 : Nat) (a26 : Nat) (a27 : Nat) (a28 : Nat) (mthrown : Int32) (mtaped : Int32) (msize : Int32) (mat : Int32) (mfrom : Int32) (mtoken : Int32) (mvalue : Int32) (mfaultKind : Int32) (mfaultPlace : Int32) (mgoal : Int32) (mgoalDays : Int32) (mgoalHearer : Int32) (mleastOrder : Int32) (mwordsMany : Int32) (mworld : Nat → Int32) (mnumbers : Nat → Int64) (mmany : Nat → Int32) (p1 : Int32) (p2 : Int32) (p3 : Int32) (p4 : Int32) (i_mtaped : 0 ≤ mtaped.toInt ∧ mtaped.toInt ≤ 900) (i_msize : 0 ≤ msize.toInt ∧ msize.toInt ≤ 900) (i_mat : 0 ≤ mat.toInt ∧ mat.toInt ≤ 900) (i_mfrom : 0 ≤ mfrom.toInt ∧ mfrom.toInt ≤ 900) (i_mtoken : 0 ≤ mtoken.toInt ∧ mtoken.toInt ≤ 4) (i_mvalue : 0 ≤ mvalue.toInt ∧ mvalue.toInt ≤ 99999) (i_mgoalHearer : 0 ≤ mgoalHearer.toInt ∧ mgoalHearer.toInt ≤ 3) (i_mwordsMany : 0 ≤ mwordsMany.toInt ∧ mwordsMany.toInt ≤ 10) (i_mworld : wod mworld) (i_mmany : ab mmany 4 (-1) 60) : Ct l g yX12_drawn cX12_drawn 11 (some .int) { frames := 4, cells := 0, slots := 0, locals := 95 } [.ref h0, .int p1, .int p2, .int p3, .int p4] [(h0, .inr (12, [.int mthrown, .ref a1, .ref a2, .ref a3, .ref a4, .int mtaped, .ref a6, .int msize, .int mat, .int mfrom, .int mtoken, .int mvalue, .int mfaultKind, .int mfaultPlace, .ref a14, .ref a15, .int mgoal, .int mgoalDays, .int mgoalHearer, .ref a19, .ref a20, .int mleastOrder, .int mwordsMany, .ref a23, .ref a24, .ref a25, .ref a26, .ref a27, .ref a28])), (a1, .inl (g.2 0, 225, .inl mworld)), (a27, .inl (g.2 3, 240, .inr (.inl mnumbers))), (a25, .inl (g.2 0, 4, .inl mmany))] (S := (Nat → Int32) × (Nat → Nat → Int32) × (Nat → Nat → Int64)) (fun u => some (.int (u.1 0))) (fun u => True) (fun u => [(h0, .inr (12, [.int mthrown, .ref a1, .ref a2, .ref a3, .ref a4, .int mtaped, .ref a6, .int msize, .int mat, .int mfrom, .int mtoken, .int mvalue, .int mfaultKind, .int mfaultPlace, .ref a14, .ref a15, .int mgoal, .int mgoalDays, .int mgoalHearer, .ref a19, .ref a20, .int mleastOrder, .int mwordsMany, .ref a23, .ref a24, .ref a25, .ref a26, .ref a27, .ref a28])), (a1, .inl (g.2 0, 225, .inl mworld)), (a27, .inl (g.2 3, 240, .inr (.inl mnumbers))), (a25, .inl (g.2 0, 4, .inl mmany))]) := by
  refine Ct.of (by decide) (Nat.le_of_ble_eq_true rfl) ?_
  intro p e s m below meth c A ls FX hP hD hS hl
  obtain ⟨FC, hr, hlk, hKn, hA, hnm, hZ⟩ := id FX
  have FC : CallFix p m c cX12_drawn 11 s _ BIG RX12 := FC
  obtain ⟨hx, hb, hml, hown, hB⟩ := id FC
  have hl : lv_has ls 11 [(0, .ref h0), (1, .int p1), (2, .int p2), (3, .int p3), (4, .int p4)] := hl
  refine lv_aload_n hx hb dX12_drawn_0 rfl (lv_at hl 0 rfl) ?_
  refine lv_iload_n hx hb dX12_drawn_1 rfl (lv_at hl 2 rfl) ?_
  refine lv_iload_n hx hb dX12_drawn_2 rfl (lv_at hl 1 rfl) ?_
  refine call_S (As := [.int p1]) (rest := [.int p2, .ref h0]) (wr := [(h0, .inr (12, [.int mthrown, .ref a1, .ref a2, .ref a3, .ref a4, .int mtaped, .ref a6, .int msize, .int mat, .int mfrom, .int mtoken, .int mvalue, .int mfaultKind, .int mfaultPlace, .ref a14, .ref a15, .int mgoal, .int mgoalDays, .int mgoalHearer, .ref a19, .ref a20, .int mleastOrder, .int mwordsMany, .ref a23, .ref a24, .ref a25, .ref a26, .ref a27, .ref a28])), (a1, .inl (g.2 0, 225, .inl mworld)), (a27, .inl (g.2 3, 240, .inr (.inl mnumbers))), (a25, .inl (g.2 0, 4, .inl mmany))]) FC hKn hZ (k_X12_isSeed l g p1) m_yX12_isSeed b_1061 hP hD hS hA [] [0, 1, 2, 3] rfl (by decide) rfl (by decide) (by decide) rfl hl.1 rfl (Nat.le_of_ble_eq_true rfl) dX12_drawn_3 ⟨(Nat.le_of_ble_eq_true rfl), (Nat.le_of_ble_eq_true rfl)⟩ ⟨(Nat.le_of_ble_eq_true rfl), (Nat.le_of_ble_eq_true rfl)⟩ (fun u1 H locs q2 hP hD hS => ?_)
  obtain ⟨q2_0, q2_1⟩ := q2
  have hP : va_P g.1 vwCl [(h0, .inr (12, [.int mthrown, .ref a1, .ref a2, .ref a3, .ref a4, .int mtaped, .ref a6, .int msize, .int mat, .int mfrom, .int mtoken, .int mvalue, .int mfaultKind, .int mfaultPlace, .ref a14, .ref a15, .int mgoal, .int mgoalDays, .int mgoalHearer, .ref a19, .ref a20, .int mleastOrder, .int mwordsMany, .ref a23, .ref a24, .ref a25, .ref a26, .ref a27, .ref a28])), (a1, .inl (g.2 0, 225, .inl mworld)), (a27, .inl (g.2 3, 240, .inr (.inl mnumbers))), (a25, .inl (g.2 0, 4, .inl mmany))] H := hP
  have hD : va_D A [(h0, .inr (12, [.int mthrown, .ref a1, .ref a2, .ref a3, .ref a4, .int mtaped, .ref a6, .int msize, .int mat, .int mfrom, .int mtoken, .int mvalue, .int mfaultKind, .int mfaultPlace, .ref a14, .ref a15, .int mgoal, .int mgoalDays, .int mgoalHearer, .ref a19, .ref a20, .int mleastOrder, .int mwordsMany, .ref a23, .ref a24, .ref a25, .ref a26, .ref a27, .ref a28])), (a1, .inl (g.2 0, 225, .inl mworld)), (a27, .inl (g.2 3, 240, .inr (.inl mnumbers))), (a25, .inl (g.2 0, 4, .inl mmany))] := hD
  refine W.eq (g2 := F0 m 6 ls [.int (u1.1 0), .int p2, .ref h0]) rfl ?_
  rcases (show (u1.1 0).toInt = 0 ∨ (u1.1 0).toInt = 1 by omega) with c3 | c3
  · skip
    refine lv_if_eq (tgt := 32) hx hb dX12_drawn_6 (by decide) (fun c4 => ?_) (fun c4 => ?_)
    · have c4 := k_eq (a := (u1.1 0).toInt) (b := 0) rfl (by decide) c4
      refine lv_iconst (v := 0) hx hb dX12_drawn_32 (by decide) ?_
      have kc0 : (0 : Int32).toInt = 0 := by decide
      refine call_V (As := [.int p2, .int 0]) (rest := []) (wr := []) FC hKn hZ (k_X12_asksWeek l g h0 a1 a2 a3 a4 a6 a14 a15 a19 a20 a23 a24 a25 a26 a27 a28 mthrown mtaped msize mat mfrom mtoken mvalue mfaultKind mfaultPlace mgoal mgoalDays mgoalHearer mleastOrder mwordsMany mworld mnumbers mmany p2 ((0 : Int32)) (by omega) (by omega) (by omega) (by omega) (by omega) (by omega) (by omega) (by omega) i_mworld i_mmany (by omega)) m_yX12_asksWeek b_940 (ci := 12) rfl rfl rfl hP hD hS hA [0, 1, 2, 3] [] rfl (by decide) rfl (by decide) (by decide) rfl hl.1 rfl (Nat.le_of_ble_eq_true rfl) dX12_drawn_33 ⟨(Nat.le_of_ble_eq_true rfl), (Nat.le_of_ble_eq_true rfl)⟩ ⟨(Nat.le_of_ble_eq_true rfl), (Nat.le_of_ble_eq_true rfl)⟩ (fun u5 H locs q6 hP hD hS => ?_)
      obtain ⟨q6_0, q6_1, q6_2⟩ := q6
      have hP : va_P g.1 vwCl [(h0, .inr (12, [.int mthrown, .ref a1, .ref a2, .ref a3, .ref a4, .int mtaped, .ref a6, .int msize, .int mat, .int mfrom, .int mtoken, .int mvalue, .int mfaultKind, .int mfaultPlace, .ref a14, .ref a15, .int mgoal, .int mgoalDays, .int mgoalHearer, .ref a19, .ref a20, .int mleastOrder, .int mwordsMany, .ref a23, .ref a24, .ref a25, .ref a26, .ref a27, .ref a28])), (a1, .inl (g.2 0, 225, .inl mworld)), (a27, .inl (g.2 3, 240, .inr (.inl mnumbers))), (a25, .inl (g.2 0, 4, .inl mmany))] H := hP
      have hD : va_D A [(h0, .inr (12, [.int mthrown, .ref a1, .ref a2, .ref a3, .ref a4, .int mtaped, .ref a6, .int msize, .int mat, .int mfrom, .int mtoken, .int mvalue, .int mfaultKind, .int mfaultPlace, .ref a14, .ref a15, .int mgoal, .int mgoalDays, .int mgoalHearer, .ref a19, .ref a20, .int mleastOrder, .int mwordsMany, .ref a23, .ref a24, .ref a25, .ref a26, .ref a27, .ref a28])), (a1, .inl (g.2 0, 225, .inl mworld)), (a27, .inl (g.2 3, 240, .inr (.inl mnumbers))), (a25, .inl (g.2 0, 4, .inl mmany))] := hD
      refine W.eq (g2 := F0 m 36 ls [.int (u5.1 0)]) rfl ?_
      rcases (show (u5.1 0).toInt < 0 ∨ (u5.1 0).toInt = 0 by omega) with c7 | c7
      · skip
        refine lv_istore (lv' := [(5, .int (u5.1 0)), (0, .ref h0), (1, .int p1), (2, .int p2), (3, .int p3), (4, .int p4)]) hx hb dX12_drawn_36 hl (by decide) rfl (fun ls hl => ?_)
        refine lv_iload hx hb dX12_drawn_38 (lv_at hl 0 rfl) ?_
        refine lv_if_ge (tgt := 46) hx hb dX12_drawn_40 (by decide) (fun c8 => ?_) (fun c8 => ?_)
        · have c8 := k_le (a := 0) (b := (u5.1 0).toInt) (by decide) rfl c8
          exfalso; omega
        · have c8 := k_nle (a := 0) (b := (u5.1 0).toInt) (by decide) rfl c8
          refine lv_iload hx hb dX12_drawn_43 (lv_at hl 0 rfl) ?_
          exact rt_i FX ((fun k => match k with | 0 => u5.1 0 | _ => 0), (fun _ => fun _ => 0), (fun _ => fun _ => 0)) rfl trivial (hP.sub [0, 1, 2, 3] rfl) (hD.sub [0, 1, 2, 3] (by decide) rfl) hS (Nat.le_of_ble_eq_true rfl) (Nat.le_of_ble_eq_true rfl) dX12_drawn_45
      · have c7_2 := q6_2 c7
        exfalso; omega
    · have c4 := k_ne (a := (u1.1 0).toInt) (b := 0) rfl (by decide) c4
      exfalso; omega
  · have c3_r := q2_1 c3
    refine lv_if_eq (tgt := 32) hx hb dX12_drawn_6 (by decide) (fun c9 => ?_) (fun c9 => ?_)
    · have c9 := k_eq (a := (u1.1 0).toInt) (b := 0) rfl (by decide) c9
      exfalso; omega
    · have c9 := k_ne (a := (u1.1 0).toInt) (b := 0) rfl (by decide) c9
      refine lv_aload_n hx hb dX12_drawn_9 rfl (lv_at hl 0 rfl) ?_
      refine lv_iload_n hx hb dX12_drawn_10 rfl (lv_at hl 3 rfl) ?_
      refine call_V (As := [.int p3]) (rest := [.int p2, .ref h0]) (wr := [(a27, .inl (g.2 3, 240, .inr (.inl mnumbers))), (a25, .inl (g.2 0, 4, .inl mmany))]) FC hKn hZ (k_X12_isHearer l g h0 a1 a2 a3 a4 a6 a14 a15 a19 a20 a23 a24 a25 a26 a27 a28 mthrown mtaped msize mat mfrom mtoken mvalue mfaultKind mfaultPlace mgoal mgoalDays mgoalHearer mleastOrder mwordsMany mworld p3 (by omega) (by omega) (by omega) (by omega) (by omega) (by omega) (by omega) (by omega) i_mworld) m_yX12_isHearer b_881 (ci := 12) rfl rfl rfl hP hD hS hA [0, 1] [2, 3] rfl (by decide) rfl (by decide) (by decide) rfl hl.1 rfl (Nat.le_of_ble_eq_true rfl) dX12_drawn_11 ⟨(Nat.le_of_ble_eq_true rfl), (Nat.le_of_ble_eq_true rfl)⟩ ⟨(Nat.le_of_ble_eq_true rfl), (Nat.le_of_ble_eq_true rfl)⟩ (fun u10 H locs q11 hP hD hS => ?_)
      obtain ⟨q11_0, q11_1⟩ := q11
      have hP : va_P g.1 vwCl [(a27, .inl (g.2 3, 240, .inr (.inl mnumbers))), (a25, .inl (g.2 0, 4, .inl mmany)), (h0, .inr (12, [.int mthrown, .ref a1, .ref a2, .ref a3, .ref a4, .int mtaped, .ref a6, .int msize, .int mat, .int mfrom, .int mtoken, .int mvalue, .int mfaultKind, .int mfaultPlace, .ref a14, .ref a15, .int mgoal, .int mgoalDays, .int mgoalHearer, .ref a19, .ref a20, .int mleastOrder, .int mwordsMany, .ref a23, .ref a24, .ref a25, .ref a26, .ref a27, .ref a28])), (a1, .inl (g.2 0, 225, .inl mworld))] H := hP
      have hD : va_D A [(a27, .inl (g.2 3, 240, .inr (.inl mnumbers))), (a25, .inl (g.2 0, 4, .inl mmany)), (h0, .inr (12, [.int mthrown, .ref a1, .ref a2, .ref a3, .ref a4, .int mtaped, .ref a6, .int msize, .int mat, .int mfrom, .int mtoken, .int mvalue, .int mfaultKind, .int mfaultPlace, .ref a14, .ref a15, .int mgoal, .int mgoalDays, .int mgoalHearer, .ref a19, .ref a20, .int mleastOrder, .int mwordsMany, .ref a23, .ref a24, .ref a25, .ref a26, .ref a27, .ref a28])), (a1, .inl (g.2 0, 225, .inl mworld))] := hD
      refine W.eq (g2 := F0 m 14 ls [.int (u10.1 0), .int p2, .ref h0]) rfl ?_
      rcases (show (u10.1 0).toInt = 0 ∨ (u10.1 0).toInt = 1 by omega) with c12 | c12
      · skip
        refine lv_if_eq (tgt := 32) hx hb dX12_drawn_14 (by decide) (fun c13 => ?_) (fun c13 => ?_)
        · have c13 := k_eq (a := (u10.1 0).toInt) (b := 0) rfl (by decide) c13
          refine lv_iconst (v := 0) hx hb dX12_drawn_32 (by decide) ?_
          have kc0 : (0 : Int32).toInt = 0 := by decide
          refine call_V (As := [.int p2, .int 0]) (rest := []) (wr := []) FC hKn hZ (k_X12_asksWeek l g h0 a1 a2 a3 a4 a6 a14 a15 a19 a20 a23 a24 a25 a26 a27 a28 mthrown mtaped msize mat mfrom mtoken mvalue mfaultKind mfaultPlace mgoal mgoalDays mgoalHearer mleastOrder mwordsMany mworld mnumbers mmany p2 ((0 : Int32)) (by omega) (by omega) (by omega) (by omega) (by omega) (by omega) (by omega) (by omega) i_mworld i_mmany (by omega)) m_yX12_asksWeek b_940 (ci := 12) rfl rfl rfl hP hD hS hA [2, 3, 0, 1] [] rfl (by decide) rfl (by decide) (by decide) rfl hl.1 rfl (Nat.le_of_ble_eq_true rfl) dX12_drawn_33 ⟨(Nat.le_of_ble_eq_true rfl), (Nat.le_of_ble_eq_true rfl)⟩ ⟨(Nat.le_of_ble_eq_true rfl), (Nat.le_of_ble_eq_true rfl)⟩ (fun u14 H locs q15 hP hD hS => ?_)
          obtain ⟨q15_0, q15_1, q15_2⟩ := q15
          have hP : va_P g.1 vwCl [(h0, .inr (12, [.int mthrown, .ref a1, .ref a2, .ref a3, .ref a4, .int mtaped, .ref a6, .int msize, .int mat, .int mfrom, .int mtoken, .int mvalue, .int mfaultKind, .int mfaultPlace, .ref a14, .ref a15, .int mgoal, .int mgoalDays, .int mgoalHearer, .ref a19, .ref a20, .int mleastOrder, .int mwordsMany, .ref a23, .ref a24, .ref a25, .ref a26, .ref a27, .ref a28])), (a1, .inl (g.2 0, 225, .inl mworld)), (a27, .inl (g.2 3, 240, .inr (.inl mnumbers))), (a25, .inl (g.2 0, 4, .inl mmany))] H := hP
          have hD : va_D A [(h0, .inr (12, [.int mthrown, .ref a1, .ref a2, .ref a3, .ref a4, .int mtaped, .ref a6, .int msize, .int mat, .int mfrom, .int mtoken, .int mvalue, .int mfaultKind, .int mfaultPlace, .ref a14, .ref a15, .int mgoal, .int mgoalDays, .int mgoalHearer, .ref a19, .ref a20, .int mleastOrder, .int mwordsMany, .ref a23, .ref a24, .ref a25, .ref a26, .ref a27, .ref a28])), (a1, .inl (g.2 0, 225, .inl mworld)), (a27, .inl (g.2 3, 240, .inr (.inl mnumbers))), (a25, .inl (g.2 0, 4, .inl mmany))] := hD
          refine W.eq (g2 := F0 m 36 ls [.int (u14.1 0)]) rfl ?_
          rcases (show (u14.1 0).toInt < 0 ∨ (u14.1 0).toInt = 0 by omega) with c16 | c16
          · skip
            refine lv_istore (lv' := [(5, .int (u14.1 0)), (0, .ref h0), (1, .int p1), (2, .int p2), (3, .int p3), (4, .int p4)]) hx hb dX12_drawn_36 hl (by decide) rfl (fun ls hl => ?_)
            refine lv_iload hx hb dX12_drawn_38 (lv_at hl 0 rfl) ?_
            refine lv_if_ge (tgt := 46) hx hb dX12_drawn_40 (by decide) (fun c17 => ?_) (fun c17 => ?_)
            · have c17 := k_le (a := 0) (b := (u14.1 0).toInt) (by decide) rfl c17
              exfalso; omega
            · have c17 := k_nle (a := 0) (b := (u14.1 0).toInt) (by decide) rfl c17
              refine lv_iload hx hb dX12_drawn_43 (lv_at hl 0 rfl) ?_
              exact rt_i FX ((fun k => match k with | 0 => u14.1 0 | _ => 0), (fun _ => fun _ => 0), (fun _ => fun _ => 0)) rfl trivial (hP.sub [0, 1, 2, 3] rfl) (hD.sub [0, 1, 2, 3] (by decide) rfl) hS (Nat.le_of_ble_eq_true rfl) (Nat.le_of_ble_eq_true rfl) dX12_drawn_45
          · have c16_2 := q15_2 c16
            exfalso; omega
        · have c13 := k_ne (a := (u10.1 0).toInt) (b := 0) rfl (by decide) c13
          exfalso; omega
      · have c12_r := q11_1 c12
        refine lv_if_eq (tgt := 32) hx hb dX12_drawn_14 (by decide) (fun c18 => ?_) (fun c18 => ?_)
        · have c18 := k_eq (a := (u10.1 0).toInt) (b := 0) rfl (by decide) c18
          exfalso; omega
        · have c18 := k_ne (a := (u10.1 0).toInt) (b := 0) rfl (by decide) c18
          refine lv_iload hx hb dX12_drawn_17 (lv_at hl 4 rfl) ?_
          refine lv_i2l (v := p4.toInt64) hx hb dX12_drawn_19 rfl ?_
          refine lv_topl (fun z19 e_z19 => ?_)
          have t_z19 : z19.toInt = p4.toInt := by rw [e_z19]; exact Int32.toInt_toInt64 _
          refine lv_lconst (v := 0) hx hb dX12_drawn_20 (by decide) ?_
          refine lv_lconst (v := 1) hx hb dX12_drawn_21 (by decide) ?_
          have kcl0 : (0 : Int64).toInt = 0 := by decide
          have kcl1 : (1 : Int64).toInt = 1 := by decide
          refine call_S (As := [.long z19, .long 0, .long 1]) (rest := [.int p2, .ref h0]) (wr := [(a27, .inl (g.2 3, 240, .inr (.inl mnumbers))), (a25, .inl (g.2 0, 4, .inl mmany)), (h0, .inr (12, [.int mthrown, .ref a1, .ref a2, .ref a3, .ref a4, .int mtaped, .ref a6, .int msize, .int mat, .int mfrom, .int mtoken, .int mvalue, .int mfaultKind, .int mfaultPlace, .ref a14, .ref a15, .int mgoal, .int mgoalDays, .int mgoalHearer, .ref a19, .ref a20, .int mleastOrder, .int mwordsMany, .ref a23, .ref a24, .ref a25, .ref a26, .ref a27, .ref a28])), (a1, .inl (g.2 0, 225, .inl mworld))]) FC hKn hZ (k_X12_in l g z19 ((0 : Int64)) ((1 : Int64))) m_yX12_in b_802 hP hD hS hA [] [0, 1, 2, 3] rfl (by decide) rfl (by decide) (by decide) rfl hl.1 rfl (Nat.le_of_ble_eq_true rfl) dX12_drawn_22 ⟨(Nat.le_of_ble_eq_true rfl), (Nat.le_of_ble_eq_true rfl)⟩ ⟨(Nat.le_of_ble_eq_true rfl), (Nat.le_of_ble_eq_true rfl)⟩ (fun u20 H locs q21 hP hD hS => ?_)
          obtain ⟨q21_0, q21_1, q21_2⟩ := q21
          have hP : va_P g.1 vwCl [(a27, .inl (g.2 3, 240, .inr (.inl mnumbers))), (a25, .inl (g.2 0, 4, .inl mmany)), (h0, .inr (12, [.int mthrown, .ref a1, .ref a2, .ref a3, .ref a4, .int mtaped, .ref a6, .int msize, .int mat, .int mfrom, .int mtoken, .int mvalue, .int mfaultKind, .int mfaultPlace, .ref a14, .ref a15, .int mgoal, .int mgoalDays, .int mgoalHearer, .ref a19, .ref a20, .int mleastOrder, .int mwordsMany, .ref a23, .ref a24, .ref a25, .ref a26, .ref a27, .ref a28])), (a1, .inl (g.2 0, 225, .inl mworld))] H := hP
          have hD : va_D A [(a27, .inl (g.2 3, 240, .inr (.inl mnumbers))), (a25, .inl (g.2 0, 4, .inl mmany)), (h0, .inr (12, [.int mthrown, .ref a1, .ref a2, .ref a3, .ref a4, .int mtaped, .ref a6, .int msize, .int mat, .int mfrom, .int mtoken, .int mvalue, .int mfaultKind, .int mfaultPlace, .ref a14, .ref a15, .int mgoal, .int mgoalDays, .int mgoalHearer, .ref a19, .ref a20, .int mleastOrder, .int mwordsMany, .ref a23, .ref a24, .ref a25, .ref a26, .ref a27, .ref a28])), (a1, .inl (g.2 0, 225, .inl mworld))] := hD
          refine W.eq (g2 := F0 m 25 ls [.int (u20.1 0), .int p2, .ref h0]) rfl ?_
          rcases (show (u20.1 0).toInt = 0 ∨ (u20.1 0).toInt = 1 by omega) with c22 | c22
          · skip
            refine lv_if_eq (tgt := 32) hx hb dX12_drawn_25 (by decide) (fun c23 => ?_) (fun c23 => ?_)
            · have c23 := k_eq (a := (u20.1 0).toInt) (b := 0) rfl (by decide) c23
              refine lv_iconst (v := 0) hx hb dX12_drawn_32 (by decide) ?_
              have kc0 : (0 : Int32).toInt = 0 := by decide
              refine call_V (As := [.int p2, .int 0]) (rest := []) (wr := []) FC hKn hZ (k_X12_asksWeek l g h0 a1 a2 a3 a4 a6 a14 a15 a19 a20 a23 a24 a25 a26 a27 a28 mthrown mtaped msize mat mfrom mtoken mvalue mfaultKind mfaultPlace mgoal mgoalDays mgoalHearer mleastOrder mwordsMany mworld mnumbers mmany p2 ((0 : Int32)) (by omega) (by omega) (by omega) (by omega) (by omega) (by omega) (by omega) (by omega) i_mworld i_mmany (by omega)) m_yX12_asksWeek b_940 (ci := 12) rfl rfl rfl hP hD hS hA [2, 3, 0, 1] [] rfl (by decide) rfl (by decide) (by decide) rfl hl.1 rfl (Nat.le_of_ble_eq_true rfl) dX12_drawn_33 ⟨(Nat.le_of_ble_eq_true rfl), (Nat.le_of_ble_eq_true rfl)⟩ ⟨(Nat.le_of_ble_eq_true rfl), (Nat.le_of_ble_eq_true rfl)⟩ (fun u24 H locs q25 hP hD hS => ?_)
              obtain ⟨q25_0, q25_1, q25_2⟩ := q25
              have hP : va_P g.1 vwCl [(h0, .inr (12, [.int mthrown, .ref a1, .ref a2, .ref a3, .ref a4, .int mtaped, .ref a6, .int msize, .int mat, .int mfrom, .int mtoken, .int mvalue, .int mfaultKind, .int mfaultPlace, .ref a14, .ref a15, .int mgoal, .int mgoalDays, .int mgoalHearer, .ref a19, .ref a20, .int mleastOrder, .int mwordsMany, .ref a23, .ref a24, .ref a25, .ref a26, .ref a27, .ref a28])), (a1, .inl (g.2 0, 225, .inl mworld)), (a27, .inl (g.2 3, 240, .inr (.inl mnumbers))), (a25, .inl (g.2 0, 4, .inl mmany))] H := hP
              have hD : va_D A [(h0, .inr (12, [.int mthrown, .ref a1, .ref a2, .ref a3, .ref a4, .int mtaped, .ref a6, .int msize, .int mat, .int mfrom, .int mtoken, .int mvalue, .int mfaultKind, .int mfaultPlace, .ref a14, .ref a15, .int mgoal, .int mgoalDays, .int mgoalHearer, .ref a19, .ref a20, .int mleastOrder, .int mwordsMany, .ref a23, .ref a24, .ref a25, .ref a26, .ref a27, .ref a28])), (a1, .inl (g.2 0, 225, .inl mworld)), (a27, .inl (g.2 3, 240, .inr (.inl mnumbers))), (a25, .inl (g.2 0, 4, .inl mmany))] := hD
              refine W.eq (g2 := F0 m 36 ls [.int (u24.1 0)]) rfl ?_
              rcases (show (u24.1 0).toInt < 0 ∨ (u24.1 0).toInt = 0 by omega) with c26 | c26
              · skip
                refine lv_istore (lv' := [(5, .int (u24.1 0)), (0, .ref h0), (1, .int p1), (2, .int p2), (3, .int p3), (4, .int p4)]) hx hb dX12_drawn_36 hl (by decide) rfl (fun ls hl => ?_)
                refine lv_iload hx hb dX12_drawn_38 (lv_at hl 0 rfl) ?_
                refine lv_if_ge (tgt := 46) hx hb dX12_drawn_40 (by decide) (fun c27 => ?_) (fun c27 => ?_)
                · have c27 := k_le (a := 0) (b := (u24.1 0).toInt) (by decide) rfl c27
                  exfalso; omega
                · have c27 := k_nle (a := 0) (b := (u24.1 0).toInt) (by decide) rfl c27
                  refine lv_iload hx hb dX12_drawn_43 (lv_at hl 0 rfl) ?_
                  exact rt_i FX ((fun k => match k with | 0 => u24.1 0 | _ => 0), (fun _ => fun _ => 0), (fun _ => fun _ => 0)) rfl trivial (hP.sub [0, 1, 2, 3] rfl) (hD.sub [0, 1, 2, 3] (by decide) rfl) hS (Nat.le_of_ble_eq_true rfl) (Nat.le_of_ble_eq_true rfl) dX12_drawn_45
              · have c26_2 := q25_2 c26
                exfalso; omega
            · have c23 := k_ne (a := (u20.1 0).toInt) (b := 0) rfl (by decide) c23
              exfalso; omega
          · have c22_r := q21_2 c22
            refine lv_if_eq (tgt := 32) hx hb dX12_drawn_25 (by decide) (fun c28 => ?_) (fun c28 => ?_)
            · have c28 := k_eq (a := (u20.1 0).toInt) (b := 0) rfl (by decide) c28
              exfalso; omega
            · have c28 := k_ne (a := (u20.1 0).toInt) (b := 0) rfl (by decide) c28
              refine lv_iconst (v := 1) hx hb dX12_drawn_28 (by decide) ?_
              refine lv_goto (tgt := 33) hx hb dX12_drawn_29 (by decide) ?_
              have kc1 : (1 : Int32).toInt = 1 := by decide
              refine call_V (As := [.int p2, .int 1]) (rest := []) (wr := []) FC hKn hZ (k_X12_asksWeek l g h0 a1 a2 a3 a4 a6 a14 a15 a19 a20 a23 a24 a25 a26 a27 a28 mthrown mtaped msize mat mfrom mtoken mvalue mfaultKind mfaultPlace mgoal mgoalDays mgoalHearer mleastOrder mwordsMany mworld mnumbers mmany p2 ((1 : Int32)) (by omega) (by omega) (by omega) (by omega) (by omega) (by omega) (by omega) (by omega) i_mworld i_mmany (by omega)) m_yX12_asksWeek b_940 (ci := 12) rfl rfl rfl hP hD hS hA [2, 3, 0, 1] [] rfl (by decide) rfl (by decide) (by decide) rfl hl.1 rfl (Nat.le_of_ble_eq_true rfl) dX12_drawn_33 ⟨(Nat.le_of_ble_eq_true rfl), (Nat.le_of_ble_eq_true rfl)⟩ ⟨(Nat.le_of_ble_eq_true rfl), (Nat.le_of_ble_eq_true rfl)⟩ (fun u29 H locs q30 hP hD hS => ?_)
              obtain ⟨q30_0, q30_1, q30_2⟩ := q30
              have hP : va_P g.1 vwCl [(h0, .inr (12, [.int mthrown, .ref a1, .ref a2, .ref a3, .ref a4, .int mtaped, .ref a6, .int msize, .int mat, .int mfrom, .int mtoken, .int mvalue, .int mfaultKind, .int mfaultPlace, .ref a14, .ref a15, .int mgoal, .int mgoalDays, .int mgoalHearer, .ref a19, .ref a20, .int mleastOrder, .int mwordsMany, .ref a23, .ref a24, .ref a25, .ref a26, .ref a27, .ref a28])), (a1, .inl (g.2 0, 225, .inl mworld)), (a27, .inl (g.2 3, 240, .inr (.inl mnumbers))), (a25, .inl (g.2 0, 4, .inl mmany))] H := hP
              have hD : va_D A [(h0, .inr (12, [.int mthrown, .ref a1, .ref a2, .ref a3, .ref a4, .int mtaped, .ref a6, .int msize, .int mat, .int mfrom, .int mtoken, .int mvalue, .int mfaultKind, .int mfaultPlace, .ref a14, .ref a15, .int mgoal, .int mgoalDays, .int mgoalHearer, .ref a19, .ref a20, .int mleastOrder, .int mwordsMany, .ref a23, .ref a24, .ref a25, .ref a26, .ref a27, .ref a28])), (a1, .inl (g.2 0, 225, .inl mworld)), (a27, .inl (g.2 3, 240, .inr (.inl mnumbers))), (a25, .inl (g.2 0, 4, .inl mmany))] := hD
              refine W.eq (g2 := F0 m 36 ls [.int (u29.1 0)]) rfl ?_
              rcases (show (u29.1 0).toInt < 0 ∨ (u29.1 0).toInt = 0 by omega) with c31 | c31
              · skip
                refine lv_istore (lv' := [(5, .int (u29.1 0)), (0, .ref h0), (1, .int p1), (2, .int p2), (3, .int p3), (4, .int p4)]) hx hb dX12_drawn_36 hl (by decide) rfl (fun ls hl => ?_)
                refine lv_iload hx hb dX12_drawn_38 (lv_at hl 0 rfl) ?_
                refine lv_if_ge (tgt := 46) hx hb dX12_drawn_40 (by decide) (fun c32 => ?_) (fun c32 => ?_)
                · have c32 := k_le (a := 0) (b := (u29.1 0).toInt) (by decide) rfl c32
                  exfalso; omega
                · have c32 := k_nle (a := 0) (b := (u29.1 0).toInt) (by decide) rfl c32
                  refine lv_iload hx hb dX12_drawn_43 (lv_at hl 0 rfl) ?_
                  exact rt_i FX ((fun k => match k with | 0 => u29.1 0 | _ => 0), (fun _ => fun _ => 0), (fun _ => fun _ => 0)) rfl trivial (hP.sub [0, 1, 2, 3] rfl) (hD.sub [0, 1, 2, 3] (by decide) rfl) hS (Nat.le_of_ble_eq_true rfl) (Nat.le_of_ble_eq_true rfl) dX12_drawn_45
              · have hw33 := q30_1 c31
                have hw33b := hw33.2.1
                have hw33a := hw33.1
                refine lv_istore (lv' := [(5, .int (u29.1 0)), (0, .ref h0), (1, .int p1), (2, .int p2), (3, .int p3), (4, .int p4)]) hx hb dX12_drawn_36 hl (by decide) rfl (fun ls hl => ?_)
                refine lv_iload hx hb dX12_drawn_38 (lv_at hl 0 rfl) ?_
                refine lv_if_ge (tgt := 46) hx hb dX12_drawn_40 (by decide) (fun c34 => ?_) (fun c34 => ?_)
                · have c34 := k_le (a := 0) (b := (u29.1 0).toInt) (by decide) rfl c34
                  refine lv_aload_n hx hb dX12_drawn_46 rfl (lv_at hl 1 rfl) ?_
                  refine lv_iload_n hx hb dX12_drawn_47 rfl (lv_at hl 2 rfl) ?_
                  refine lv_i2l (v := p1.toInt64) hx hb dX12_drawn_48 rfl ?_
                  refine lv_topl (fun z35 e_z35 => ?_)
                  have t_z35 : z35.toInt = p1.toInt := by rw [e_z35]; exact Int32.toInt_toInt64 _
                  refine call_V (As := [.long z35]) (rest := []) (wr := [(a27, .inl (g.2 3, 240, .inr (.inl mnumbers))), (a25, .inl (g.2 0, 4, .inl mmany))]) FC hKn hZ (k_X12_leakBy l g h0 a1 a2 a3 a4 a6 a14 a15 a19 a20 a23 a24 a25 a26 a27 a28 mthrown mtaped msize mat mfrom mtoken mvalue mfaultKind mfaultPlace mgoal mgoalDays mgoalHearer mleastOrder mwordsMany mworld z35 (by omega) (by omega) (by omega) (by omega) (by omega) (by omega) (by omega) (by omega) i_mworld) m_yX12_leakBy b_1062 (ci := 12) rfl rfl rfl hP hD hS hA [0, 1] [2, 3] rfl (by decide) rfl (by decide) (by decide) rfl hl.1 rfl (Nat.le_of_ble_eq_true rfl) dX12_drawn_49 ⟨(Nat.le_of_ble_eq_true rfl), (Nat.le_of_ble_eq_true rfl)⟩ ⟨(Nat.le_of_ble_eq_true rfl), (Nat.le_of_ble_eq_true rfl)⟩ (fun u36 H locs q37 hP hD hS => ?_)
                  have q37_0 : -1 ≤ (u36.1 0).toInt ∧ (u36.1 0).toInt ≤ 9 := q37
                  have hP : va_P g.1 vwCl [(a27, .inl (g.2 3, 240, .inr (.inl mnumbers))), (a25, .inl (g.2 0, 4, .inl mmany)), (h0, .inr (12, [.int mthrown, .ref a1, .ref a2, .ref a3, .ref a4, .int mtaped, .ref a6, .int msize, .int mat, .int mfrom, .int mtoken, .int mvalue, .int mfaultKind, .int mfaultPlace, .ref a14, .ref a15, .int mgoal, .int mgoalDays, .int mgoalHearer, .ref a19, .ref a20, .int mleastOrder, .int mwordsMany, .ref a23, .ref a24, .ref a25, .ref a26, .ref a27, .ref a28])), (a1, .inl (g.2 0, 225, .inl mworld))] H := hP
                  have hD : va_D A [(a27, .inl (g.2 3, 240, .inr (.inl mnumbers))), (a25, .inl (g.2 0, 4, .inl mmany)), (h0, .inr (12, [.int mthrown, .ref a1, .ref a2, .ref a3, .ref a4, .int mtaped, .ref a6, .int msize, .int mat, .int mfrom, .int mtoken, .int mvalue, .int mfaultKind, .int mfaultPlace, .ref a14, .ref a15, .int mgoal, .int mgoalDays, .int mgoalHearer, .ref a19, .ref a20, .int mleastOrder, .int mwordsMany, .ref a23, .ref a24, .ref a25, .ref a26, .ref a27, .ref a28])), (a1, .inl (g.2 0, 225, .inl mworld))] := hD
                  refine W.eq (g2 := F0 m 52 ls [.int (u36.1 0)]) rfl ?_
                  refine lv_istore (lv' := [(6, .int (u36.1 0)), (5, .int (u29.1 0)), (0, .ref h0), (1, .int p1), (2, .int p2), (3, .int p3), (4, .int p4)]) hx hb dX12_drawn_52 hl (by decide) rfl (fun ls hl => ?_)
                  refine lv_iload hx hb dX12_drawn_54 (lv_at hl 6 rfl) ?_
                  refine lv_if_ne (tgt := 62) hx hb dX12_drawn_56 (by decide) (fun c38 => ?_) (fun c38 => ?_)
                  · have c38 := k_ne (a := p4.toInt) (b := 0) rfl (by decide) c38
                    refine lv_aload_n hx hb dX12_drawn_62 rfl (lv_at hl 2 rfl) ?_
                    refine call_V (As := []) (rest := []) (wr := [(a27, .inl (g.2 3, 240, .inr (.inl mnumbers))), (a25, .inl (g.2 0, 4, .inl mmany))]) FC hKn hZ (k_X12_allStates l g h0 a1 a2 a3 a4 a6 a14 a15 a19 a20 a23 a24 a25 a26 a27 a28 mthrown mtaped msize mat mfrom mtoken mvalue mfaultKind mfaultPlace mgoal mgoalDays mgoalHearer mleastOrder mwordsMany mworld (by omega) (by omega) (by omega) (by omega) (by omega) (by omega) (by omega) (by omega) i_mworld) m_yX12_allStates b_806 (ci := 12) rfl rfl rfl hP hD hS hA [2, 3] [0, 1] rfl (by decide) rfl (by decide) (by decide) rfl hl.1 rfl (Nat.le_of_ble_eq_true rfl) dX12_drawn_63 ⟨(Nat.le_of_ble_eq_true rfl), (Nat.le_of_ble_eq_true rfl)⟩ ⟨(Nat.le_of_ble_eq_true rfl), (Nat.le_of_ble_eq_true rfl)⟩ (fun u39 H locs q40 hP hD hS => ?_)
                    obtain ⟨q40_0, q40_1, q40_2⟩ := q40
                    have hP : va_P g.1 vwCl [(a27, .inl (g.2 3, 240, .inr (.inl mnumbers))), (a25, .inl (g.2 0, 4, .inl mmany)), (h0, .inr (12, [.int mthrown, .ref a1, .ref a2, .ref a3, .ref a4, .int mtaped, .ref a6, .int msize, .int mat, .int mfrom, .int mtoken, .int mvalue, .int mfaultKind, .int mfaultPlace, .ref a14, .ref a15, .int mgoal, .int mgoalDays, .int mgoalHearer, .ref a19, .ref a20, .int mleastOrder, .int mwordsMany, .ref a23, .ref a24, .ref a25, .ref a26, .ref a27, .ref a28])), (a1, .inl (g.2 0, 225, .inl mworld))] H := hP
                    have hD : va_D A [(a27, .inl (g.2 3, 240, .inr (.inl mnumbers))), (a25, .inl (g.2 0, 4, .inl mmany)), (h0, .inr (12, [.int mthrown, .ref a1, .ref a2, .ref a3, .ref a4, .int mtaped, .ref a6, .int msize, .int mat, .int mfrom, .int mtoken, .int mvalue, .int mfaultKind, .int mfaultPlace, .ref a14, .ref a15, .int mgoal, .int mgoalDays, .int mgoalHearer, .ref a19, .ref a20, .int mleastOrder, .int mwordsMany, .ref a23, .ref a24, .ref a25, .ref a26, .ref a27, .ref a28])), (a1, .inl (g.2 0, 225, .inl mworld))] := hD
                    refine W.eq (g2 := F0 m 66 ls [.int (u39.1 0)]) rfl ?_
                    rw [q40_1] at q40_0
                    rw [q40_1] at q40_2
                    refine tp_i (v := asF mworld) q40_1 ?_
                    refine lv_istore (lv' := [(7, .int (asF mworld)), (6, .int (u36.1 0)), (5, .int (u29.1 0)), (0, .ref h0), (1, .int p1), (2, .int p2), (3, .int p3), (4, .int p4)]) hx hb dX12_drawn_66 hl (by decide) rfl (fun ls hl => ?_)
                    refine lv_iconst (v := 0) hx hb dX12_drawn_68 (by decide) ?_
                    refine lv_istore (lv' := [(8, .int 0), (7, .int (asF mworld)), (6, .int (u36.1 0)), (5, .int (u29.1 0)), (0, .ref h0), (1, .int p1), (2, .int p2), (3, .int p3), (4, .int p4)]) hx hb dX12_drawn_69 hl (by decide) rfl (fun ls hl => ?_)
                    refine lv_iconst (v := 0) hx hb dX12_drawn_71 (by decide) ?_
                    refine lv_istore (lv' := [(9, .int 0), (8, .int 0), (7, .int (asF mworld)), (6, .int (u36.1 0)), (5, .int (u29.1 0)), (0, .ref h0), (1, .int p1), (2, .int p2), (3, .int p3), (4, .int p4)]) hx hb dX12_drawn_72 hl (by decide) rfl (fun ls hl => ?_)
                    have lp258 : ∀ (n260 : Nat) (x255 : Int32) (x256 : Int32) (x257 : Int32) (H : Heap) (locs : List Loc) (ls : Array Slot), 0 ≤ x255.toInt ∧ x255.toInt ≤ 10 → 1 ≤ x257.toInt ∧ x257.toInt ≤ 255 → (10 - x255.toInt).toNat < n260 → va_P g.1 vwCl [(a27, .inl (g.2 3, 240, .inr (.inl mnumbers))), (a25, .inl (g.2 0, 4, .inl mmany)), (h0, .inr (12, [.int mthrown, .ref a1, .ref a2, .ref a3, .ref a4, .int mtaped, .ref a6, .int msize, .int mat, .int mfrom, .int mtoken, .int mvalue, .int mfaultKind, .int mfaultPlace, .ref a14, .ref a15, .int mgoal, .int mgoalDays, .int mgoalHearer, .ref a19, .ref a20, .int mleastOrder, .int mwordsMany, .ref a23, .ref a24, .ref a25, .ref a26, .ref a27, .ref a28])), (a1, .inl (g.2 0, 225, .inl mworld))] H → va_D A [(a27, .inl (g.2 3, 240, .inr (.inl mnumbers))), (a25, .inl (g.2 0, 4, .inl mmany)), (h0, .inr (12, [.int mthrown, .ref a1, .ref a2, .ref a3, .ref a4, .int mtaped, .ref a6, .int msize, .int mat, .int mfrom, .int mtoken, .int mvalue, .int mfaultKind, .int mfaultPlace, .ref a14, .ref a15, .int mgoal, .int mgoalDays, .int mgoalHearer, .ref a19, .ref a20, .int mleastOrder, .int mwordsMany, .ref a23, .ref a24, .ref a25, .ref a26, .ref a27, .ref a28])), (a1, .inl (g.2 0, 225, .inl mworld))] → va_S A s.heap H locs → lv_has ls 11 [(9, .int x255), (8, .int x256), (7, .int x257), (6, .int (u36.1 0)), (5, .int (u29.1 0)), (0, .ref h0), (1, .int p1), (2, .int p2), (3, .int p3), (4, .int p4)] → W p l e { frames := 4, cells := 0, slots := 0, locals := 95 } s m ([.ref h0, .int p1, .int p2, .int p3, .int p4].toArray) below meth c H locs 0 0 (MQ below (QX (S := (Nat → Int32) × (Nat → Nat → Int32) × (Nat → Nat → Int64)) (fun u => some (.int (u.1 0))) (fun u => True) g (fun u => [(h0, .inr (12, [.int mthrown, .ref a1, .ref a2, .ref a3, .ref a4, .int mtaped, .ref a6, .int msize, .int mat, .int mfrom, .int mtoken, .int mvalue, .int mfaultKind, .int mfaultPlace, .ref a14, .ref a15, .int mgoal, .int mgoalDays, .int mgoalHearer, .ref a19, .ref a20, .int mleastOrder, .int mwordsMany, .ref a23, .ref a24, .ref a25, .ref a26, .ref a27, .ref a28])), (a1, .inl (g.2 0, 225, .inl mworld)), (a27, .inl (g.2 3, 240, .inr (.inl mnumbers))), (a25, .inl (g.2 0, 4, .inl mmany))]) A) ([.ref h0, .int p1, .int p2, .int p3, .int p4].toArray) s 0 0 A) (F0 m 74 ls []) := by
                      intro n260
                      induction n260 with
                      | zero =>
                        intro x255 x256 x257 H locs ls h_x255 h_x257 hn261
                        exact absurd hn261 (Nat.not_lt_zero _)
                      | succ n260 ih259 =>
                        intro x255 x256 x257 H locs ls h_x255 h_x257 hn261 hP hD hS hl
                        refine lv_iload hx hb dX12_drawn_74 (lv_at hl 0 rfl) ?_
                        refine lv_aload_n hx hb dX12_drawn_76 rfl (lv_at hl 5 rfl) ?_
                        refine g_get (C := RX12) (T := TX12) (N := 29) (ci := 12) (v := .ref a1) FC hKn hP i_X12 2 rfl rfl 1 (by decide) b_801 rfl dX12_drawn_77 ?_
                        refine lv_iconst (v := 2) hx hb dX12_drawn_80 (by decide) ?_
                        refine va_iald hx hb hKn.1 hP 3 0 rfl rfl (by unfold vp_in; decide) dX12_drawn_81 ?_
                        have kc2 : (2 : Int32).toInt = 2 := by decide
                        refine lv_topi (fun z262 e_z262 => ?_)
                        have t_z262 : 0 ≤ z262.toInt ∧ z262.toInt ≤ 10 := by rw [e_z262]; exact wk_2 i_mworld.1
                        have q_z262 : z262.toInt = (mworld 2).toInt := by rw [e_z262]; rfl
                        refine lv_icmp_ge (tgt := 162) hx hb dX12_drawn_82 (by decide) (fun c263 => ?_) (fun c263 => ?_)
                        · have c263 := k_le (a := z262.toInt) (b := x255.toInt) rfl rfl c263
                          refine lv_iload hx hb dX12_drawn_162 (lv_at hl 1 rfl) ?_
                          exact rt_i FX ((fun k => match k with | 0 => x256 | _ => 0), (fun _ => fun _ => 0), (fun _ => fun _ => 0)) rfl trivial (hP.sub [2, 3, 0, 1] rfl) (hD.sub [2, 3, 0, 1] (by decide) rfl) hS (Nat.le_of_ble_eq_true rfl) (Nat.le_of_ble_eq_true rfl) dX12_drawn_164
                        · have c263 := k_nle (a := z262.toInt) (b := x255.toInt) rfl rfl c263
                          refine lv_iload hx hb dX12_drawn_85 (lv_at hl 0 rfl) ?_
                          refine lv_iload hx hb dX12_drawn_87 (lv_at hl 3 rfl) ?_
                          refine lv_icmp_ne (tgt := 107) hx hb dX12_drawn_89 (by decide) (fun c264 => ?_) (fun c264 => ?_)
                          · have c264 := k_ne (a := x255.toInt) (b := (u36.1 0).toInt) rfl rfl c264
                            refine lv_iload hx hb dX12_drawn_107 (lv_at hl 0 rfl) ?_
                            refine lv_aload_n hx hb dX12_drawn_109 rfl (lv_at hl 5 rfl) ?_
                            refine g_get (C := RX12) (T := TX12) (N := 29) (ci := 12) (v := .ref a25) FC hKn hP i_X12 2 rfl rfl 25 (by decide) b_934 rfl dX12_drawn_110 ?_
                            refine lv_iload_n hx hb dX12_drawn_113 rfl (lv_at hl 7 rfl) ?_
                            refine va_iald hx hb hKn.1 hP 1 0 rfl rfl (vp_in_iff.mpr ⟨by omega, by omega⟩) dX12_drawn_114 ?_
                            refine lv_topi (fun z265 e_z265 => ?_)
                            have t_z265 : -1 ≤ z265.toInt ∧ z265.toInt ≤ 60 := by rw [e_z265]; exact i_mmany _ (clt (by omega) (by omega))
                            have w_z265 : 0 ≤ z265.toInt ∧ z265.toInt ≤ 10 := by rw [e_z265]; exact hw33.2.1
                            have q_z265 : z265.toInt = (mmany p2.toNatClampNeg).toInt := by rw [e_z265]
                            refine lv_icmp_ge (tgt := 128) hx hb dX12_drawn_115 (by decide) (fun c266 => ?_) (fun c266 => ?_)
                            · have c266 := k_le (a := z265.toInt) (b := x255.toInt) rfl rfl c266
                              refine lv_bipush (v := 8) hx hb dX12_drawn_128 (by decide) ?_
                              refine lv_istore (lv' := [(10, .int 8), (9, .int x255), (8, .int x256), (7, .int x257), (6, .int (u36.1 0)), (5, .int (u29.1 0)), (0, .ref h0), (1, .int p1), (2, .int p2), (3, .int p3), (4, .int p4)]) hx hb dX12_drawn_130 hl (by decide) rfl (fun ls hl => ?_)
                              refine lv_iload hx hb dX12_drawn_132 (lv_at hl 2 rfl) ?_
                              refine lv_aload_n hx hb dX12_drawn_134 rfl (lv_at hl 6 rfl) ?_
                              refine lv_iload_n hx hb dX12_drawn_135 rfl (lv_at hl 9 rfl) ?_
                              refine lv_iload hx hb dX12_drawn_136 (lv_at hl 3 rfl) ?_
                              refine lv_iload hx hb dX12_drawn_138 (lv_at hl 0 rfl) ?_
                              have kc8 : (8 : Int32).toInt = 8 := by decide
                              refine call_V (As := [.int p3, .int x257, .int 8]) (rest := [.int x256]) (wr := [(a27, .inl (g.2 3, 240, .inr (.inl mnumbers))), (a25, .inl (g.2 0, 4, .inl mmany))]) FC hKn hZ (k_X12_hurtOf l g h0 a1 a2 a3 a4 a6 a14 a15 a19 a20 a23 a24 a25 a26 a27 a28 mthrown mtaped msize mat mfrom mtoken mvalue mfaultKind mfaultPlace mgoal mgoalDays mgoalHearer mleastOrder mwordsMany mworld p3 x257 ((8 : Int32)) (by omega) (by omega) (by omega) (by omega) (by omega) (by omega) (by omega) (by omega) i_mworld (by omega) (by omega) (by omega) (by omega)) m_yX12_hurtOf b_894 (ci := 12) rfl rfl rfl hP hD hS hA [2, 3] [0, 1] rfl (by decide) rfl (by decide) (by decide) rfl hl.1 rfl (Nat.le_of_ble_eq_true rfl) dX12_drawn_140 ⟨(Nat.le_of_ble_eq_true rfl), (Nat.le_of_ble_eq_true rfl)⟩ ⟨(Nat.le_of_ble_eq_true rfl), (Nat.le_of_ble_eq_true rfl)⟩ (fun u267 H locs q268 hP hD hS => ?_)
                              have hP : va_P g.1 vwCl [(a27, .inl (g.2 3, 240, .inr (.inl mnumbers))), (a25, .inl (g.2 0, 4, .inl mmany)), (h0, .inr (12, [.int mthrown, .ref a1, .ref a2, .ref a3, .ref a4, .int mtaped, .ref a6, .int msize, .int mat, .int mfrom, .int mtoken, .int mvalue, .int mfaultKind, .int mfaultPlace, .ref a14, .ref a15, .int mgoal, .int mgoalDays, .int mgoalHearer, .ref a19, .ref a20, .int mleastOrder, .int mwordsMany, .ref a23, .ref a24, .ref a25, .ref a26, .ref a27, .ref a28])), (a1, .inl (g.2 0, 225, .inl mworld))] H := hP
                              have hD : va_D A [(a27, .inl (g.2 3, 240, .inr (.inl mnumbers))), (a25, .inl (g.2 0, 4, .inl mmany)), (h0, .inr (12, [.int mthrown, .ref a1, .ref a2, .ref a3, .ref a4, .int mtaped, .ref a6, .int msize, .int mat, .int mfrom, .int mtoken, .int mvalue, .int mfaultKind, .int mfaultPlace, .ref a14, .ref a15, .int mgoal, .int mgoalDays, .int mgoalHearer, .ref a19, .ref a20, .int mleastOrder, .int mwordsMany, .ref a23, .ref a24, .ref a25, .ref a26, .ref a27, .ref a28])), (a1, .inl (g.2 0, 225, .inl mworld))] := hD
                              refine W.eq (g2 := F0 m 143 ls [.int (u267.1 0), .int x256]) rfl ?_
                              refine lv_iadd hx hb dX12_drawn_143 ?_
                              refine lv_topi (fun z269 e_z269 => ?_)
                              refine lv_istore (lv' := [(8, .int z269), (10, .int 8), (9, .int x255), (7, .int x257), (6, .int (u36.1 0)), (5, .int (u29.1 0)), (0, .ref h0), (1, .int p1), (2, .int p2), (3, .int p3), (4, .int p4)]) hx hb dX12_drawn_144 hl (by decide) rfl (fun ls hl => ?_)
                              refine lv_aload_n hx hb dX12_drawn_146 rfl (lv_at hl 6 rfl) ?_
                              refine lv_iload hx hb dX12_drawn_147 (lv_at hl 3 rfl) ?_
                              refine lv_iload hx hb dX12_drawn_149 (lv_at hl 1 rfl) ?_
                              refine call_V (As := [.int x257, .int 8]) (rest := []) (wr := [(a27, .inl (g.2 3, 240, .inr (.inl mnumbers))), (a25, .inl (g.2 0, 4, .inl mmany))]) FC hKn hZ (k_X12_behindOf l g h0 a1 a2 a3 a4 a6 a14 a15 a19 a20 a23 a24 a25 a26 a27 a28 mthrown mtaped msize mat mfrom mtoken mvalue mfaultKind mfaultPlace mgoal mgoalDays mgoalHearer mleastOrder mwordsMany mworld x257 ((8 : Int32)) (by omega) (by omega) (by omega) (by omega) (by omega) (by omega) (by omega) (by omega) i_mworld (by omega) (by omega) (by omega)) m_yX12_behindOf b_854 (ci := 12) rfl rfl rfl hP hD hS hA [2, 3] [0, 1] rfl (by decide) rfl (by decide) (by decide) rfl hl.1 rfl (Nat.le_of_ble_eq_true rfl) dX12_drawn_151 ⟨(Nat.le_of_ble_eq_true rfl), (Nat.le_of_ble_eq_true rfl)⟩ ⟨(Nat.le_of_ble_eq_true rfl), (Nat.le_of_ble_eq_true rfl)⟩ (fun u270 H locs q271 hP hD hS => ?_)
                              have q271_0 : 1 ≤ (u270.1 0).toInt ∧ (u270.1 0).toInt ≤ 255 := q271
                              have hP : va_P g.1 vwCl [(a27, .inl (g.2 3, 240, .inr (.inl mnumbers))), (a25, .inl (g.2 0, 4, .inl mmany)), (h0, .inr (12, [.int mthrown, .ref a1, .ref a2, .ref a3, .ref a4, .int mtaped, .ref a6, .int msize, .int mat, .int mfrom, .int mtoken, .int mvalue, .int mfaultKind, .int mfaultPlace, .ref a14, .ref a15, .int mgoal, .int mgoalDays, .int mgoalHearer, .ref a19, .ref a20, .int mleastOrder, .int mwordsMany, .ref a23, .ref a24, .ref a25, .ref a26, .ref a27, .ref a28])), (a1, .inl (g.2 0, 225, .inl mworld))] H := hP
                              have hD : va_D A [(a27, .inl (g.2 3, 240, .inr (.inl mnumbers))), (a25, .inl (g.2 0, 4, .inl mmany)), (h0, .inr (12, [.int mthrown, .ref a1, .ref a2, .ref a3, .ref a4, .int mtaped, .ref a6, .int msize, .int mat, .int mfrom, .int mtoken, .int mvalue, .int mfaultKind, .int mfaultPlace, .ref a14, .ref a15, .int mgoal, .int mgoalDays, .int mgoalHearer, .ref a19, .ref a20, .int mleastOrder, .int mwordsMany, .ref a23, .ref a24, .ref a25, .ref a26, .ref a27, .ref a28])), (a1, .inl (g.2 0, 225, .inl mworld))] := hD
                              refine W.eq (g2 := F0 m 154 ls [.int (u270.1 0)]) rfl ?_
                              refine lv_istore (lv' := [(7, .int (u270.1 0)), (8, .int z269), (10, .int 8), (9, .int x255), (6, .int (u36.1 0)), (5, .int (u29.1 0)), (0, .ref h0), (1, .int p1), (2, .int p2), (3, .int p3), (4, .int p4)]) hx hb dX12_drawn_154 hl (by decide) rfl (fun ls hl => ?_)
                              obtain ⟨z272, e_z272⟩ : ∃ y : Int32, y = x255 + 1 := ⟨_, rfl⟩
                              have t_z272 : z272.toInt = x255.toInt + 1 := by rw [e_z272]; exact addk (by decide) (by omega) (by omega)
                              refine lv_iinc (v := z272) (lv' := [(9, .int z272), (7, .int (u270.1 0)), (8, .int z269), (10, .int 8), (6, .int (u36.1 0)), (5, .int (u29.1 0)), (0, .ref h0), (1, .int p1), (2, .int p2), (3, .int p3), (4, .int p4)]) hx hb dX12_drawn_156 hl (k := 3) rfl (by rw [e_z272]; rfl) (by decide) rfl (fun ls hl => ?_)
                              refine lv_goto (tgt := 74) hx hb dX12_drawn_159 (by decide) ?_
                              exact ih259 z272 z269 (u270.1 0) _ _ ls (by omega) (by omega) (by omega) hP hD hS (lv_sub hl [0, 2, 1, 4, 5, 6, 7, 8, 9, 10] rfl)
                            · have c266 := k_nle (a := z265.toInt) (b := x255.toInt) rfl rfl c266
                              refine lv_aload_n hx hb dX12_drawn_118 rfl (lv_at hl 5 rfl) ?_
                              refine lv_iload_n hx hb dX12_drawn_119 rfl (lv_at hl 7 rfl) ?_
                              refine lv_iload hx hb dX12_drawn_120 (lv_at hl 0 rfl) ?_
                              refine call_V (As := [.int p2, .int x255]) (rest := []) (wr := []) FC hKn hZ (k_X12_toldAt l g h0 a1 a2 a3 a4 a6 a14 a15 a19 a20 a23 a24 a25 a26 a27 a28 mthrown mtaped msize mat mfrom mtoken mvalue mfaultKind mfaultPlace mgoal mgoalDays mgoalHearer mleastOrder mwordsMany mworld mnumbers mmany p2 x255 (by omega) (by omega) (by omega) (by omega) (by omega) (by omega) (by omega) (by omega) i_mworld i_mmany (by assumption) (by omega) (by omega)) m_yX12_toldAt b_941 (ci := 12) rfl rfl rfl hP hD hS hA [2, 3, 0, 1] [] rfl (by decide) rfl (by decide) (by decide) rfl hl.1 rfl (Nat.le_of_ble_eq_true rfl) dX12_drawn_122 ⟨(Nat.le_of_ble_eq_true rfl), (Nat.le_of_ble_eq_true rfl)⟩ ⟨(Nat.le_of_ble_eq_true rfl), (Nat.le_of_ble_eq_true rfl)⟩ (fun u273 H locs q274 hP hD hS => ?_)
                              obtain ⟨q274_0, q274_1, q274_2⟩ := q274
                              have hP : va_P g.1 vwCl [(h0, .inr (12, [.int mthrown, .ref a1, .ref a2, .ref a3, .ref a4, .int mtaped, .ref a6, .int msize, .int mat, .int mfrom, .int mtoken, .int mvalue, .int mfaultKind, .int mfaultPlace, .ref a14, .ref a15, .int mgoal, .int mgoalDays, .int mgoalHearer, .ref a19, .ref a20, .int mleastOrder, .int mwordsMany, .ref a23, .ref a24, .ref a25, .ref a26, .ref a27, .ref a28])), (a1, .inl (g.2 0, 225, .inl mworld)), (a27, .inl (g.2 3, 240, .inr (.inl mnumbers))), (a25, .inl (g.2 0, 4, .inl mmany))] H := hP
                              have hD : va_D A [(h0, .inr (12, [.int mthrown, .ref a1, .ref a2, .ref a3, .ref a4, .int mtaped, .ref a6, .int msize, .int mat, .int mfrom, .int mtoken, .int mvalue, .int mfaultKind, .int mfaultPlace, .ref a14, .ref a15, .int mgoal, .int mgoalDays, .int mgoalHearer, .ref a19, .ref a20, .int mleastOrder, .int mwordsMany, .ref a23, .ref a24, .ref a25, .ref a26, .ref a27, .ref a28])), (a1, .inl (g.2 0, 225, .inl mworld)), (a27, .inl (g.2 3, 240, .inr (.inl mnumbers))), (a25, .inl (g.2 0, 4, .inl mmany))] := hD
                              refine W.eq (g2 := F0 m 125 ls [.int (u273.1 0)]) rfl ?_
                              rw [q274_1] at q274_0
                              rw [q274_1] at q274_2
                              refine tp_i (v := tdF mnumbers p2 x255) q274_1 ?_
                              refine lv_goto (tgt := 130) hx hb dX12_drawn_125 (by decide) ?_
                              refine lv_istore (lv' := [(10, .int (tdF mnumbers p2 x255)), (9, .int x255), (8, .int x256), (7, .int x257), (6, .int (u36.1 0)), (5, .int (u29.1 0)), (0, .ref h0), (1, .int p1), (2, .int p2), (3, .int p3), (4, .int p4)]) hx hb dX12_drawn_130 hl (by decide) rfl (fun ls hl => ?_)
                              refine lv_iload hx hb dX12_drawn_132 (lv_at hl 2 rfl) ?_
                              refine lv_aload_n hx hb dX12_drawn_134 rfl (lv_at hl 6 rfl) ?_
                              refine lv_iload_n hx hb dX12_drawn_135 rfl (lv_at hl 9 rfl) ?_
                              refine lv_iload hx hb dX12_drawn_136 (lv_at hl 3 rfl) ?_
                              refine lv_iload hx hb dX12_drawn_138 (lv_at hl 0 rfl) ?_
                              refine call_V (As := [.int p3, .int x257, .int (tdF mnumbers p2 x255)]) (rest := [.int x256]) (wr := [(a27, .inl (g.2 3, 240, .inr (.inl mnumbers))), (a25, .inl (g.2 0, 4, .inl mmany))]) FC hKn hZ (k_X12_hurtOf l g h0 a1 a2 a3 a4 a6 a14 a15 a19 a20 a23 a24 a25 a26 a27 a28 mthrown mtaped msize mat mfrom mtoken mvalue mfaultKind mfaultPlace mgoal mgoalDays mgoalHearer mleastOrder mwordsMany mworld p3 x257 (tdF mnumbers p2 x255) (by omega) (by omega) (by omega) (by omega) (by omega) (by omega) (by omega) (by omega) i_mworld (by omega) (by omega) (by omega) (by omega)) m_yX12_hurtOf b_894 (ci := 12) rfl rfl rfl hP hD hS hA [0, 1] [2, 3] rfl (by decide) rfl (by decide) (by decide) rfl hl.1 rfl (Nat.le_of_ble_eq_true rfl) dX12_drawn_140 ⟨(Nat.le_of_ble_eq_true rfl), (Nat.le_of_ble_eq_true rfl)⟩ ⟨(Nat.le_of_ble_eq_true rfl), (Nat.le_of_ble_eq_true rfl)⟩ (fun u275 H locs q276 hP hD hS => ?_)
                              have hP : va_P g.1 vwCl [(a27, .inl (g.2 3, 240, .inr (.inl mnumbers))), (a25, .inl (g.2 0, 4, .inl mmany)), (h0, .inr (12, [.int mthrown, .ref a1, .ref a2, .ref a3, .ref a4, .int mtaped, .ref a6, .int msize, .int mat, .int mfrom, .int mtoken, .int mvalue, .int mfaultKind, .int mfaultPlace, .ref a14, .ref a15, .int mgoal, .int mgoalDays, .int mgoalHearer, .ref a19, .ref a20, .int mleastOrder, .int mwordsMany, .ref a23, .ref a24, .ref a25, .ref a26, .ref a27, .ref a28])), (a1, .inl (g.2 0, 225, .inl mworld))] H := hP
                              have hD : va_D A [(a27, .inl (g.2 3, 240, .inr (.inl mnumbers))), (a25, .inl (g.2 0, 4, .inl mmany)), (h0, .inr (12, [.int mthrown, .ref a1, .ref a2, .ref a3, .ref a4, .int mtaped, .ref a6, .int msize, .int mat, .int mfrom, .int mtoken, .int mvalue, .int mfaultKind, .int mfaultPlace, .ref a14, .ref a15, .int mgoal, .int mgoalDays, .int mgoalHearer, .ref a19, .ref a20, .int mleastOrder, .int mwordsMany, .ref a23, .ref a24, .ref a25, .ref a26, .ref a27, .ref a28])), (a1, .inl (g.2 0, 225, .inl mworld))] := hD
                              refine W.eq (g2 := F0 m 143 ls [.int (u275.1 0), .int x256]) rfl ?_
                              refine lv_iadd hx hb dX12_drawn_143 ?_
                              refine lv_topi (fun z277 e_z277 => ?_)
                              refine lv_istore (lv' := [(8, .int z277), (10, .int (tdF mnumbers p2 x255)), (9, .int x255), (7, .int x257), (6, .int (u36.1 0)), (5, .int (u29.1 0)), (0, .ref h0), (1, .int p1), (2, .int p2), (3, .int p3), (4, .int p4)]) hx hb dX12_drawn_144 hl (by decide) rfl (fun ls hl => ?_)
                              refine lv_aload_n hx hb dX12_drawn_146 rfl (lv_at hl 6 rfl) ?_
                              refine lv_iload hx hb dX12_drawn_147 (lv_at hl 3 rfl) ?_
                              refine lv_iload hx hb dX12_drawn_149 (lv_at hl 1 rfl) ?_
                              refine call_V (As := [.int x257, .int (tdF mnumbers p2 x255)]) (rest := []) (wr := [(a27, .inl (g.2 3, 240, .inr (.inl mnumbers))), (a25, .inl (g.2 0, 4, .inl mmany))]) FC hKn hZ (k_X12_behindOf l g h0 a1 a2 a3 a4 a6 a14 a15 a19 a20 a23 a24 a25 a26 a27 a28 mthrown mtaped msize mat mfrom mtoken mvalue mfaultKind mfaultPlace mgoal mgoalDays mgoalHearer mleastOrder mwordsMany mworld x257 (tdF mnumbers p2 x255) (by omega) (by omega) (by omega) (by omega) (by omega) (by omega) (by omega) (by omega) i_mworld (by omega) (by omega) (by omega)) m_yX12_behindOf b_854 (ci := 12) rfl rfl rfl hP hD hS hA [2, 3] [0, 1] rfl (by decide) rfl (by decide) (by decide) rfl hl.1 rfl (Nat.le_of_ble_eq_true rfl) dX12_drawn_151 ⟨(Nat.le_of_ble_eq_true rfl), (Nat.le_of_ble_eq_true rfl)⟩ ⟨(Nat.le_of_ble_eq_true rfl), (Nat.le_of_ble_eq_true rfl)⟩ (fun u278 H locs q279 hP hD hS => ?_)
                              have q279_0 : 1 ≤ (u278.1 0).toInt ∧ (u278.1 0).toInt ≤ 255 := q279
                              have hP : va_P g.1 vwCl [(a27, .inl (g.2 3, 240, .inr (.inl mnumbers))), (a25, .inl (g.2 0, 4, .inl mmany)), (h0, .inr (12, [.int mthrown, .ref a1, .ref a2, .ref a3, .ref a4, .int mtaped, .ref a6, .int msize, .int mat, .int mfrom, .int mtoken, .int mvalue, .int mfaultKind, .int mfaultPlace, .ref a14, .ref a15, .int mgoal, .int mgoalDays, .int mgoalHearer, .ref a19, .ref a20, .int mleastOrder, .int mwordsMany, .ref a23, .ref a24, .ref a25, .ref a26, .ref a27, .ref a28])), (a1, .inl (g.2 0, 225, .inl mworld))] H := hP
                              have hD : va_D A [(a27, .inl (g.2 3, 240, .inr (.inl mnumbers))), (a25, .inl (g.2 0, 4, .inl mmany)), (h0, .inr (12, [.int mthrown, .ref a1, .ref a2, .ref a3, .ref a4, .int mtaped, .ref a6, .int msize, .int mat, .int mfrom, .int mtoken, .int mvalue, .int mfaultKind, .int mfaultPlace, .ref a14, .ref a15, .int mgoal, .int mgoalDays, .int mgoalHearer, .ref a19, .ref a20, .int mleastOrder, .int mwordsMany, .ref a23, .ref a24, .ref a25, .ref a26, .ref a27, .ref a28])), (a1, .inl (g.2 0, 225, .inl mworld))] := hD
                              refine W.eq (g2 := F0 m 154 ls [.int (u278.1 0)]) rfl ?_
                              refine lv_istore (lv' := [(7, .int (u278.1 0)), (8, .int z277), (10, .int (tdF mnumbers p2 x255)), (9, .int x255), (6, .int (u36.1 0)), (5, .int (u29.1 0)), (0, .ref h0), (1, .int p1), (2, .int p2), (3, .int p3), (4, .int p4)]) hx hb dX12_drawn_154 hl (by decide) rfl (fun ls hl => ?_)
                              obtain ⟨z280, e_z280⟩ : ∃ y : Int32, y = x255 + 1 := ⟨_, rfl⟩
                              have t_z280 : z280.toInt = x255.toInt + 1 := by rw [e_z280]; exact addk (by decide) (by omega) (by omega)
                              refine lv_iinc (v := z280) (lv' := [(9, .int z280), (7, .int (u278.1 0)), (8, .int z277), (10, .int (tdF mnumbers p2 x255)), (6, .int (u36.1 0)), (5, .int (u29.1 0)), (0, .ref h0), (1, .int p1), (2, .int p2), (3, .int p3), (4, .int p4)]) hx hb dX12_drawn_156 hl (k := 3) rfl (by rw [e_z280]; rfl) (by decide) rfl (fun ls hl => ?_)
                              refine lv_goto (tgt := 74) hx hb dX12_drawn_159 (by decide) ?_
                              exact ih259 z280 z277 (u278.1 0) _ _ ls (by omega) (by omega) (by omega) hP hD hS (lv_sub hl [0, 2, 1, 4, 5, 6, 7, 8, 9, 10] rfl)
                          · have c264 := k_eq (a := x255.toInt) (b := (u36.1 0).toInt) rfl rfl c264
                            refine lv_iload hx hb dX12_drawn_92 (lv_at hl 1 rfl) ?_
                            refine lv_aload_n hx hb dX12_drawn_94 rfl (lv_at hl 5 rfl) ?_
                            refine lv_iload_n hx hb dX12_drawn_95 rfl (lv_at hl 8 rfl) ?_
                            refine lv_iload hx hb dX12_drawn_96 (lv_at hl 2 rfl) ?_
                            refine lv_aload_n hx hb dX12_drawn_98 rfl (lv_at hl 5 rfl) ?_
                            refine call_V (As := []) (rest := [.int x257, .int p3, .ref h0, .int x256]) (wr := [(a27, .inl (g.2 3, 240, .inr (.inl mnumbers))), (a25, .inl (g.2 0, 4, .inl mmany))]) FC hKn hZ (k_X12_reallySet l g h0 a1 a2 a3 a4 a6 a14 a15 a19 a20 a23 a24 a25 a26 a27 a28 mthrown mtaped msize mat mfrom mtoken mvalue mfaultKind mfaultPlace mgoal mgoalDays mgoalHearer mleastOrder mwordsMany mworld (by omega) (by omega) (by omega) (by omega) (by omega) (by omega) (by omega) (by omega) i_mworld) m_yX12_reallySet b_945 (ci := 12) rfl rfl rfl hP hD hS hA [2, 3] [0, 1] rfl (by decide) rfl (by decide) (by decide) rfl hl.1 rfl (Nat.le_of_ble_eq_true rfl) dX12_drawn_99 ⟨(Nat.le_of_ble_eq_true rfl), (Nat.le_of_ble_eq_true rfl)⟩ ⟨(Nat.le_of_ble_eq_true rfl), (Nat.le_of_ble_eq_true rfl)⟩ (fun u281 H locs q282 hP hD hS => ?_)
                            have q282_0 : 1 ≤ (u281.1 0).toInt ∧ (u281.1 0).toInt ≤ 128 := q282
                            have hP : va_P g.1 vwCl [(a27, .inl (g.2 3, 240, .inr (.inl mnumbers))), (a25, .inl (g.2 0, 4, .inl mmany)), (h0, .inr (12, [.int mthrown, .ref a1, .ref a2, .ref a3, .ref a4, .int mtaped, .ref a6, .int msize, .int mat, .int mfrom, .int mtoken, .int mvalue, .int mfaultKind, .int mfaultPlace, .ref a14, .ref a15, .int mgoal, .int mgoalDays, .int mgoalHearer, .ref a19, .ref a20, .int mleastOrder, .int mwordsMany, .ref a23, .ref a24, .ref a25, .ref a26, .ref a27, .ref a28])), (a1, .inl (g.2 0, 225, .inl mworld))] H := hP
                            have hD : va_D A [(a27, .inl (g.2 3, 240, .inr (.inl mnumbers))), (a25, .inl (g.2 0, 4, .inl mmany)), (h0, .inr (12, [.int mthrown, .ref a1, .ref a2, .ref a3, .ref a4, .int mtaped, .ref a6, .int msize, .int mat, .int mfrom, .int mtoken, .int mvalue, .int mfaultKind, .int mfaultPlace, .ref a14, .ref a15, .int mgoal, .int mgoalDays, .int mgoalHearer, .ref a19, .ref a20, .int mleastOrder, .int mwordsMany, .ref a23, .ref a24, .ref a25, .ref a26, .ref a27, .ref a28])), (a1, .inl (g.2 0, 225, .inl mworld))] := hD
                            refine W.eq (g2 := F0 m 102 ls [.int (u281.1 0), .int x257, .int p3, .ref h0, .int x256]) rfl ?_
                            refine call_V (As := [.int p3, .int x257, .int (u281.1 0)]) (rest := [.int x256]) (wr := [(a27, .inl (g.2 3, 240, .inr (.inl mnumbers))), (a25, .inl (g.2 0, 4, .inl mmany))]) FC hKn hZ (k_X12_rise l g h0 a1 a2 a3 a4 a6 a14 a15 a19 a20 a23 a24 a25 a26 a27 a28 mthrown mtaped msize mat mfrom mtoken mvalue mfaultKind mfaultPlace mgoal mgoalDays mgoalHearer mleastOrder mwordsMany mworld p3 x257 (u281.1 0) (by omega) (by omega) (by omega) (by omega) (by omega) (by omega) (by omega) (by omega) i_mworld (by omega) (by omega) (by omega)) m_yX12_rise b_855 (ci := 12) rfl rfl rfl hP hD hS hA [2, 3] [0, 1] rfl (by decide) rfl (by decide) (by decide) rfl hl.1 rfl (Nat.le_of_ble_eq_true rfl) dX12_drawn_102 ⟨(Nat.le_of_ble_eq_true rfl), (Nat.le_of_ble_eq_true rfl)⟩ ⟨(Nat.le_of_ble_eq_true rfl), (Nat.le_of_ble_eq_true rfl)⟩ (fun u283 H locs q284 hP hD hS => ?_)
                            have hP : va_P g.1 vwCl [(a27, .inl (g.2 3, 240, .inr (.inl mnumbers))), (a25, .inl (g.2 0, 4, .inl mmany)), (h0, .inr (12, [.int mthrown, .ref a1, .ref a2, .ref a3, .ref a4, .int mtaped, .ref a6, .int msize, .int mat, .int mfrom, .int mtoken, .int mvalue, .int mfaultKind, .int mfaultPlace, .ref a14, .ref a15, .int mgoal, .int mgoalDays, .int mgoalHearer, .ref a19, .ref a20, .int mleastOrder, .int mwordsMany, .ref a23, .ref a24, .ref a25, .ref a26, .ref a27, .ref a28])), (a1, .inl (g.2 0, 225, .inl mworld))] H := hP
                            have hD : va_D A [(a27, .inl (g.2 3, 240, .inr (.inl mnumbers))), (a25, .inl (g.2 0, 4, .inl mmany)), (h0, .inr (12, [.int mthrown, .ref a1, .ref a2, .ref a3, .ref a4, .int mtaped, .ref a6, .int msize, .int mat, .int mfrom, .int mtoken, .int mvalue, .int mfaultKind, .int mfaultPlace, .ref a14, .ref a15, .int mgoal, .int mgoalDays, .int mgoalHearer, .ref a19, .ref a20, .int mleastOrder, .int mwordsMany, .ref a23, .ref a24, .ref a25, .ref a26, .ref a27, .ref a28])), (a1, .inl (g.2 0, 225, .inl mworld))] := hD
                            refine W.eq (g2 := F0 m 105 ls [.int (u283.1 0), .int x256]) rfl ?_
                            refine lv_iadd hx hb dX12_drawn_105 ?_
                            refine lv_topi (fun z285 e_z285 => ?_)
                            exact rt_i FX ((fun k => match k with | 0 => z285 | _ => 0), (fun _ => fun _ => 0), (fun _ => fun _ => 0)) rfl trivial (hP.sub [2, 3, 0, 1] rfl) (hD.sub [2, 3, 0, 1] (by decide) rfl) hS (Nat.le_of_ble_eq_true rfl) (Nat.le_of_ble_eq_true rfl) dX12_drawn_106
                    have kc0 : (0 : Int32).toInt = 0 := by decide
                    exact lp258 _ (0 : Int32) (0 : Int32) (asF mworld) _ _ ls (by decide) (by omega) (Nat.lt_succ_self _) hP hD hS (lv_sub hl [0, 1, 2, 3, 4, 5, 6, 7, 8, 9] rfl)
                  · have c38 := k_eq (a := p4.toInt) (b := 0) rfl (by decide) c38
                    refine lv_iload hx hb dX12_drawn_59 (lv_at hl 0 rfl) ?_
                    exact rt_i FX ((fun k => match k with | 0 => u36.1 0 | _ => 0), (fun _ => fun _ => 0), (fun _ => fun _ => 0)) rfl trivial (hP.sub [2, 3, 0, 1] rfl) (hD.sub [2, 3, 0, 1] (by decide) rfl) hS (Nat.le_of_ble_eq_true rfl) (Nat.le_of_ble_eq_true rfl) dX12_drawn_61
                · have c34 := k_nle (a := 0) (b := (u29.1 0).toInt) (by decide) rfl c34
                  exfalso; omega
set_option maxRecDepth 100000 in
set_option maxHeartbeats 4000000 in
theorem k_X12_leaks (l : Launch) (g : GG) (h0 : Nat) (a1 : Nat) (a2 : Nat) (a3 : Nat) (a4 : Nat) (a6 : Nat) (a14 : Nat) (a15 : Nat) (a19 : Nat) (a20 : Nat) (a23 : Nat) (a24 : Nat) (a25 : Nat) (a26 : Nat) (a27 : Nat) (a28 : Nat) (mthrown : Int32) (mtaped : Int32) (msize : Int32) (mat : Int32) (mfrom : Int32) (mtoken : Int32) (mvalue : Int32) (mfaultKind : Int32) (mfaultPlace : Int32) (mgoal : Int32) (mgoalDays : Int32) (mgoalHearer : Int32) (mleastOrder : Int32) (mwordsMany : Int32) (mworld : Nat → Int32) (p1 : Int32) (p2 : Int32) (i_mtaped : 0 ≤ mtaped.toInt ∧ mtaped.toInt ≤ 900) (i_msize : 0 ≤ msize.toInt ∧ msize.toInt ≤ 900) (i_mat : 0 ≤ mat.toInt ∧ mat.toInt ≤ 900) (i_mfrom : 0 ≤ mfrom.toInt ∧ mfrom.toInt ≤ 900) (i_mtoken : 0 ≤ mtoken.toInt ∧ mtoken.toInt ≤ 4) (i_mvalue : 0 ≤ mvalue.toInt ∧ mvalue.toInt ≤ 99999) (i_mgoalHearer : 0 ≤ mgoalHearer.toInt ∧ mgoalHearer.toInt ≤ 3) (i_mwordsMany : 0 ≤ mwordsMany.toInt ∧ mwordsMany.toInt ≤ 10) (i_mworld : wod mworld) : Ct l g yX12_leaks cX12_leaks 5 (some .int) { frames := 2, cells := 0, slots := 0, locals := 45 } [.ref h0, .int p1, .int p2] [(h0, .inr (12, [.int mthrown, .ref a1, .ref a2, .ref a3, .ref a4, .int mtaped, .ref a6, .int msize, .int mat, .int mfrom, .int mtoken, .int mvalue, .int mfaultKind, .int mfaultPlace, .ref a14, .ref a15, .int mgoal, .int mgoalDays, .int mgoalHearer, .ref a19, .ref a20, .int mleastOrder, .int mwordsMany, .ref a23, .ref a24, .ref a25, .ref a26, .ref a27, .ref a28])), (a1, .inl (g.2 0, 225, .inl mworld))] (S := (Nat → Int32) × (Nat → Nat → Int32) × (Nat → Nat → Int64)) (fun u => some (.int (u.1 0))) (fun u => True) (fun u => [(h0, .inr (12, [.int mthrown, .ref a1, .ref a2, .ref a3, .ref a4, .int mtaped, .ref a6, .int msize, .int mat, .int mfrom, .int mtoken, .int mvalue, .int mfaultKind, .int mfaultPlace, .ref a14, .ref a15, .int mgoal, .int mgoalDays, .int mgoalHearer, .ref a19, .ref a20, .int mleastOrder, .int mwordsMany, .ref a23, .ref a24, .ref a25, .ref a26, .ref a27, .ref a28])), (a1, .inl (g.2 0, 225, .inl mworld))]) := by
  refine Ct.of (by decide) (Nat.le_of_ble_eq_true rfl) ?_
  intro p e s m below meth c A ls FX hP hD hS hl
  obtain ⟨FC, hr, hlk, hKn, hA, hnm, hZ⟩ := id FX
  have FC : CallFix p m c cX12_leaks 5 s _ BIG RX12 := FC
  obtain ⟨hx, hb, hml, hown, hB⟩ := id FC
  have hl : lv_has ls 5 [(0, .ref h0), (1, .int p1), (2, .int p2)] := hl
  refine lv_aload_n hx hb dX12_leaks_0 rfl (lv_at hl 0 rfl) ?_
  refine call_V (As := []) (rest := []) (wr := []) FC hKn hZ (k_X12_isDesk l g h0 a1 a2 a3 a4 a6 a14 a15 a19 a20 a23 a24 a25 a26 a27 a28 mthrown mtaped msize mat mfrom mtoken mvalue mfaultKind mfaultPlace mgoal mgoalDays mgoalHearer mleastOrder mwordsMany mworld (by omega) (by omega) (by omega) (by omega) (by omega) (by omega) (by omega) (by omega) i_mworld) m_yX12_isDesk b_805 (ci := 12) rfl rfl rfl hP hD hS hA [0, 1] [] rfl (by decide) rfl (by decide) (by decide) rfl hl.1 rfl (Nat.le_of_ble_eq_true rfl) dX12_leaks_1 ⟨(Nat.le_of_ble_eq_true rfl), (Nat.le_of_ble_eq_true rfl)⟩ ⟨(Nat.le_of_ble_eq_true rfl), (Nat.le_of_ble_eq_true rfl)⟩ (fun u1 H locs q2 hP hD hS => ?_)
  obtain ⟨q2_0, q2_1⟩ := q2
  have hP : va_P g.1 vwCl [(h0, .inr (12, [.int mthrown, .ref a1, .ref a2, .ref a3, .ref a4, .int mtaped, .ref a6, .int msize, .int mat, .int mfrom, .int mtoken, .int mvalue, .int mfaultKind, .int mfaultPlace, .ref a14, .ref a15, .int mgoal, .int mgoalDays, .int mgoalHearer, .ref a19, .ref a20, .int mleastOrder, .int mwordsMany, .ref a23, .ref a24, .ref a25, .ref a26, .ref a27, .ref a28])), (a1, .inl (g.2 0, 225, .inl mworld))] H := hP
  have hD : va_D A [(h0, .inr (12, [.int mthrown, .ref a1, .ref a2, .ref a3, .ref a4, .int mtaped, .ref a6, .int msize, .int mat, .int mfrom, .int mtoken, .int mvalue, .int mfaultKind, .int mfaultPlace, .ref a14, .ref a15, .int mgoal, .int mgoalDays, .int mgoalHearer, .ref a19, .ref a20, .int mleastOrder, .int mwordsMany, .ref a23, .ref a24, .ref a25, .ref a26, .ref a27, .ref a28])), (a1, .inl (g.2 0, 225, .inl mworld))] := hD
  refine W.eq (g2 := F0 m 4 ls [.int (u1.1 0)]) rfl ?_
  rcases (show (u1.1 0).toInt = 0 ∨ (u1.1 0).toInt = 1 by omega) with c3 | c3
  · skip
    refine lv_if_eq (tgt := 26) hx hb dX12_leaks_4 (by decide) (fun c4 => ?_) (fun c4 => ?_)
    · have c4 := k_eq (a := (u1.1 0).toInt) (b := 0) rfl (by decide) c4
      refine lv_bipush (v := -2) hx hb dX12_leaks_26 (by decide) ?_
      exact rt_i FX ((fun k => match k with | 0 => (-2 : Int32) | _ => 0), (fun _ => fun _ => 0), (fun _ => fun _ => 0)) rfl trivial (hP.sub [0, 1] rfl) (hD.sub [0, 1] (by decide) rfl) hS (Nat.le_of_ble_eq_true rfl) (Nat.le_of_ble_eq_true rfl) dX12_leaks_28
    · have c4 := k_ne (a := (u1.1 0).toInt) (b := 0) rfl (by decide) c4
      exfalso; omega
  · have c3_r := q2_1 c3
    refine lv_if_eq (tgt := 26) hx hb dX12_leaks_4 (by decide) (fun c5 => ?_) (fun c5 => ?_)
    · have c5 := k_eq (a := (u1.1 0).toInt) (b := 0) rfl (by decide) c5
      exfalso; omega
    · have c5 := k_ne (a := (u1.1 0).toInt) (b := 0) rfl (by decide) c5
      refine lv_iload_n hx hb dX12_leaks_7 rfl (lv_at hl 1 rfl) ?_
      refine call_S (As := [.int p1]) (rest := []) (wr := [(h0, .inr (12, [.int mthrown, .ref a1, .ref a2, .ref a3, .ref a4, .int mtaped, .ref a6, .int msize, .int mat, .int mfrom, .int mtoken, .int mvalue, .int mfaultKind, .int mfaultPlace, .ref a14, .ref a15, .int mgoal, .int mgoalDays, .int mgoalHearer, .ref a19, .ref a20, .int mleastOrder, .int mwordsMany, .ref a23, .ref a24, .ref a25, .ref a26, .ref a27, .ref a28])), (a1, .inl (g.2 0, 225, .inl mworld))]) FC hKn hZ (k_X12_isSeed l g p1) m_yX12_isSeed b_1061 hP hD hS hA [] [0, 1] rfl (by decide) rfl (by decide) (by decide) rfl hl.1 rfl (Nat.le_of_ble_eq_true rfl) dX12_leaks_8 ⟨(Nat.le_of_ble_eq_true rfl), (Nat.le_of_ble_eq_true rfl)⟩ ⟨(Nat.le_of_ble_eq_true rfl), (Nat.le_of_ble_eq_true rfl)⟩ (fun u6 H locs q7 hP hD hS => ?_)
      obtain ⟨q7_0, q7_1⟩ := q7
      have hP : va_P g.1 vwCl [(h0, .inr (12, [.int mthrown, .ref a1, .ref a2, .ref a3, .ref a4, .int mtaped, .ref a6, .int msize, .int mat, .int mfrom, .int mtoken, .int mvalue, .int mfaultKind, .int mfaultPlace, .ref a14, .ref a15, .int mgoal, .int mgoalDays, .int mgoalHearer, .ref a19, .ref a20, .int mleastOrder, .int mwordsMany, .ref a23, .ref a24, .ref a25, .ref a26, .ref a27, .ref a28])), (a1, .inl (g.2 0, 225, .inl mworld))] H := hP
      have hD : va_D A [(h0, .inr (12, [.int mthrown, .ref a1, .ref a2, .ref a3, .ref a4, .int mtaped, .ref a6, .int msize, .int mat, .int mfrom, .int mtoken, .int mvalue, .int mfaultKind, .int mfaultPlace, .ref a14, .ref a15, .int mgoal, .int mgoalDays, .int mgoalHearer, .ref a19, .ref a20, .int mleastOrder, .int mwordsMany, .ref a23, .ref a24, .ref a25, .ref a26, .ref a27, .ref a28])), (a1, .inl (g.2 0, 225, .inl mworld))] := hD
      refine W.eq (g2 := F0 m 11 ls [.int (u6.1 0)]) rfl ?_
      rcases (show (u6.1 0).toInt = 0 ∨ (u6.1 0).toInt = 1 by omega) with c8 | c8
      · skip
        refine lv_if_eq (tgt := 26) hx hb dX12_leaks_11 (by decide) (fun c9 => ?_) (fun c9 => ?_)
        · have c9 := k_eq (a := (u6.1 0).toInt) (b := 0) rfl (by decide) c9
          refine lv_bipush (v := -2) hx hb dX12_leaks_26 (by decide) ?_
          exact rt_i FX ((fun k => match k with | 0 => (-2 : Int32) | _ => 0), (fun _ => fun _ => 0), (fun _ => fun _ => 0)) rfl trivial (hP.sub [0, 1] rfl) (hD.sub [0, 1] (by decide) rfl) hS (Nat.le_of_ble_eq_true rfl) (Nat.le_of_ble_eq_true rfl) dX12_leaks_28
        · have c9 := k_ne (a := (u6.1 0).toInt) (b := 0) rfl (by decide) c9
          exfalso; omega
      · have c8_r := q7_1 c8
        refine lv_if_eq (tgt := 26) hx hb dX12_leaks_11 (by decide) (fun c10 => ?_) (fun c10 => ?_)
        · have c10 := k_eq (a := (u6.1 0).toInt) (b := 0) rfl (by decide) c10
          exfalso; omega
        · have c10 := k_ne (a := (u6.1 0).toInt) (b := 0) rfl (by decide) c10
          refine lv_iload_n hx hb dX12_leaks_14 rfl (lv_at hl 2 rfl) ?_
          refine lv_i2l (v := p2.toInt64) hx hb dX12_leaks_15 rfl ?_
          refine lv_topl (fun z11 e_z11 => ?_)
          have t_z11 : z11.toInt = p2.toInt := by rw [e_z11]; exact Int32.toInt_toInt64 _
          refine lv_lconst (v := 1) hx hb dX12_leaks_16 (by decide) ?_
          refine lv_ldc2 hx hb hown (hB _ b_1063) dX12_leaks_17 ?_
          have kcl1 : (1 : Int64).toInt = 1 := by decide
          have kcl20 : (20 : Int64).toInt = 20 := by decide
          refine call_S (As := [.long z11, .long 1, .long 20]) (rest := []) (wr := [(h0, .inr (12, [.int mthrown, .ref a1, .ref a2, .ref a3, .ref a4, .int mtaped, .ref a6, .int msize, .int mat, .int mfrom, .int mtoken, .int mvalue, .int mfaultKind, .int mfaultPlace, .ref a14, .ref a15, .int mgoal, .int mgoalDays, .int mgoalHearer, .ref a19, .ref a20, .int mleastOrder, .int mwordsMany, .ref a23, .ref a24, .ref a25, .ref a26, .ref a27, .ref a28])), (a1, .inl (g.2 0, 225, .inl mworld))]) FC hKn hZ (k_X12_in l g z11 ((1 : Int64)) ((20 : Int64))) m_yX12_in b_802 hP hD hS hA [] [0, 1] rfl (by decide) rfl (by decide) (by decide) rfl hl.1 rfl (Nat.le_of_ble_eq_true rfl) dX12_leaks_20 ⟨(Nat.le_of_ble_eq_true rfl), (Nat.le_of_ble_eq_true rfl)⟩ ⟨(Nat.le_of_ble_eq_true rfl), (Nat.le_of_ble_eq_true rfl)⟩ (fun u12 H locs q13 hP hD hS => ?_)
          obtain ⟨q13_0, q13_1, q13_2⟩ := q13
          have hP : va_P g.1 vwCl [(h0, .inr (12, [.int mthrown, .ref a1, .ref a2, .ref a3, .ref a4, .int mtaped, .ref a6, .int msize, .int mat, .int mfrom, .int mtoken, .int mvalue, .int mfaultKind, .int mfaultPlace, .ref a14, .ref a15, .int mgoal, .int mgoalDays, .int mgoalHearer, .ref a19, .ref a20, .int mleastOrder, .int mwordsMany, .ref a23, .ref a24, .ref a25, .ref a26, .ref a27, .ref a28])), (a1, .inl (g.2 0, 225, .inl mworld))] H := hP
          have hD : va_D A [(h0, .inr (12, [.int mthrown, .ref a1, .ref a2, .ref a3, .ref a4, .int mtaped, .ref a6, .int msize, .int mat, .int mfrom, .int mtoken, .int mvalue, .int mfaultKind, .int mfaultPlace, .ref a14, .ref a15, .int mgoal, .int mgoalDays, .int mgoalHearer, .ref a19, .ref a20, .int mleastOrder, .int mwordsMany, .ref a23, .ref a24, .ref a25, .ref a26, .ref a27, .ref a28])), (a1, .inl (g.2 0, 225, .inl mworld))] := hD
          refine W.eq (g2 := F0 m 23 ls [.int (u12.1 0)]) rfl ?_
          rcases (show (u12.1 0).toInt = 0 ∨ (u12.1 0).toInt = 1 by omega) with c14 | c14
          · skip
            refine lv_if_ne (tgt := 29) hx hb dX12_leaks_23 (by decide) (fun c15 => ?_) (fun c15 => ?_)
            · have c15 := k_ne (a := (u12.1 0).toInt) (b := 0) rfl (by decide) c15
              exfalso; omega
            · have c15 := k_eq (a := (u12.1 0).toInt) (b := 0) rfl (by decide) c15
              refine lv_bipush (v := -2) hx hb dX12_leaks_26 (by decide) ?_
              exact rt_i FX ((fun k => match k with | 0 => (-2 : Int32) | _ => 0), (fun _ => fun _ => 0), (fun _ => fun _ => 0)) rfl trivial (hP.sub [0, 1] rfl) (hD.sub [0, 1] (by decide) rfl) hS (Nat.le_of_ble_eq_true rfl) (Nat.le_of_ble_eq_true rfl) dX12_leaks_28
          · have c14_r := q13_2 c14
            refine lv_if_ne (tgt := 29) hx hb dX12_leaks_23 (by decide) (fun c16 => ?_) (fun c16 => ?_)
            · have c16 := k_ne (a := (u12.1 0).toInt) (b := 0) rfl (by decide) c16
              refine lv_iconst (v := 0) hx hb dX12_leaks_29 (by decide) ?_
              refine lv_istore_n (lv' := [(3, .int 0), (0, .ref h0), (1, .int p1), (2, .int p2)]) hx hb dX12_leaks_30 rfl hl (by decide) rfl (fun ls hl => ?_)
              refine lv_iconst (v := 0) hx hb dX12_leaks_31 (by decide) ?_
              refine lv_istore (lv' := [(4, .int 0), (3, .int 0), (0, .ref h0), (1, .int p1), (2, .int p2)]) hx hb dX12_leaks_32 hl (by decide) rfl (fun ls hl => ?_)
              have lp148 : ∀ (n150 : Nat) (x146 : Int32) (x147 : Int32) (H : Heap) (locs : List Loc) (ls : Array Slot), 0 ≤ x146.toInt ∧ x146.toInt ≤ 20 → (20 - x146.toInt).toNat < n150 → va_P g.1 vwCl [(h0, .inr (12, [.int mthrown, .ref a1, .ref a2, .ref a3, .ref a4, .int mtaped, .ref a6, .int msize, .int mat, .int mfrom, .int mtoken, .int mvalue, .int mfaultKind, .int mfaultPlace, .ref a14, .ref a15, .int mgoal, .int mgoalDays, .int mgoalHearer, .ref a19, .ref a20, .int mleastOrder, .int mwordsMany, .ref a23, .ref a24, .ref a25, .ref a26, .ref a27, .ref a28])), (a1, .inl (g.2 0, 225, .inl mworld))] H → va_D A [(h0, .inr (12, [.int mthrown, .ref a1, .ref a2, .ref a3, .ref a4, .int mtaped, .ref a6, .int msize, .int mat, .int mfrom, .int mtoken, .int mvalue, .int mfaultKind, .int mfaultPlace, .ref a14, .ref a15, .int mgoal, .int mgoalDays, .int mgoalHearer, .ref a19, .ref a20, .int mleastOrder, .int mwordsMany, .ref a23, .ref a24, .ref a25, .ref a26, .ref a27, .ref a28])), (a1, .inl (g.2 0, 225, .inl mworld))] → va_S A s.heap H locs → lv_has ls 5 [(4, .int x146), (3, .int x147), (0, .ref h0), (1, .int p1), (2, .int p2)] → W p l e { frames := 2, cells := 0, slots := 0, locals := 45 } s m ([.ref h0, .int p1, .int p2].toArray) below meth c H locs 0 0 (MQ below (QX (S := (Nat → Int32) × (Nat → Nat → Int32) × (Nat → Nat → Int64)) (fun u => some (.int (u.1 0))) (fun u => True) g (fun u => [(h0, .inr (12, [.int mthrown, .ref a1, .ref a2, .ref a3, .ref a4, .int mtaped, .ref a6, .int msize, .int mat, .int mfrom, .int mtoken, .int mvalue, .int mfaultKind, .int mfaultPlace, .ref a14, .ref a15, .int mgoal, .int mgoalDays, .int mgoalHearer, .ref a19, .ref a20, .int mleastOrder, .int mwordsMany, .ref a23, .ref a24, .ref a25, .ref a26, .ref a27, .ref a28])), (a1, .inl (g.2 0, 225, .inl mworld))]) A) ([.ref h0, .int p1, .int p2].toArray) s 0 0 A) (F0 m 34 ls []) := by
                intro n150
                induction n150 with
                | zero =>
                  intro x146 x147 H locs ls h_x146 hn151
                  exact absurd hn151 (Nat.not_lt_zero _)
                | succ n150 ih149 =>
                  intro x146 x147 H locs ls h_x146 hn151 hP hD hS hl
                  refine lv_iload hx hb dX12_leaks_34 (lv_at hl 0 rfl) ?_
                  refine lv_iload_n hx hb dX12_leaks_36 rfl (lv_at hl 4 rfl) ?_
                  refine lv_icmp_ge (tgt := 68) hx hb dX12_leaks_37 (by decide) (fun c152 => ?_) (fun c152 => ?_)
                  · have c152 := k_le (a := p2.toInt) (b := x146.toInt) rfl rfl c152
                    refine lv_iload_n hx hb dX12_leaks_68 rfl (lv_at hl 1 rfl) ?_
                    exact rt_i FX ((fun k => match k with | 0 => x147 | _ => 0), (fun _ => fun _ => 0), (fun _ => fun _ => 0)) rfl trivial (hP.sub [0, 1] rfl) (hD.sub [0, 1] (by decide) rfl) hS (Nat.le_of_ble_eq_true rfl) (Nat.le_of_ble_eq_true rfl) dX12_leaks_69
                  · have c152 := k_nle (a := p2.toInt) (b := x146.toInt) rfl rfl c152
                    refine lv_iload_n hx hb dX12_leaks_40 rfl (lv_at hl 1 rfl) ?_
                    refine lv_aload_n hx hb dX12_leaks_41 rfl (lv_at hl 2 rfl) ?_
                    refine lv_iload_n hx hb dX12_leaks_42 rfl (lv_at hl 3 rfl) ?_
                    refine lv_i2l (v := p1.toInt64) hx hb dX12_leaks_43 rfl ?_
                    refine lv_topl (fun z153 e_z153 => ?_)
                    have t_z153 : z153.toInt = p1.toInt := by rw [e_z153]; exact Int32.toInt_toInt64 _
                    refine lv_iload hx hb dX12_leaks_44 (lv_at hl 0 rfl) ?_
                    refine lv_i2l (v := x146.toInt64) hx hb dX12_leaks_46 rfl ?_
                    refine lv_topl (fun z154 e_z154 => ?_)
                    have t_z154 : z154.toInt = x146.toInt := by rw [e_z154]; exact Int32.toInt_toInt64 _
                    refine lv_ladd hx hb dX12_leaks_47 ?_
                    refine lv_topl (fun z155 e_z155 => ?_)
                    have rg156 := fb_rng p1
                    have rg157 := fb_rng x146
                    have t_z155 : z155.toInt = z153.toInt + z154.toInt := by rw [e_z155]; exact fb_addL (by omega) (by omega)
                    refine call_V (As := [.long z155]) (rest := [.int x147]) (wr := []) FC hKn hZ (k_X12_leakBy l g h0 a1 a2 a3 a4 a6 a14 a15 a19 a20 a23 a24 a25 a26 a27 a28 mthrown mtaped msize mat mfrom mtoken mvalue mfaultKind mfaultPlace mgoal mgoalDays mgoalHearer mleastOrder mwordsMany mworld z155 (by omega) (by omega) (by omega) (by omega) (by omega) (by omega) (by omega) (by omega) i_mworld) m_yX12_leakBy b_1062 (ci := 12) rfl rfl rfl hP hD hS hA [0, 1] [] rfl (by decide) rfl (by decide) (by decide) rfl hl.1 rfl (Nat.le_of_ble_eq_true rfl) dX12_leaks_48 ⟨(Nat.le_of_ble_eq_true rfl), (Nat.le_of_ble_eq_true rfl)⟩ ⟨(Nat.le_of_ble_eq_true rfl), (Nat.le_of_ble_eq_true rfl)⟩ (fun u158 H locs q159 hP hD hS => ?_)
                    have q159_0 : -1 ≤ (u158.1 0).toInt ∧ (u158.1 0).toInt ≤ 9 := q159
                    have hP : va_P g.1 vwCl [(h0, .inr (12, [.int mthrown, .ref a1, .ref a2, .ref a3, .ref a4, .int mtaped, .ref a6, .int msize, .int mat, .int mfrom, .int mtoken, .int mvalue, .int mfaultKind, .int mfaultPlace, .ref a14, .ref a15, .int mgoal, .int mgoalDays, .int mgoalHearer, .ref a19, .ref a20, .int mleastOrder, .int mwordsMany, .ref a23, .ref a24, .ref a25, .ref a26, .ref a27, .ref a28])), (a1, .inl (g.2 0, 225, .inl mworld))] H := hP
                    have hD : va_D A [(h0, .inr (12, [.int mthrown, .ref a1, .ref a2, .ref a3, .ref a4, .int mtaped, .ref a6, .int msize, .int mat, .int mfrom, .int mtoken, .int mvalue, .int mfaultKind, .int mfaultPlace, .ref a14, .ref a15, .int mgoal, .int mgoalDays, .int mgoalHearer, .ref a19, .ref a20, .int mleastOrder, .int mwordsMany, .ref a23, .ref a24, .ref a25, .ref a26, .ref a27, .ref a28])), (a1, .inl (g.2 0, 225, .inl mworld))] := hD
                    refine W.eq (g2 := F0 m 51 ls [.int (u158.1 0), .int x147]) rfl ?_
                    refine lv_iconst (v := -1) hx hb dX12_leaks_51 (by decide) ?_
                    refine lv_icmp_ne (tgt := 59) hx hb dX12_leaks_52 (by decide) (fun c160 => ?_) (fun c160 => ?_)
                    · have c160 := k_ne (a := (u158.1 0).toInt) (b := -1) rfl (by decide) c160
                      refine lv_iconst (v := 1) hx hb dX12_leaks_59 (by decide) ?_
                      refine lv_iadd hx hb dX12_leaks_60 ?_
                      refine lv_topi (fun z161 e_z161 => ?_)
                      refine lv_istore_n (lv' := [(3, .int z161), (4, .int x146), (0, .ref h0), (1, .int p1), (2, .int p2)]) hx hb dX12_leaks_61 rfl hl (by decide) rfl (fun ls hl => ?_)
                      obtain ⟨z162, e_z162⟩ : ∃ y : Int32, y = x146 + 1 := ⟨_, rfl⟩
                      have t_z162 : z162.toInt = x146.toInt + 1 := by rw [e_z162]; exact addk (by decide) (by omega) (by omega)
                      refine lv_iinc (v := z162) (lv' := [(4, .int z162), (3, .int z161), (0, .ref h0), (1, .int p1), (2, .int p2)]) hx hb dX12_leaks_62 hl (k := 1) rfl (by rw [e_z162]; rfl) (by decide) rfl (fun ls hl => ?_)
                      refine lv_goto (tgt := 34) hx hb dX12_leaks_65 (by decide) ?_
                      exact ih149 z162 z161 _ _ ls (by omega) (by omega) hP hD hS (lv_sub hl [0, 1, 2, 3, 4] rfl)
                    · have c160 := k_eq (a := (u158.1 0).toInt) (b := -1) rfl (by decide) c160
                      refine lv_iconst (v := 0) hx hb dX12_leaks_55 (by decide) ?_
                      refine lv_goto (tgt := 60) hx hb dX12_leaks_56 (by decide) ?_
                      refine lv_iadd hx hb dX12_leaks_60 ?_
                      have rg163 := fb_rng x147
                      have kc0 : (0 : Int32).toInt = 0 := by decide
                      refine lv_topi (fun z164 e_z164 => ?_)
                      have t_z164 : z164.toInt = x147.toInt + ((0 : Int32)).toInt := by rw [e_z164]; exact fb_addI (by omega) (by omega)
                      refine lv_istore_n (lv' := [(3, .int z164), (4, .int x146), (0, .ref h0), (1, .int p1), (2, .int p2)]) hx hb dX12_leaks_61 rfl hl (by decide) rfl (fun ls hl => ?_)
                      obtain ⟨z165, e_z165⟩ : ∃ y : Int32, y = x146 + 1 := ⟨_, rfl⟩
                      have t_z165 : z165.toInt = x146.toInt + 1 := by rw [e_z165]; exact addk (by decide) (by omega) (by omega)
                      refine lv_iinc (v := z165) (lv' := [(4, .int z165), (3, .int z164), (0, .ref h0), (1, .int p1), (2, .int p2)]) hx hb dX12_leaks_62 hl (k := 1) rfl (by rw [e_z165]; rfl) (by decide) rfl (fun ls hl => ?_)
                      refine lv_goto (tgt := 34) hx hb dX12_leaks_65 (by decide) ?_
                      exact ih149 z165 z164 _ _ ls (by omega) (by omega) hP hD hS (lv_sub hl [0, 1, 2, 3, 4] rfl)
              have kc0 : (0 : Int32).toInt = 0 := by decide
              exact lp148 _ (0 : Int32) (0 : Int32) _ _ ls (by decide) (Nat.lt_succ_self _) hP hD hS (lv_sub hl [0, 1, 2, 3, 4] rfl)
            · have c16 := k_eq (a := (u12.1 0).toInt) (b := 0) rfl (by decide) c16
              exfalso; omega
set_option maxRecDepth 100000 in
set_option maxHeartbeats 4000000 in
theorem k_X12_count (l : Launch) (g : GG) (h0 : Nat) (a1 : Nat) (a2 : Nat) (a3 : Nat) (a4 : Nat) (a6 : Nat) (a14 : Nat) (a15 : Nat) (a19 : Nat) (a20 : Nat) (a23 : Nat) (a24 : Nat) (a25 : Nat) (a26 : Nat) (a27 : Nat) (a28 : Nat) (mthrown : Int32) (mtaped : Int32) (msize : Int32) (mat : Int32) (mfrom : Int32) (mtoken : Int32) (mvalue : Int32) (mfaultKind : Int32) (mfaultPlace : Int32) (mgoal : Int32) (mgoalDays : Int32) (mgoalHearer : Int32) (mleastOrder : Int32) (mwordsMany : Int32) (mworld : Nat → Int32) (mmany : Nat → Int32) (p1 : Int32) (i_mtaped : 0 ≤ mtaped.toInt ∧ mtaped.toInt ≤ 900) (i_msize : 0 ≤ msize.toInt ∧ msize.toInt ≤ 900) (i_mat : 0 ≤ mat.toInt ∧ mat.toInt ≤ 900) (i_mfrom : 0 ≤ mfrom.toInt ∧ mfrom.toInt ≤ 900) (i_mtoken : 0 ≤ mtoken.toInt ∧ mtoken.toInt ≤ 4) (i_mvalue : 0 ≤ mvalue.toInt ∧ mvalue.toInt ≤ 99999) (i_mgoalHearer : 0 ≤ mgoalHearer.toInt ∧ mgoalHearer.toInt ≤ 3) (i_mwordsMany : 0 ≤ mwordsMany.toInt ∧ mwordsMany.toInt ≤ 10) (i_mworld : wod mworld) (i_mmany : ab mmany 4 (-1) 60) : Ct l g yX12_count cX12_count 4 (some .int) { frames := 1, cells := 0, slots := 0, locals := 25 } [.ref h0, .int p1] [(h0, .inr (12, [.int mthrown, .ref a1, .ref a2, .ref a3, .ref a4, .int mtaped, .ref a6, .int msize, .int mat, .int mfrom, .int mtoken, .int mvalue, .int mfaultKind, .int mfaultPlace, .ref a14, .ref a15, .int mgoal, .int mgoalDays, .int mgoalHearer, .ref a19, .ref a20, .int mleastOrder, .int mwordsMany, .ref a23, .ref a24, .ref a25, .ref a26, .ref a27, .ref a28])), (a1, .inl (g.2 0, 225, .inl mworld)), (a25, .inl (g.2 0, 4, .inl mmany))] (S := (Nat → Int32) × (Nat → Nat → Int32) × (Nat → Nat → Int64)) (fun u => some (.int (u.1 0))) (fun u => True) (fun u => [(h0, .inr (12, [.int mthrown, .ref a1, .ref a2, .ref a3, .ref a4, .int mtaped, .ref a6, .int msize, .int mat, .int mfrom, .int mtoken, .int mvalue, .int mfaultKind, .int mfaultPlace, .ref a14, .ref a15, .int mgoal, .int mgoalDays, .int mgoalHearer, .ref a19, .ref a20, .int mleastOrder, .int mwordsMany, .ref a23, .ref a24, .ref a25, .ref a26, .ref a27, .ref a28])), (a1, .inl (g.2 0, 225, .inl mworld)), (a25, .inl (g.2 0, 4, .inl mmany))]) := by
  refine Ct.of (by decide) (Nat.le_of_ble_eq_true rfl) ?_
  intro p e s m below meth c A ls FX hP hD hS hl
  obtain ⟨FC, hr, hlk, hKn, hA, hnm, hZ⟩ := id FX
  have FC : CallFix p m c cX12_count 4 s _ BIG RX12 := FC
  obtain ⟨hx, hb, hml, hown, hB⟩ := id FC
  have hl : lv_has ls 4 [(0, .ref h0), (1, .int p1)] := hl
  refine lv_iconst (v := 0) hx hb dX12_count_0 (by decide) ?_
  refine lv_istore_n (lv' := [(2, .int 0), (0, .ref h0), (1, .int p1)]) hx hb dX12_count_1 rfl hl (by decide) rfl (fun ls hl => ?_)
  refine lv_iload_n hx hb dX12_count_2 rfl (lv_at hl 2 rfl) ?_
  by_cases c1 : p1.toInt < 10 ∨ 12 < p1.toInt
  · refine lv_tableOut (tgt := 74) hx hb dX12_count_3 c1 (by decide) ?_
    refine lv_iload_n hx hb dX12_count_74 rfl (lv_at hl 2 rfl) ?_
    refine lv_i2l (v := p1.toInt64) hx hb dX12_count_75 rfl ?_
    refine lv_topl (fun z2 e_z2 => ?_)
    have t_z2 : z2.toInt = p1.toInt := by rw [e_z2]; exact Int32.toInt_toInt64 _
    refine lv_lconst (v := 0) hx hb dX12_count_76 (by decide) ?_
    refine lv_ldc2 hx hb hown (hB _ b_1064) dX12_count_77 ?_
    have kcl0 : (0 : Int64).toInt = 0 := by decide
    have kcl9 : (9 : Int64).toInt = 9 := by decide
    refine call_S (As := [.long z2, .long 0, .long 9]) (rest := []) (wr := [(h0, .inr (12, [.int mthrown, .ref a1, .ref a2, .ref a3, .ref a4, .int mtaped, .ref a6, .int msize, .int mat, .int mfrom, .int mtoken, .int mvalue, .int mfaultKind, .int mfaultPlace, .ref a14, .ref a15, .int mgoal, .int mgoalDays, .int mgoalHearer, .ref a19, .ref a20, .int mleastOrder, .int mwordsMany, .ref a23, .ref a24, .ref a25, .ref a26, .ref a27, .ref a28])), (a1, .inl (g.2 0, 225, .inl mworld)), (a25, .inl (g.2 0, 4, .inl mmany))]) FC hKn hZ (k_X12_in l g z2 ((0 : Int64)) ((9 : Int64))) m_yX12_in b_802 hP hD hS hA [] [0, 1, 2] rfl (by decide) rfl (by decide) (by decide) rfl hl.1 rfl (Nat.le_of_ble_eq_true rfl) dX12_count_80 ⟨(Nat.le_of_ble_eq_true rfl), (Nat.le_of_ble_eq_true rfl)⟩ ⟨(Nat.le_of_ble_eq_true rfl), (Nat.le_of_ble_eq_true rfl)⟩ (fun u3 H locs q4 hP hD hS => ?_)
    obtain ⟨q4_0, q4_1, q4_2⟩ := q4
    have hP : va_P g.1 vwCl [(h0, .inr (12, [.int mthrown, .ref a1, .ref a2, .ref a3, .ref a4, .int mtaped, .ref a6, .int msize, .int mat, .int mfrom, .int mtoken, .int mvalue, .int mfaultKind, .int mfaultPlace, .ref a14, .ref a15, .int mgoal, .int mgoalDays, .int mgoalHearer, .ref a19, .ref a20, .int mleastOrder, .int mwordsMany, .ref a23, .ref a24, .ref a25, .ref a26, .ref a27, .ref a28])), (a1, .inl (g.2 0, 225, .inl mworld)), (a25, .inl (g.2 0, 4, .inl mmany))] H := hP
    have hD : va_D A [(h0, .inr (12, [.int mthrown, .ref a1, .ref a2, .ref a3, .ref a4, .int mtaped, .ref a6, .int msize, .int mat, .int mfrom, .int mtoken, .int mvalue, .int mfaultKind, .int mfaultPlace, .ref a14, .ref a15, .int mgoal, .int mgoalDays, .int mgoalHearer, .ref a19, .ref a20, .int mleastOrder, .int mwordsMany, .ref a23, .ref a24, .ref a25, .ref a26, .ref a27, .ref a28])), (a1, .inl (g.2 0, 225, .inl mworld)), (a25, .inl (g.2 0, 4, .inl mmany))] := hD
    refine W.eq (g2 := F0 m 83 ls [.int (u3.1 0)]) rfl ?_
    rcases (show (u3.1 0).toInt = 0 ∨ (u3.1 0).toInt = 1 by omega) with c5 | c5
    · skip
      refine lv_if_eq (tgt := 95) hx hb dX12_count_83 (by decide) (fun c6 => ?_) (fun c6 => ?_)
      · have c6 := k_eq (a := (u3.1 0).toInt) (b := 0) rfl (by decide) c6
        refine lv_iconst (v := -1) hx hb dX12_count_95 (by decide) ?_
        exact rt_i FX ((fun k => match k with | 0 => (-1 : Int32) | _ => 0), (fun _ => fun _ => 0), (fun _ => fun _ => 0)) rfl trivial (hP.sub [0, 1, 2] rfl) (hD.sub [0, 1, 2] (by decide) rfl) hS (Nat.le_of_ble_eq_true rfl) (Nat.le_of_ble_eq_true rfl) dX12_count_96
      · have c6 := k_ne (a := (u3.1 0).toInt) (b := 0) rfl (by decide) c6
        exfalso; omega
    · have c5_r := q4_2 c5
      refine lv_if_eq (tgt := 95) hx hb dX12_count_83 (by decide) (fun c7 => ?_) (fun c7 => ?_)
      · have c7 := k_eq (a := (u3.1 0).toInt) (b := 0) rfl (by decide) c7
        exfalso; omega
      · have c7 := k_ne (a := (u3.1 0).toInt) (b := 0) rfl (by decide) c7
        refine lv_aload_n hx hb dX12_count_86 rfl (lv_at hl 1 rfl) ?_
        refine g_get (C := RX12) (T := TX12) (N := 29) (ci := 12) (v := .ref a1) FC hKn hP i_X12 0 rfl rfl 1 (by decide) b_801 rfl dX12_count_87 ?_
        refine lv_iload_n hx hb dX12_count_90 rfl (lv_at hl 2 rfl) ?_
        refine va_iald hx hb hKn.1 hP 1 0 rfl rfl (vp_in_iff.mpr ⟨by omega, by omega⟩) dX12_count_91 ?_
        refine lv_topi (fun z8 e_z8 => ?_)
        have q_z8 : z8.toInt = (mworld p1.toNatClampNeg).toInt := by rw [e_z8]
        refine lv_goto (tgt := 96) hx hb dX12_count_92 (by decide) ?_
        exact rt_i FX ((fun k => match k with | 0 => z8 | _ => 0), (fun _ => fun _ => 0), (fun _ => fun _ => 0)) rfl trivial (hP.sub [0, 1, 2] rfl) (hD.sub [0, 1, 2] (by decide) rfl) hS (Nat.le_of_ble_eq_true rfl) (Nat.le_of_ble_eq_true rfl) dX12_count_96
  · skip
    rcases (show p1.toInt = 10 ∨ p1.toInt = 11 ∨ p1.toInt = 12 by omega) with hv | hv | hv
    · obtain rfl : p1 = 10 := Int32.toInt_inj.mp (hv.trans (by decide))
      refine lv_tableIn (tgt := 28) (off := 25) hx hb dX12_count_3 (by decide) (by decide) (by decide) (by decide) ?_
      refine lv_aload_n hx hb dX12_count_28 rfl (lv_at hl 1 rfl) ?_
      refine g_get (C := RX12) (T := TX12) (N := 29) (ci := 12) (v := .int mtaped) FC hKn hP i_X12 0 rfl rfl 5 (by decide) b_1065 rfl dX12_count_29 ?_
      exact rt_i FX ((fun k => match k with | 0 => mtaped | _ => 0), (fun _ => fun _ => 0), (fun _ => fun _ => 0)) rfl trivial (hP.sub [0, 1, 2] rfl) (hD.sub [0, 1, 2] (by decide) rfl) hS (Nat.le_of_ble_eq_true rfl) (Nat.le_of_ble_eq_true rfl) dX12_count_32
    · obtain rfl : p1 = 11 := Int32.toInt_inj.mp (hv.trans (by decide))
      refine lv_tableIn (tgt := 33) (off := 30) hx hb dX12_count_3 (by decide) (by decide) (by decide) (by decide) ?_
      refine lv_aload_n hx hb dX12_count_33 rfl (lv_at hl 1 rfl) ?_
      refine g_get (C := RX12) (T := TX12) (N := 29) (ci := 12) (v := .ref a1) FC hKn hP i_X12 0 rfl rfl 1 (by decide) b_801 rfl dX12_count_34 ?_
      refine lv_bipush (v := 10) hx hb dX12_count_37 (by decide) ?_
      refine va_iald hx hb hKn.1 hP 1 0 rfl rfl (by unfold vp_in; decide) dX12_count_39 ?_
      have kc10 : (10 : Int32).toInt = 10 := by decide
      refine lv_topi (fun z9 e_z9 => ?_)
      have t_z9 : 0 ≤ z9.toInt ∧ z9.toInt ≤ 60 := by rw [e_z9]; exact wk_10 i_mworld.1
      have q_z9 : z9.toInt = (mworld 10).toInt := by rw [e_z9]; rfl
      exact rt_i FX ((fun k => match k with | 0 => z9 | _ => 0), (fun _ => fun _ => 0), (fun _ => fun _ => 0)) rfl trivial (hP.sub [0, 1, 2] rfl) (hD.sub [0, 1, 2] (by decide) rfl) hS (Nat.le_of_ble_eq_true rfl) (Nat.le_of_ble_eq_true rfl) dX12_count_40
    · obtain rfl : p1 = 12 := Int32.toInt_inj.mp (hv.trans (by decide))
      refine lv_tableIn (tgt := 41) (off := 38) hx hb dX12_count_3 (by decide) (by decide) (by decide) (by decide) ?_
      refine lv_iconst (v := 0) hx hb dX12_count_41 (by decide) ?_
      refine lv_istore_n (lv' := [(3, .int 0), (2, .int 0), (0, .ref h0), (1, .int 12)]) hx hb dX12_count_42 rfl hl (by decide) rfl (fun ls hl => ?_)
      refine lv_iload_n hx hb dX12_count_43 rfl (lv_at hl 0 rfl) ?_
      refine lv_iconst (v := 4) hx hb dX12_count_44 (by decide) ?_
      refine lv_icmp_ge (tgt := 72) hx hb dX12_count_45 (by decide) (fun h => absurd h (by decide)) (fun _ => ?_)
      refine lv_iload_n hx hb dX12_count_48 rfl (lv_at hl 1 rfl) ?_
      refine lv_aload_n hx hb dX12_count_49 rfl (lv_at hl 2 rfl) ?_
      refine g_get (C := RX12) (T := TX12) (N := 29) (ci := 12) (v := .ref a25) FC hKn hP i_X12 0 rfl rfl 25 (by decide) b_934 rfl dX12_count_50 ?_
      refine lv_iload_n hx hb dX12_count_53 rfl (lv_at hl 0 rfl) ?_
      refine va_iald hx hb hKn.1 hP 2 0 rfl rfl (by unfold vp_in; decide) dX12_count_54 ?_
      have kc0 : (0 : Int32).toInt = 0 := by decide
      refine lv_topi (fun z10 e_z10 => ?_)
      have t_z10 : -1 ≤ z10.toInt ∧ z10.toInt ≤ 60 := by rw [e_z10]; exact i_mmany _ (clt (by omega) (by omega))
      have q_z10 : z10.toInt = (mmany 0).toInt := by rw [e_z10]; rfl
      refine lv_iconst (v := -1) hx hb dX12_count_55 (by decide) ?_
      refine lv_icmp_ne (tgt := 63) hx hb dX12_count_56 (by decide) (fun c11 => ?_) (fun c11 => ?_)
      · have c11 := k_ne (a := z10.toInt) (b := -1) rfl (by decide) c11
        refine lv_iconst (v := 1) hx hb dX12_count_63 (by decide) ?_
        refine lv_iadd hx hb dX12_count_64 ?_
        refine tp_i (v := 1) (by decide) ?_
        refine lv_istore_n (lv' := [(2, .int 1), (3, .int 0), (0, .ref h0), (1, .int 12)]) hx hb dX12_count_65 rfl hl (by decide) rfl (fun ls hl => ?_)
        refine lv_iinc (v := 1) (lv' := [(3, .int 1), (2, .int 1), (0, .ref h0), (1, .int 12)]) hx hb dX12_count_66 hl (k := 1) rfl (by decide) (by decide) rfl (fun ls hl => ?_)
        refine lv_goto (tgt := 43) hx hb dX12_count_69 (by decide) ?_
        refine lv_iload_n hx hb dX12_count_43 rfl (lv_at hl 0 rfl) ?_
        refine lv_iconst (v := 4) hx hb dX12_count_44 (by decide) ?_
        refine lv_icmp_ge (tgt := 72) hx hb dX12_count_45 (by decide) (fun h => absurd h (by decide)) (fun _ => ?_)
        refine lv_iload_n hx hb dX12_count_48 rfl (lv_at hl 1 rfl) ?_
        refine lv_aload_n hx hb dX12_count_49 rfl (lv_at hl 2 rfl) ?_
        refine g_get (C := RX12) (T := TX12) (N := 29) (ci := 12) (v := .ref a25) FC hKn hP i_X12 0 rfl rfl 25 (by decide) b_934 rfl dX12_count_50 ?_
        refine lv_iload_n hx hb dX12_count_53 rfl (lv_at hl 0 rfl) ?_
        refine va_iald hx hb hKn.1 hP 2 0 rfl rfl (by unfold vp_in; decide) dX12_count_54 ?_
        have kc1 : (1 : Int32).toInt = 1 := by decide
        refine lv_topi (fun z12 e_z12 => ?_)
        have t_z12 : -1 ≤ z12.toInt ∧ z12.toInt ≤ 60 := by rw [e_z12]; exact i_mmany _ (clt (by omega) (by omega))
        have q_z12 : z12.toInt = (mmany 1).toInt := by rw [e_z12]; rfl
        refine lv_iconst (v := -1) hx hb dX12_count_55 (by decide) ?_
        refine lv_icmp_ne (tgt := 63) hx hb dX12_count_56 (by decide) (fun c13 => ?_) (fun c13 => ?_)
        · have c13 := k_ne (a := z12.toInt) (b := -1) rfl (by decide) c13
          refine lv_iconst (v := 1) hx hb dX12_count_63 (by decide) ?_
          refine lv_iadd hx hb dX12_count_64 ?_
          refine tp_i (v := 2) (by decide) ?_
          refine lv_istore_n (lv' := [(2, .int 2), (3, .int 1), (0, .ref h0), (1, .int 12)]) hx hb dX12_count_65 rfl hl (by decide) rfl (fun ls hl => ?_)
          refine lv_iinc (v := 2) (lv' := [(3, .int 2), (2, .int 2), (0, .ref h0), (1, .int 12)]) hx hb dX12_count_66 hl (k := 1) rfl (by decide) (by decide) rfl (fun ls hl => ?_)
          refine lv_goto (tgt := 43) hx hb dX12_count_69 (by decide) ?_
          refine lv_iload_n hx hb dX12_count_43 rfl (lv_at hl 0 rfl) ?_
          refine lv_iconst (v := 4) hx hb dX12_count_44 (by decide) ?_
          refine lv_icmp_ge (tgt := 72) hx hb dX12_count_45 (by decide) (fun h => absurd h (by decide)) (fun _ => ?_)
          refine lv_iload_n hx hb dX12_count_48 rfl (lv_at hl 1 rfl) ?_
          refine lv_aload_n hx hb dX12_count_49 rfl (lv_at hl 2 rfl) ?_
          refine g_get (C := RX12) (T := TX12) (N := 29) (ci := 12) (v := .ref a25) FC hKn hP i_X12 0 rfl rfl 25 (by decide) b_934 rfl dX12_count_50 ?_
          refine lv_iload_n hx hb dX12_count_53 rfl (lv_at hl 0 rfl) ?_
          refine va_iald hx hb hKn.1 hP 2 0 rfl rfl (by unfold vp_in; decide) dX12_count_54 ?_
          have kc2 : (2 : Int32).toInt = 2 := by decide
          refine lv_topi (fun z14 e_z14 => ?_)
          have t_z14 : -1 ≤ z14.toInt ∧ z14.toInt ≤ 60 := by rw [e_z14]; exact i_mmany _ (clt (by omega) (by omega))
          have q_z14 : z14.toInt = (mmany 2).toInt := by rw [e_z14]; rfl
          refine lv_iconst (v := -1) hx hb dX12_count_55 (by decide) ?_
          refine lv_icmp_ne (tgt := 63) hx hb dX12_count_56 (by decide) (fun c15 => ?_) (fun c15 => ?_)
          · have c15 := k_ne (a := z14.toInt) (b := -1) rfl (by decide) c15
            refine lv_iconst (v := 1) hx hb dX12_count_63 (by decide) ?_
            refine lv_iadd hx hb dX12_count_64 ?_
            refine tp_i (v := 3) (by decide) ?_
            refine lv_istore_n (lv' := [(2, .int 3), (3, .int 2), (0, .ref h0), (1, .int 12)]) hx hb dX12_count_65 rfl hl (by decide) rfl (fun ls hl => ?_)
            refine lv_iinc (v := 3) (lv' := [(3, .int 3), (2, .int 3), (0, .ref h0), (1, .int 12)]) hx hb dX12_count_66 hl (k := 1) rfl (by decide) (by decide) rfl (fun ls hl => ?_)
            refine lv_goto (tgt := 43) hx hb dX12_count_69 (by decide) ?_
            refine lv_iload_n hx hb dX12_count_43 rfl (lv_at hl 0 rfl) ?_
            refine lv_iconst (v := 4) hx hb dX12_count_44 (by decide) ?_
            refine lv_icmp_ge (tgt := 72) hx hb dX12_count_45 (by decide) (fun h => absurd h (by decide)) (fun _ => ?_)
            refine lv_iload_n hx hb dX12_count_48 rfl (lv_at hl 1 rfl) ?_
            refine lv_aload_n hx hb dX12_count_49 rfl (lv_at hl 2 rfl) ?_
            refine g_get (C := RX12) (T := TX12) (N := 29) (ci := 12) (v := .ref a25) FC hKn hP i_X12 0 rfl rfl 25 (by decide) b_934 rfl dX12_count_50 ?_
            refine lv_iload_n hx hb dX12_count_53 rfl (lv_at hl 0 rfl) ?_
            refine va_iald hx hb hKn.1 hP 2 0 rfl rfl (by unfold vp_in; decide) dX12_count_54 ?_
            have kc3 : (3 : Int32).toInt = 3 := by decide
            refine lv_topi (fun z16 e_z16 => ?_)
            have t_z16 : -1 ≤ z16.toInt ∧ z16.toInt ≤ 60 := by rw [e_z16]; exact i_mmany _ (clt (by omega) (by omega))
            have q_z16 : z16.toInt = (mmany 3).toInt := by rw [e_z16]; rfl
            refine lv_iconst (v := -1) hx hb dX12_count_55 (by decide) ?_
            refine lv_icmp_ne (tgt := 63) hx hb dX12_count_56 (by decide) (fun c17 => ?_) (fun c17 => ?_)
            · have c17 := k_ne (a := z16.toInt) (b := -1) rfl (by decide) c17
              refine lv_iconst (v := 1) hx hb dX12_count_63 (by decide) ?_
              refine lv_iadd hx hb dX12_count_64 ?_
              refine tp_i (v := 4) (by decide) ?_
              refine lv_istore_n (lv' := [(2, .int 4), (3, .int 3), (0, .ref h0), (1, .int 12)]) hx hb dX12_count_65 rfl hl (by decide) rfl (fun ls hl => ?_)
              refine lv_iinc (v := 4) (lv' := [(3, .int 4), (2, .int 4), (0, .ref h0), (1, .int 12)]) hx hb dX12_count_66 hl (k := 1) rfl (by decide) (by decide) rfl (fun ls hl => ?_)
              refine lv_goto (tgt := 43) hx hb dX12_count_69 (by decide) ?_
              refine lv_iload_n hx hb dX12_count_43 rfl (lv_at hl 0 rfl) ?_
              refine lv_iconst (v := 4) hx hb dX12_count_44 (by decide) ?_
              refine lv_icmp_ge (tgt := 72) hx hb dX12_count_45 (by decide) (fun _ => ?_) (fun h => absurd h (by decide))
              refine lv_iload_n hx hb dX12_count_72 rfl (lv_at hl 1 rfl) ?_
              exact rt_i FX ((fun k => match k with | 0 => (4 : Int32) | _ => 0), (fun _ => fun _ => 0), (fun _ => fun _ => 0)) rfl trivial (hP.sub [0, 1, 2] rfl) (hD.sub [0, 1, 2] (by decide) rfl) hS (Nat.le_of_ble_eq_true rfl) (Nat.le_of_ble_eq_true rfl) dX12_count_73
            · have c17 := k_eq (a := z16.toInt) (b := -1) rfl (by decide) c17
              refine lv_iconst (v := 0) hx hb dX12_count_59 (by decide) ?_
              refine lv_goto (tgt := 64) hx hb dX12_count_60 (by decide) ?_
              refine lv_iadd hx hb dX12_count_64 ?_
              refine tp_i (v := 3) (by decide) ?_
              refine lv_istore_n (lv' := [(2, .int 3), (3, .int 3), (0, .ref h0), (1, .int 12)]) hx hb dX12_count_65 rfl hl (by decide) rfl (fun ls hl => ?_)
              refine lv_iinc (v := 4) (lv' := [(3, .int 4), (2, .int 3), (0, .ref h0), (1, .int 12)]) hx hb dX12_count_66 hl (k := 1) rfl (by decide) (by decide) rfl (fun ls hl => ?_)
              refine lv_goto (tgt := 43) hx hb dX12_count_69 (by decide) ?_
              refine lv_iload_n hx hb dX12_count_43 rfl (lv_at hl 0 rfl) ?_
              refine lv_iconst (v := 4) hx hb dX12_count_44 (by decide) ?_
              refine lv_icmp_ge (tgt := 72) hx hb dX12_count_45 (by decide) (fun _ => ?_) (fun h => absurd h (by decide))
              refine lv_iload_n hx hb dX12_count_72 rfl (lv_at hl 1 rfl) ?_
              exact rt_i FX ((fun k => match k with | 0 => (3 : Int32) | _ => 0), (fun _ => fun _ => 0), (fun _ => fun _ => 0)) rfl trivial (hP.sub [0, 1, 2] rfl) (hD.sub [0, 1, 2] (by decide) rfl) hS (Nat.le_of_ble_eq_true rfl) (Nat.le_of_ble_eq_true rfl) dX12_count_73
          · have c15 := k_eq (a := z14.toInt) (b := -1) rfl (by decide) c15
            refine lv_iconst (v := 0) hx hb dX12_count_59 (by decide) ?_
            refine lv_goto (tgt := 64) hx hb dX12_count_60 (by decide) ?_
            refine lv_iadd hx hb dX12_count_64 ?_
            refine tp_i (v := 2) (by decide) ?_
            refine lv_istore_n (lv' := [(2, .int 2), (3, .int 2), (0, .ref h0), (1, .int 12)]) hx hb dX12_count_65 rfl hl (by decide) rfl (fun ls hl => ?_)
            refine lv_iinc (v := 3) (lv' := [(3, .int 3), (2, .int 2), (0, .ref h0), (1, .int 12)]) hx hb dX12_count_66 hl (k := 1) rfl (by decide) (by decide) rfl (fun ls hl => ?_)
            refine lv_goto (tgt := 43) hx hb dX12_count_69 (by decide) ?_
            refine lv_iload_n hx hb dX12_count_43 rfl (lv_at hl 0 rfl) ?_
            refine lv_iconst (v := 4) hx hb dX12_count_44 (by decide) ?_
            refine lv_icmp_ge (tgt := 72) hx hb dX12_count_45 (by decide) (fun h => absurd h (by decide)) (fun _ => ?_)
            refine lv_iload_n hx hb dX12_count_48 rfl (lv_at hl 1 rfl) ?_
            refine lv_aload_n hx hb dX12_count_49 rfl (lv_at hl 2 rfl) ?_
            refine g_get (C := RX12) (T := TX12) (N := 29) (ci := 12) (v := .ref a25) FC hKn hP i_X12 0 rfl rfl 25 (by decide) b_934 rfl dX12_count_50 ?_
            refine lv_iload_n hx hb dX12_count_53 rfl (lv_at hl 0 rfl) ?_
            refine va_iald hx hb hKn.1 hP 2 0 rfl rfl (by unfold vp_in; decide) dX12_count_54 ?_
            have kc3 : (3 : Int32).toInt = 3 := by decide
            refine lv_topi (fun z18 e_z18 => ?_)
            have t_z18 : -1 ≤ z18.toInt ∧ z18.toInt ≤ 60 := by rw [e_z18]; exact i_mmany _ (clt (by omega) (by omega))
            have q_z18 : z18.toInt = (mmany 3).toInt := by rw [e_z18]; rfl
            refine lv_iconst (v := -1) hx hb dX12_count_55 (by decide) ?_
            refine lv_icmp_ne (tgt := 63) hx hb dX12_count_56 (by decide) (fun c19 => ?_) (fun c19 => ?_)
            · have c19 := k_ne (a := z18.toInt) (b := -1) rfl (by decide) c19
              refine lv_iconst (v := 1) hx hb dX12_count_63 (by decide) ?_
              refine lv_iadd hx hb dX12_count_64 ?_
              refine tp_i (v := 3) (by decide) ?_
              refine lv_istore_n (lv' := [(2, .int 3), (3, .int 3), (0, .ref h0), (1, .int 12)]) hx hb dX12_count_65 rfl hl (by decide) rfl (fun ls hl => ?_)
              refine lv_iinc (v := 4) (lv' := [(3, .int 4), (2, .int 3), (0, .ref h0), (1, .int 12)]) hx hb dX12_count_66 hl (k := 1) rfl (by decide) (by decide) rfl (fun ls hl => ?_)
              refine lv_goto (tgt := 43) hx hb dX12_count_69 (by decide) ?_
              refine lv_iload_n hx hb dX12_count_43 rfl (lv_at hl 0 rfl) ?_
              refine lv_iconst (v := 4) hx hb dX12_count_44 (by decide) ?_
              refine lv_icmp_ge (tgt := 72) hx hb dX12_count_45 (by decide) (fun _ => ?_) (fun h => absurd h (by decide))
              refine lv_iload_n hx hb dX12_count_72 rfl (lv_at hl 1 rfl) ?_
              exact rt_i FX ((fun k => match k with | 0 => (3 : Int32) | _ => 0), (fun _ => fun _ => 0), (fun _ => fun _ => 0)) rfl trivial (hP.sub [0, 1, 2] rfl) (hD.sub [0, 1, 2] (by decide) rfl) hS (Nat.le_of_ble_eq_true rfl) (Nat.le_of_ble_eq_true rfl) dX12_count_73
            · have c19 := k_eq (a := z18.toInt) (b := -1) rfl (by decide) c19
              refine lv_iconst (v := 0) hx hb dX12_count_59 (by decide) ?_
              refine lv_goto (tgt := 64) hx hb dX12_count_60 (by decide) ?_
              refine lv_iadd hx hb dX12_count_64 ?_
              refine tp_i (v := 2) (by decide) ?_
              refine lv_istore_n (lv' := [(2, .int 2), (3, .int 3), (0, .ref h0), (1, .int 12)]) hx hb dX12_count_65 rfl hl (by decide) rfl (fun ls hl => ?_)
              refine lv_iinc (v := 4) (lv' := [(3, .int 4), (2, .int 2), (0, .ref h0), (1, .int 12)]) hx hb dX12_count_66 hl (k := 1) rfl (by decide) (by decide) rfl (fun ls hl => ?_)
              refine lv_goto (tgt := 43) hx hb dX12_count_69 (by decide) ?_
              refine lv_iload_n hx hb dX12_count_43 rfl (lv_at hl 0 rfl) ?_
              refine lv_iconst (v := 4) hx hb dX12_count_44 (by decide) ?_
              refine lv_icmp_ge (tgt := 72) hx hb dX12_count_45 (by decide) (fun _ => ?_) (fun h => absurd h (by decide))
              refine lv_iload_n hx hb dX12_count_72 rfl (lv_at hl 1 rfl) ?_
              exact rt_i FX ((fun k => match k with | 0 => (2 : Int32) | _ => 0), (fun _ => fun _ => 0), (fun _ => fun _ => 0)) rfl trivial (hP.sub [0, 1, 2] rfl) (hD.sub [0, 1, 2] (by decide) rfl) hS (Nat.le_of_ble_eq_true rfl) (Nat.le_of_ble_eq_true rfl) dX12_count_73
        · have c13 := k_eq (a := z12.toInt) (b := -1) rfl (by decide) c13
          refine lv_iconst (v := 0) hx hb dX12_count_59 (by decide) ?_
          refine lv_goto (tgt := 64) hx hb dX12_count_60 (by decide) ?_
          refine lv_iadd hx hb dX12_count_64 ?_
          refine tp_i (v := 1) (by decide) ?_
          refine lv_istore_n (lv' := [(2, .int 1), (3, .int 1), (0, .ref h0), (1, .int 12)]) hx hb dX12_count_65 rfl hl (by decide) rfl (fun ls hl => ?_)
          refine lv_iinc (v := 2) (lv' := [(3, .int 2), (2, .int 1), (0, .ref h0), (1, .int 12)]) hx hb dX12_count_66 hl (k := 1) rfl (by decide) (by decide) rfl (fun ls hl => ?_)
          refine lv_goto (tgt := 43) hx hb dX12_count_69 (by decide) ?_
          refine lv_iload_n hx hb dX12_count_43 rfl (lv_at hl 0 rfl) ?_
          refine lv_iconst (v := 4) hx hb dX12_count_44 (by decide) ?_
          refine lv_icmp_ge (tgt := 72) hx hb dX12_count_45 (by decide) (fun h => absurd h (by decide)) (fun _ => ?_)
          refine lv_iload_n hx hb dX12_count_48 rfl (lv_at hl 1 rfl) ?_
          refine lv_aload_n hx hb dX12_count_49 rfl (lv_at hl 2 rfl) ?_
          refine g_get (C := RX12) (T := TX12) (N := 29) (ci := 12) (v := .ref a25) FC hKn hP i_X12 0 rfl rfl 25 (by decide) b_934 rfl dX12_count_50 ?_
          refine lv_iload_n hx hb dX12_count_53 rfl (lv_at hl 0 rfl) ?_
          refine va_iald hx hb hKn.1 hP 2 0 rfl rfl (by unfold vp_in; decide) dX12_count_54 ?_
          have kc2 : (2 : Int32).toInt = 2 := by decide
          refine lv_topi (fun z20 e_z20 => ?_)
          have t_z20 : -1 ≤ z20.toInt ∧ z20.toInt ≤ 60 := by rw [e_z20]; exact i_mmany _ (clt (by omega) (by omega))
          have q_z20 : z20.toInt = (mmany 2).toInt := by rw [e_z20]; rfl
          refine lv_iconst (v := -1) hx hb dX12_count_55 (by decide) ?_
          refine lv_icmp_ne (tgt := 63) hx hb dX12_count_56 (by decide) (fun c21 => ?_) (fun c21 => ?_)
          · have c21 := k_ne (a := z20.toInt) (b := -1) rfl (by decide) c21
            refine lv_iconst (v := 1) hx hb dX12_count_63 (by decide) ?_
            refine lv_iadd hx hb dX12_count_64 ?_
            refine tp_i (v := 2) (by decide) ?_
            refine lv_istore_n (lv' := [(2, .int 2), (3, .int 2), (0, .ref h0), (1, .int 12)]) hx hb dX12_count_65 rfl hl (by decide) rfl (fun ls hl => ?_)
            refine lv_iinc (v := 3) (lv' := [(3, .int 3), (2, .int 2), (0, .ref h0), (1, .int 12)]) hx hb dX12_count_66 hl (k := 1) rfl (by decide) (by decide) rfl (fun ls hl => ?_)
            refine lv_goto (tgt := 43) hx hb dX12_count_69 (by decide) ?_
            refine lv_iload_n hx hb dX12_count_43 rfl (lv_at hl 0 rfl) ?_
            refine lv_iconst (v := 4) hx hb dX12_count_44 (by decide) ?_
            refine lv_icmp_ge (tgt := 72) hx hb dX12_count_45 (by decide) (fun h => absurd h (by decide)) (fun _ => ?_)
            refine lv_iload_n hx hb dX12_count_48 rfl (lv_at hl 1 rfl) ?_
            refine lv_aload_n hx hb dX12_count_49 rfl (lv_at hl 2 rfl) ?_
            refine g_get (C := RX12) (T := TX12) (N := 29) (ci := 12) (v := .ref a25) FC hKn hP i_X12 0 rfl rfl 25 (by decide) b_934 rfl dX12_count_50 ?_
            refine lv_iload_n hx hb dX12_count_53 rfl (lv_at hl 0 rfl) ?_
            refine va_iald hx hb hKn.1 hP 2 0 rfl rfl (by unfold vp_in; decide) dX12_count_54 ?_
            have kc3 : (3 : Int32).toInt = 3 := by decide
            refine lv_topi (fun z22 e_z22 => ?_)
            have t_z22 : -1 ≤ z22.toInt ∧ z22.toInt ≤ 60 := by rw [e_z22]; exact i_mmany _ (clt (by omega) (by omega))
            have q_z22 : z22.toInt = (mmany 3).toInt := by rw [e_z22]; rfl
            refine lv_iconst (v := -1) hx hb dX12_count_55 (by decide) ?_
            refine lv_icmp_ne (tgt := 63) hx hb dX12_count_56 (by decide) (fun c23 => ?_) (fun c23 => ?_)
            · have c23 := k_ne (a := z22.toInt) (b := -1) rfl (by decide) c23
              refine lv_iconst (v := 1) hx hb dX12_count_63 (by decide) ?_
              refine lv_iadd hx hb dX12_count_64 ?_
              refine tp_i (v := 3) (by decide) ?_
              refine lv_istore_n (lv' := [(2, .int 3), (3, .int 3), (0, .ref h0), (1, .int 12)]) hx hb dX12_count_65 rfl hl (by decide) rfl (fun ls hl => ?_)
              refine lv_iinc (v := 4) (lv' := [(3, .int 4), (2, .int 3), (0, .ref h0), (1, .int 12)]) hx hb dX12_count_66 hl (k := 1) rfl (by decide) (by decide) rfl (fun ls hl => ?_)
              refine lv_goto (tgt := 43) hx hb dX12_count_69 (by decide) ?_
              refine lv_iload_n hx hb dX12_count_43 rfl (lv_at hl 0 rfl) ?_
              refine lv_iconst (v := 4) hx hb dX12_count_44 (by decide) ?_
              refine lv_icmp_ge (tgt := 72) hx hb dX12_count_45 (by decide) (fun _ => ?_) (fun h => absurd h (by decide))
              refine lv_iload_n hx hb dX12_count_72 rfl (lv_at hl 1 rfl) ?_
              exact rt_i FX ((fun k => match k with | 0 => (3 : Int32) | _ => 0), (fun _ => fun _ => 0), (fun _ => fun _ => 0)) rfl trivial (hP.sub [0, 1, 2] rfl) (hD.sub [0, 1, 2] (by decide) rfl) hS (Nat.le_of_ble_eq_true rfl) (Nat.le_of_ble_eq_true rfl) dX12_count_73
            · have c23 := k_eq (a := z22.toInt) (b := -1) rfl (by decide) c23
              refine lv_iconst (v := 0) hx hb dX12_count_59 (by decide) ?_
              refine lv_goto (tgt := 64) hx hb dX12_count_60 (by decide) ?_
              refine lv_iadd hx hb dX12_count_64 ?_
              refine tp_i (v := 2) (by decide) ?_
              refine lv_istore_n (lv' := [(2, .int 2), (3, .int 3), (0, .ref h0), (1, .int 12)]) hx hb dX12_count_65 rfl hl (by decide) rfl (fun ls hl => ?_)
              refine lv_iinc (v := 4) (lv' := [(3, .int 4), (2, .int 2), (0, .ref h0), (1, .int 12)]) hx hb dX12_count_66 hl (k := 1) rfl (by decide) (by decide) rfl (fun ls hl => ?_)
              refine lv_goto (tgt := 43) hx hb dX12_count_69 (by decide) ?_
              refine lv_iload_n hx hb dX12_count_43 rfl (lv_at hl 0 rfl) ?_
              refine lv_iconst (v := 4) hx hb dX12_count_44 (by decide) ?_
              refine lv_icmp_ge (tgt := 72) hx hb dX12_count_45 (by decide) (fun _ => ?_) (fun h => absurd h (by decide))
              refine lv_iload_n hx hb dX12_count_72 rfl (lv_at hl 1 rfl) ?_
              exact rt_i FX ((fun k => match k with | 0 => (2 : Int32) | _ => 0), (fun _ => fun _ => 0), (fun _ => fun _ => 0)) rfl trivial (hP.sub [0, 1, 2] rfl) (hD.sub [0, 1, 2] (by decide) rfl) hS (Nat.le_of_ble_eq_true rfl) (Nat.le_of_ble_eq_true rfl) dX12_count_73
          · have c21 := k_eq (a := z20.toInt) (b := -1) rfl (by decide) c21
            refine lv_iconst (v := 0) hx hb dX12_count_59 (by decide) ?_
            refine lv_goto (tgt := 64) hx hb dX12_count_60 (by decide) ?_
            refine lv_iadd hx hb dX12_count_64 ?_
            refine tp_i (v := 1) (by decide) ?_
            refine lv_istore_n (lv' := [(2, .int 1), (3, .int 2), (0, .ref h0), (1, .int 12)]) hx hb dX12_count_65 rfl hl (by decide) rfl (fun ls hl => ?_)
            refine lv_iinc (v := 3) (lv' := [(3, .int 3), (2, .int 1), (0, .ref h0), (1, .int 12)]) hx hb dX12_count_66 hl (k := 1) rfl (by decide) (by decide) rfl (fun ls hl => ?_)
            refine lv_goto (tgt := 43) hx hb dX12_count_69 (by decide) ?_
            refine lv_iload_n hx hb dX12_count_43 rfl (lv_at hl 0 rfl) ?_
            refine lv_iconst (v := 4) hx hb dX12_count_44 (by decide) ?_
            refine lv_icmp_ge (tgt := 72) hx hb dX12_count_45 (by decide) (fun h => absurd h (by decide)) (fun _ => ?_)
            refine lv_iload_n hx hb dX12_count_48 rfl (lv_at hl 1 rfl) ?_
            refine lv_aload_n hx hb dX12_count_49 rfl (lv_at hl 2 rfl) ?_
            refine g_get (C := RX12) (T := TX12) (N := 29) (ci := 12) (v := .ref a25) FC hKn hP i_X12 0 rfl rfl 25 (by decide) b_934 rfl dX12_count_50 ?_
            refine lv_iload_n hx hb dX12_count_53 rfl (lv_at hl 0 rfl) ?_
            refine va_iald hx hb hKn.1 hP 2 0 rfl rfl (by unfold vp_in; decide) dX12_count_54 ?_
            have kc3 : (3 : Int32).toInt = 3 := by decide
            refine lv_topi (fun z24 e_z24 => ?_)
            have t_z24 : -1 ≤ z24.toInt ∧ z24.toInt ≤ 60 := by rw [e_z24]; exact i_mmany _ (clt (by omega) (by omega))
            have q_z24 : z24.toInt = (mmany 3).toInt := by rw [e_z24]; rfl
            refine lv_iconst (v := -1) hx hb dX12_count_55 (by decide) ?_
            refine lv_icmp_ne (tgt := 63) hx hb dX12_count_56 (by decide) (fun c25 => ?_) (fun c25 => ?_)
            · have c25 := k_ne (a := z24.toInt) (b := -1) rfl (by decide) c25
              refine lv_iconst (v := 1) hx hb dX12_count_63 (by decide) ?_
              refine lv_iadd hx hb dX12_count_64 ?_
              refine tp_i (v := 2) (by decide) ?_
              refine lv_istore_n (lv' := [(2, .int 2), (3, .int 3), (0, .ref h0), (1, .int 12)]) hx hb dX12_count_65 rfl hl (by decide) rfl (fun ls hl => ?_)
              refine lv_iinc (v := 4) (lv' := [(3, .int 4), (2, .int 2), (0, .ref h0), (1, .int 12)]) hx hb dX12_count_66 hl (k := 1) rfl (by decide) (by decide) rfl (fun ls hl => ?_)
              refine lv_goto (tgt := 43) hx hb dX12_count_69 (by decide) ?_
              refine lv_iload_n hx hb dX12_count_43 rfl (lv_at hl 0 rfl) ?_
              refine lv_iconst (v := 4) hx hb dX12_count_44 (by decide) ?_
              refine lv_icmp_ge (tgt := 72) hx hb dX12_count_45 (by decide) (fun _ => ?_) (fun h => absurd h (by decide))
              refine lv_iload_n hx hb dX12_count_72 rfl (lv_at hl 1 rfl) ?_
              exact rt_i FX ((fun k => match k with | 0 => (2 : Int32) | _ => 0), (fun _ => fun _ => 0), (fun _ => fun _ => 0)) rfl trivial (hP.sub [0, 1, 2] rfl) (hD.sub [0, 1, 2] (by decide) rfl) hS (Nat.le_of_ble_eq_true rfl) (Nat.le_of_ble_eq_true rfl) dX12_count_73
            · have c25 := k_eq (a := z24.toInt) (b := -1) rfl (by decide) c25
              refine lv_iconst (v := 0) hx hb dX12_count_59 (by decide) ?_
              refine lv_goto (tgt := 64) hx hb dX12_count_60 (by decide) ?_
              refine lv_iadd hx hb dX12_count_64 ?_
              refine tp_i (v := 1) (by decide) ?_
              refine lv_istore_n (lv' := [(2, .int 1), (3, .int 3), (0, .ref h0), (1, .int 12)]) hx hb dX12_count_65 rfl hl (by decide) rfl (fun ls hl => ?_)
              refine lv_iinc (v := 4) (lv' := [(3, .int 4), (2, .int 1), (0, .ref h0), (1, .int 12)]) hx hb dX12_count_66 hl (k := 1) rfl (by decide) (by decide) rfl (fun ls hl => ?_)
              refine lv_goto (tgt := 43) hx hb dX12_count_69 (by decide) ?_
              refine lv_iload_n hx hb dX12_count_43 rfl (lv_at hl 0 rfl) ?_
              refine lv_iconst (v := 4) hx hb dX12_count_44 (by decide) ?_
              refine lv_icmp_ge (tgt := 72) hx hb dX12_count_45 (by decide) (fun _ => ?_) (fun h => absurd h (by decide))
              refine lv_iload_n hx hb dX12_count_72 rfl (lv_at hl 1 rfl) ?_
              exact rt_i FX ((fun k => match k with | 0 => (1 : Int32) | _ => 0), (fun _ => fun _ => 0), (fun _ => fun _ => 0)) rfl trivial (hP.sub [0, 1, 2] rfl) (hD.sub [0, 1, 2] (by decide) rfl) hS (Nat.le_of_ble_eq_true rfl) (Nat.le_of_ble_eq_true rfl) dX12_count_73
      · have c11 := k_eq (a := z10.toInt) (b := -1) rfl (by decide) c11
        refine lv_iconst (v := 0) hx hb dX12_count_59 (by decide) ?_
        refine lv_goto (tgt := 64) hx hb dX12_count_60 (by decide) ?_
        refine lv_iadd hx hb dX12_count_64 ?_
        refine tp_i (v := 0) (by decide) ?_
        refine lv_istore_n (lv' := [(2, .int 0), (3, .int 0), (0, .ref h0), (1, .int 12)]) hx hb dX12_count_65 rfl hl (by decide) rfl (fun ls hl => ?_)
        refine lv_iinc (v := 1) (lv' := [(3, .int 1), (2, .int 0), (0, .ref h0), (1, .int 12)]) hx hb dX12_count_66 hl (k := 1) rfl (by decide) (by decide) rfl (fun ls hl => ?_)
        refine lv_goto (tgt := 43) hx hb dX12_count_69 (by decide) ?_
        refine lv_iload_n hx hb dX12_count_43 rfl (lv_at hl 0 rfl) ?_
        refine lv_iconst (v := 4) hx hb dX12_count_44 (by decide) ?_
        refine lv_icmp_ge (tgt := 72) hx hb dX12_count_45 (by decide) (fun h => absurd h (by decide)) (fun _ => ?_)
        refine lv_iload_n hx hb dX12_count_48 rfl (lv_at hl 1 rfl) ?_
        refine lv_aload_n hx hb dX12_count_49 rfl (lv_at hl 2 rfl) ?_
        refine g_get (C := RX12) (T := TX12) (N := 29) (ci := 12) (v := .ref a25) FC hKn hP i_X12 0 rfl rfl 25 (by decide) b_934 rfl dX12_count_50 ?_
        refine lv_iload_n hx hb dX12_count_53 rfl (lv_at hl 0 rfl) ?_
        refine va_iald hx hb hKn.1 hP 2 0 rfl rfl (by unfold vp_in; decide) dX12_count_54 ?_
        have kc1 : (1 : Int32).toInt = 1 := by decide
        refine lv_topi (fun z26 e_z26 => ?_)
        have t_z26 : -1 ≤ z26.toInt ∧ z26.toInt ≤ 60 := by rw [e_z26]; exact i_mmany _ (clt (by omega) (by omega))
        have q_z26 : z26.toInt = (mmany 1).toInt := by rw [e_z26]; rfl
        refine lv_iconst (v := -1) hx hb dX12_count_55 (by decide) ?_
        refine lv_icmp_ne (tgt := 63) hx hb dX12_count_56 (by decide) (fun c27 => ?_) (fun c27 => ?_)
        · have c27 := k_ne (a := z26.toInt) (b := -1) rfl (by decide) c27
          refine lv_iconst (v := 1) hx hb dX12_count_63 (by decide) ?_
          refine lv_iadd hx hb dX12_count_64 ?_
          refine tp_i (v := 1) (by decide) ?_
          refine lv_istore_n (lv' := [(2, .int 1), (3, .int 1), (0, .ref h0), (1, .int 12)]) hx hb dX12_count_65 rfl hl (by decide) rfl (fun ls hl => ?_)
          refine lv_iinc (v := 2) (lv' := [(3, .int 2), (2, .int 1), (0, .ref h0), (1, .int 12)]) hx hb dX12_count_66 hl (k := 1) rfl (by decide) (by decide) rfl (fun ls hl => ?_)
          refine lv_goto (tgt := 43) hx hb dX12_count_69 (by decide) ?_
          refine lv_iload_n hx hb dX12_count_43 rfl (lv_at hl 0 rfl) ?_
          refine lv_iconst (v := 4) hx hb dX12_count_44 (by decide) ?_
          refine lv_icmp_ge (tgt := 72) hx hb dX12_count_45 (by decide) (fun h => absurd h (by decide)) (fun _ => ?_)
          refine lv_iload_n hx hb dX12_count_48 rfl (lv_at hl 1 rfl) ?_
          refine lv_aload_n hx hb dX12_count_49 rfl (lv_at hl 2 rfl) ?_
          refine g_get (C := RX12) (T := TX12) (N := 29) (ci := 12) (v := .ref a25) FC hKn hP i_X12 0 rfl rfl 25 (by decide) b_934 rfl dX12_count_50 ?_
          refine lv_iload_n hx hb dX12_count_53 rfl (lv_at hl 0 rfl) ?_
          refine va_iald hx hb hKn.1 hP 2 0 rfl rfl (by unfold vp_in; decide) dX12_count_54 ?_
          have kc2 : (2 : Int32).toInt = 2 := by decide
          refine lv_topi (fun z28 e_z28 => ?_)
          have t_z28 : -1 ≤ z28.toInt ∧ z28.toInt ≤ 60 := by rw [e_z28]; exact i_mmany _ (clt (by omega) (by omega))
          have q_z28 : z28.toInt = (mmany 2).toInt := by rw [e_z28]; rfl
          refine lv_iconst (v := -1) hx hb dX12_count_55 (by decide) ?_
          refine lv_icmp_ne (tgt := 63) hx hb dX12_count_56 (by decide) (fun c29 => ?_) (fun c29 => ?_)
          · have c29 := k_ne (a := z28.toInt) (b := -1) rfl (by decide) c29
            refine lv_iconst (v := 1) hx hb dX12_count_63 (by decide) ?_
            refine lv_iadd hx hb dX12_count_64 ?_
            refine tp_i (v := 2) (by decide) ?_
            refine lv_istore_n (lv' := [(2, .int 2), (3, .int 2), (0, .ref h0), (1, .int 12)]) hx hb dX12_count_65 rfl hl (by decide) rfl (fun ls hl => ?_)
            refine lv_iinc (v := 3) (lv' := [(3, .int 3), (2, .int 2), (0, .ref h0), (1, .int 12)]) hx hb dX12_count_66 hl (k := 1) rfl (by decide) (by decide) rfl (fun ls hl => ?_)
            refine lv_goto (tgt := 43) hx hb dX12_count_69 (by decide) ?_
            refine lv_iload_n hx hb dX12_count_43 rfl (lv_at hl 0 rfl) ?_
            refine lv_iconst (v := 4) hx hb dX12_count_44 (by decide) ?_
            refine lv_icmp_ge (tgt := 72) hx hb dX12_count_45 (by decide) (fun h => absurd h (by decide)) (fun _ => ?_)
            refine lv_iload_n hx hb dX12_count_48 rfl (lv_at hl 1 rfl) ?_
            refine lv_aload_n hx hb dX12_count_49 rfl (lv_at hl 2 rfl) ?_
            refine g_get (C := RX12) (T := TX12) (N := 29) (ci := 12) (v := .ref a25) FC hKn hP i_X12 0 rfl rfl 25 (by decide) b_934 rfl dX12_count_50 ?_
            refine lv_iload_n hx hb dX12_count_53 rfl (lv_at hl 0 rfl) ?_
            refine va_iald hx hb hKn.1 hP 2 0 rfl rfl (by unfold vp_in; decide) dX12_count_54 ?_
            have kc3 : (3 : Int32).toInt = 3 := by decide
            refine lv_topi (fun z30 e_z30 => ?_)
            have t_z30 : -1 ≤ z30.toInt ∧ z30.toInt ≤ 60 := by rw [e_z30]; exact i_mmany _ (clt (by omega) (by omega))
            have q_z30 : z30.toInt = (mmany 3).toInt := by rw [e_z30]; rfl
            refine lv_iconst (v := -1) hx hb dX12_count_55 (by decide) ?_
            refine lv_icmp_ne (tgt := 63) hx hb dX12_count_56 (by decide) (fun c31 => ?_) (fun c31 => ?_)
            · have c31 := k_ne (a := z30.toInt) (b := -1) rfl (by decide) c31
              refine lv_iconst (v := 1) hx hb dX12_count_63 (by decide) ?_
              refine lv_iadd hx hb dX12_count_64 ?_
              refine tp_i (v := 3) (by decide) ?_
              refine lv_istore_n (lv' := [(2, .int 3), (3, .int 3), (0, .ref h0), (1, .int 12)]) hx hb dX12_count_65 rfl hl (by decide) rfl (fun ls hl => ?_)
              refine lv_iinc (v := 4) (lv' := [(3, .int 4), (2, .int 3), (0, .ref h0), (1, .int 12)]) hx hb dX12_count_66 hl (k := 1) rfl (by decide) (by decide) rfl (fun ls hl => ?_)
              refine lv_goto (tgt := 43) hx hb dX12_count_69 (by decide) ?_
              refine lv_iload_n hx hb dX12_count_43 rfl (lv_at hl 0 rfl) ?_
              refine lv_iconst (v := 4) hx hb dX12_count_44 (by decide) ?_
              refine lv_icmp_ge (tgt := 72) hx hb dX12_count_45 (by decide) (fun _ => ?_) (fun h => absurd h (by decide))
              refine lv_iload_n hx hb dX12_count_72 rfl (lv_at hl 1 rfl) ?_
              exact rt_i FX ((fun k => match k with | 0 => (3 : Int32) | _ => 0), (fun _ => fun _ => 0), (fun _ => fun _ => 0)) rfl trivial (hP.sub [0, 1, 2] rfl) (hD.sub [0, 1, 2] (by decide) rfl) hS (Nat.le_of_ble_eq_true rfl) (Nat.le_of_ble_eq_true rfl) dX12_count_73
            · have c31 := k_eq (a := z30.toInt) (b := -1) rfl (by decide) c31
              refine lv_iconst (v := 0) hx hb dX12_count_59 (by decide) ?_
              refine lv_goto (tgt := 64) hx hb dX12_count_60 (by decide) ?_
              refine lv_iadd hx hb dX12_count_64 ?_
              refine tp_i (v := 2) (by decide) ?_
              refine lv_istore_n (lv' := [(2, .int 2), (3, .int 3), (0, .ref h0), (1, .int 12)]) hx hb dX12_count_65 rfl hl (by decide) rfl (fun ls hl => ?_)
              refine lv_iinc (v := 4) (lv' := [(3, .int 4), (2, .int 2), (0, .ref h0), (1, .int 12)]) hx hb dX12_count_66 hl (k := 1) rfl (by decide) (by decide) rfl (fun ls hl => ?_)
              refine lv_goto (tgt := 43) hx hb dX12_count_69 (by decide) ?_
              refine lv_iload_n hx hb dX12_count_43 rfl (lv_at hl 0 rfl) ?_
              refine lv_iconst (v := 4) hx hb dX12_count_44 (by decide) ?_
              refine lv_icmp_ge (tgt := 72) hx hb dX12_count_45 (by decide) (fun _ => ?_) (fun h => absurd h (by decide))
              refine lv_iload_n hx hb dX12_count_72 rfl (lv_at hl 1 rfl) ?_
              exact rt_i FX ((fun k => match k with | 0 => (2 : Int32) | _ => 0), (fun _ => fun _ => 0), (fun _ => fun _ => 0)) rfl trivial (hP.sub [0, 1, 2] rfl) (hD.sub [0, 1, 2] (by decide) rfl) hS (Nat.le_of_ble_eq_true rfl) (Nat.le_of_ble_eq_true rfl) dX12_count_73
          · have c29 := k_eq (a := z28.toInt) (b := -1) rfl (by decide) c29
            refine lv_iconst (v := 0) hx hb dX12_count_59 (by decide) ?_
            refine lv_goto (tgt := 64) hx hb dX12_count_60 (by decide) ?_
            refine lv_iadd hx hb dX12_count_64 ?_
            refine tp_i (v := 1) (by decide) ?_
            refine lv_istore_n (lv' := [(2, .int 1), (3, .int 2), (0, .ref h0), (1, .int 12)]) hx hb dX12_count_65 rfl hl (by decide) rfl (fun ls hl => ?_)
            refine lv_iinc (v := 3) (lv' := [(3, .int 3), (2, .int 1), (0, .ref h0), (1, .int 12)]) hx hb dX12_count_66 hl (k := 1) rfl (by decide) (by decide) rfl (fun ls hl => ?_)
            refine lv_goto (tgt := 43) hx hb dX12_count_69 (by decide) ?_
            refine lv_iload_n hx hb dX12_count_43 rfl (lv_at hl 0 rfl) ?_
            refine lv_iconst (v := 4) hx hb dX12_count_44 (by decide) ?_
            refine lv_icmp_ge (tgt := 72) hx hb dX12_count_45 (by decide) (fun h => absurd h (by decide)) (fun _ => ?_)
            refine lv_iload_n hx hb dX12_count_48 rfl (lv_at hl 1 rfl) ?_
            refine lv_aload_n hx hb dX12_count_49 rfl (lv_at hl 2 rfl) ?_
            refine g_get (C := RX12) (T := TX12) (N := 29) (ci := 12) (v := .ref a25) FC hKn hP i_X12 0 rfl rfl 25 (by decide) b_934 rfl dX12_count_50 ?_
            refine lv_iload_n hx hb dX12_count_53 rfl (lv_at hl 0 rfl) ?_
            refine va_iald hx hb hKn.1 hP 2 0 rfl rfl (by unfold vp_in; decide) dX12_count_54 ?_
            have kc3 : (3 : Int32).toInt = 3 := by decide
            refine lv_topi (fun z32 e_z32 => ?_)
            have t_z32 : -1 ≤ z32.toInt ∧ z32.toInt ≤ 60 := by rw [e_z32]; exact i_mmany _ (clt (by omega) (by omega))
            have q_z32 : z32.toInt = (mmany 3).toInt := by rw [e_z32]; rfl
            refine lv_iconst (v := -1) hx hb dX12_count_55 (by decide) ?_
            refine lv_icmp_ne (tgt := 63) hx hb dX12_count_56 (by decide) (fun c33 => ?_) (fun c33 => ?_)
            · have c33 := k_ne (a := z32.toInt) (b := -1) rfl (by decide) c33
              refine lv_iconst (v := 1) hx hb dX12_count_63 (by decide) ?_
              refine lv_iadd hx hb dX12_count_64 ?_
              refine tp_i (v := 2) (by decide) ?_
              refine lv_istore_n (lv' := [(2, .int 2), (3, .int 3), (0, .ref h0), (1, .int 12)]) hx hb dX12_count_65 rfl hl (by decide) rfl (fun ls hl => ?_)
              refine lv_iinc (v := 4) (lv' := [(3, .int 4), (2, .int 2), (0, .ref h0), (1, .int 12)]) hx hb dX12_count_66 hl (k := 1) rfl (by decide) (by decide) rfl (fun ls hl => ?_)
              refine lv_goto (tgt := 43) hx hb dX12_count_69 (by decide) ?_
              refine lv_iload_n hx hb dX12_count_43 rfl (lv_at hl 0 rfl) ?_
              refine lv_iconst (v := 4) hx hb dX12_count_44 (by decide) ?_
              refine lv_icmp_ge (tgt := 72) hx hb dX12_count_45 (by decide) (fun _ => ?_) (fun h => absurd h (by decide))
              refine lv_iload_n hx hb dX12_count_72 rfl (lv_at hl 1 rfl) ?_
              exact rt_i FX ((fun k => match k with | 0 => (2 : Int32) | _ => 0), (fun _ => fun _ => 0), (fun _ => fun _ => 0)) rfl trivial (hP.sub [0, 1, 2] rfl) (hD.sub [0, 1, 2] (by decide) rfl) hS (Nat.le_of_ble_eq_true rfl) (Nat.le_of_ble_eq_true rfl) dX12_count_73
            · have c33 := k_eq (a := z32.toInt) (b := -1) rfl (by decide) c33
              refine lv_iconst (v := 0) hx hb dX12_count_59 (by decide) ?_
              refine lv_goto (tgt := 64) hx hb dX12_count_60 (by decide) ?_
              refine lv_iadd hx hb dX12_count_64 ?_
              refine tp_i (v := 1) (by decide) ?_
              refine lv_istore_n (lv' := [(2, .int 1), (3, .int 3), (0, .ref h0), (1, .int 12)]) hx hb dX12_count_65 rfl hl (by decide) rfl (fun ls hl => ?_)
              refine lv_iinc (v := 4) (lv' := [(3, .int 4), (2, .int 1), (0, .ref h0), (1, .int 12)]) hx hb dX12_count_66 hl (k := 1) rfl (by decide) (by decide) rfl (fun ls hl => ?_)
              refine lv_goto (tgt := 43) hx hb dX12_count_69 (by decide) ?_
              refine lv_iload_n hx hb dX12_count_43 rfl (lv_at hl 0 rfl) ?_
              refine lv_iconst (v := 4) hx hb dX12_count_44 (by decide) ?_
              refine lv_icmp_ge (tgt := 72) hx hb dX12_count_45 (by decide) (fun _ => ?_) (fun h => absurd h (by decide))
              refine lv_iload_n hx hb dX12_count_72 rfl (lv_at hl 1 rfl) ?_
              exact rt_i FX ((fun k => match k with | 0 => (1 : Int32) | _ => 0), (fun _ => fun _ => 0), (fun _ => fun _ => 0)) rfl trivial (hP.sub [0, 1, 2] rfl) (hD.sub [0, 1, 2] (by decide) rfl) hS (Nat.le_of_ble_eq_true rfl) (Nat.le_of_ble_eq_true rfl) dX12_count_73
        · have c27 := k_eq (a := z26.toInt) (b := -1) rfl (by decide) c27
          refine lv_iconst (v := 0) hx hb dX12_count_59 (by decide) ?_
          refine lv_goto (tgt := 64) hx hb dX12_count_60 (by decide) ?_
          refine lv_iadd hx hb dX12_count_64 ?_
          refine tp_i (v := 0) (by decide) ?_
          refine lv_istore_n (lv' := [(2, .int 0), (3, .int 1), (0, .ref h0), (1, .int 12)]) hx hb dX12_count_65 rfl hl (by decide) rfl (fun ls hl => ?_)
          refine lv_iinc (v := 2) (lv' := [(3, .int 2), (2, .int 0), (0, .ref h0), (1, .int 12)]) hx hb dX12_count_66 hl (k := 1) rfl (by decide) (by decide) rfl (fun ls hl => ?_)
          refine lv_goto (tgt := 43) hx hb dX12_count_69 (by decide) ?_
          refine lv_iload_n hx hb dX12_count_43 rfl (lv_at hl 0 rfl) ?_
          refine lv_iconst (v := 4) hx hb dX12_count_44 (by decide) ?_
          refine lv_icmp_ge (tgt := 72) hx hb dX12_count_45 (by decide) (fun h => absurd h (by decide)) (fun _ => ?_)
          refine lv_iload_n hx hb dX12_count_48 rfl (lv_at hl 1 rfl) ?_
          refine lv_aload_n hx hb dX12_count_49 rfl (lv_at hl 2 rfl) ?_
          refine g_get (C := RX12) (T := TX12) (N := 29) (ci := 12) (v := .ref a25) FC hKn hP i_X12 0 rfl rfl 25 (by decide) b_934 rfl dX12_count_50 ?_
          refine lv_iload_n hx hb dX12_count_53 rfl (lv_at hl 0 rfl) ?_
          refine va_iald hx hb hKn.1 hP 2 0 rfl rfl (by unfold vp_in; decide) dX12_count_54 ?_
          have kc2 : (2 : Int32).toInt = 2 := by decide
          refine lv_topi (fun z34 e_z34 => ?_)
          have t_z34 : -1 ≤ z34.toInt ∧ z34.toInt ≤ 60 := by rw [e_z34]; exact i_mmany _ (clt (by omega) (by omega))
          have q_z34 : z34.toInt = (mmany 2).toInt := by rw [e_z34]; rfl
          refine lv_iconst (v := -1) hx hb dX12_count_55 (by decide) ?_
          refine lv_icmp_ne (tgt := 63) hx hb dX12_count_56 (by decide) (fun c35 => ?_) (fun c35 => ?_)
          · have c35 := k_ne (a := z34.toInt) (b := -1) rfl (by decide) c35
            refine lv_iconst (v := 1) hx hb dX12_count_63 (by decide) ?_
            refine lv_iadd hx hb dX12_count_64 ?_
            refine tp_i (v := 1) (by decide) ?_
            refine lv_istore_n (lv' := [(2, .int 1), (3, .int 2), (0, .ref h0), (1, .int 12)]) hx hb dX12_count_65 rfl hl (by decide) rfl (fun ls hl => ?_)
            refine lv_iinc (v := 3) (lv' := [(3, .int 3), (2, .int 1), (0, .ref h0), (1, .int 12)]) hx hb dX12_count_66 hl (k := 1) rfl (by decide) (by decide) rfl (fun ls hl => ?_)
            refine lv_goto (tgt := 43) hx hb dX12_count_69 (by decide) ?_
            refine lv_iload_n hx hb dX12_count_43 rfl (lv_at hl 0 rfl) ?_
            refine lv_iconst (v := 4) hx hb dX12_count_44 (by decide) ?_
            refine lv_icmp_ge (tgt := 72) hx hb dX12_count_45 (by decide) (fun h => absurd h (by decide)) (fun _ => ?_)
            refine lv_iload_n hx hb dX12_count_48 rfl (lv_at hl 1 rfl) ?_
            refine lv_aload_n hx hb dX12_count_49 rfl (lv_at hl 2 rfl) ?_
            refine g_get (C := RX12) (T := TX12) (N := 29) (ci := 12) (v := .ref a25) FC hKn hP i_X12 0 rfl rfl 25 (by decide) b_934 rfl dX12_count_50 ?_
            refine lv_iload_n hx hb dX12_count_53 rfl (lv_at hl 0 rfl) ?_
            refine va_iald hx hb hKn.1 hP 2 0 rfl rfl (by unfold vp_in; decide) dX12_count_54 ?_
            have kc3 : (3 : Int32).toInt = 3 := by decide
            refine lv_topi (fun z36 e_z36 => ?_)
            have t_z36 : -1 ≤ z36.toInt ∧ z36.toInt ≤ 60 := by rw [e_z36]; exact i_mmany _ (clt (by omega) (by omega))
            have q_z36 : z36.toInt = (mmany 3).toInt := by rw [e_z36]; rfl
            refine lv_iconst (v := -1) hx hb dX12_count_55 (by decide) ?_
            refine lv_icmp_ne (tgt := 63) hx hb dX12_count_56 (by decide) (fun c37 => ?_) (fun c37 => ?_)
            · have c37 := k_ne (a := z36.toInt) (b := -1) rfl (by decide) c37
              refine lv_iconst (v := 1) hx hb dX12_count_63 (by decide) ?_
              refine lv_iadd hx hb dX12_count_64 ?_
              refine tp_i (v := 2) (by decide) ?_
              refine lv_istore_n (lv' := [(2, .int 2), (3, .int 3), (0, .ref h0), (1, .int 12)]) hx hb dX12_count_65 rfl hl (by decide) rfl (fun ls hl => ?_)
              refine lv_iinc (v := 4) (lv' := [(3, .int 4), (2, .int 2), (0, .ref h0), (1, .int 12)]) hx hb dX12_count_66 hl (k := 1) rfl (by decide) (by decide) rfl (fun ls hl => ?_)
              refine lv_goto (tgt := 43) hx hb dX12_count_69 (by decide) ?_
              refine lv_iload_n hx hb dX12_count_43 rfl (lv_at hl 0 rfl) ?_
              refine lv_iconst (v := 4) hx hb dX12_count_44 (by decide) ?_
              refine lv_icmp_ge (tgt := 72) hx hb dX12_count_45 (by decide) (fun _ => ?_) (fun h => absurd h (by decide))
              refine lv_iload_n hx hb dX12_count_72 rfl (lv_at hl 1 rfl) ?_
              exact rt_i FX ((fun k => match k with | 0 => (2 : Int32) | _ => 0), (fun _ => fun _ => 0), (fun _ => fun _ => 0)) rfl trivial (hP.sub [0, 1, 2] rfl) (hD.sub [0, 1, 2] (by decide) rfl) hS (Nat.le_of_ble_eq_true rfl) (Nat.le_of_ble_eq_true rfl) dX12_count_73
            · have c37 := k_eq (a := z36.toInt) (b := -1) rfl (by decide) c37
              refine lv_iconst (v := 0) hx hb dX12_count_59 (by decide) ?_
              refine lv_goto (tgt := 64) hx hb dX12_count_60 (by decide) ?_
              refine lv_iadd hx hb dX12_count_64 ?_
              refine tp_i (v := 1) (by decide) ?_
              refine lv_istore_n (lv' := [(2, .int 1), (3, .int 3), (0, .ref h0), (1, .int 12)]) hx hb dX12_count_65 rfl hl (by decide) rfl (fun ls hl => ?_)
              refine lv_iinc (v := 4) (lv' := [(3, .int 4), (2, .int 1), (0, .ref h0), (1, .int 12)]) hx hb dX12_count_66 hl (k := 1) rfl (by decide) (by decide) rfl (fun ls hl => ?_)
              refine lv_goto (tgt := 43) hx hb dX12_count_69 (by decide) ?_
              refine lv_iload_n hx hb dX12_count_43 rfl (lv_at hl 0 rfl) ?_
              refine lv_iconst (v := 4) hx hb dX12_count_44 (by decide) ?_
              refine lv_icmp_ge (tgt := 72) hx hb dX12_count_45 (by decide) (fun _ => ?_) (fun h => absurd h (by decide))
              refine lv_iload_n hx hb dX12_count_72 rfl (lv_at hl 1 rfl) ?_
              exact rt_i FX ((fun k => match k with | 0 => (1 : Int32) | _ => 0), (fun _ => fun _ => 0), (fun _ => fun _ => 0)) rfl trivial (hP.sub [0, 1, 2] rfl) (hD.sub [0, 1, 2] (by decide) rfl) hS (Nat.le_of_ble_eq_true rfl) (Nat.le_of_ble_eq_true rfl) dX12_count_73
          · have c35 := k_eq (a := z34.toInt) (b := -1) rfl (by decide) c35
            refine lv_iconst (v := 0) hx hb dX12_count_59 (by decide) ?_
            refine lv_goto (tgt := 64) hx hb dX12_count_60 (by decide) ?_
            refine lv_iadd hx hb dX12_count_64 ?_
            refine tp_i (v := 0) (by decide) ?_
            refine lv_istore_n (lv' := [(2, .int 0), (3, .int 2), (0, .ref h0), (1, .int 12)]) hx hb dX12_count_65 rfl hl (by decide) rfl (fun ls hl => ?_)
            refine lv_iinc (v := 3) (lv' := [(3, .int 3), (2, .int 0), (0, .ref h0), (1, .int 12)]) hx hb dX12_count_66 hl (k := 1) rfl (by decide) (by decide) rfl (fun ls hl => ?_)
            refine lv_goto (tgt := 43) hx hb dX12_count_69 (by decide) ?_
            refine lv_iload_n hx hb dX12_count_43 rfl (lv_at hl 0 rfl) ?_
            refine lv_iconst (v := 4) hx hb dX12_count_44 (by decide) ?_
            refine lv_icmp_ge (tgt := 72) hx hb dX12_count_45 (by decide) (fun h => absurd h (by decide)) (fun _ => ?_)
            refine lv_iload_n hx hb dX12_count_48 rfl (lv_at hl 1 rfl) ?_
            refine lv_aload_n hx hb dX12_count_49 rfl (lv_at hl 2 rfl) ?_
            refine g_get (C := RX12) (T := TX12) (N := 29) (ci := 12) (v := .ref a25) FC hKn hP i_X12 0 rfl rfl 25 (by decide) b_934 rfl dX12_count_50 ?_
            refine lv_iload_n hx hb dX12_count_53 rfl (lv_at hl 0 rfl) ?_
            refine va_iald hx hb hKn.1 hP 2 0 rfl rfl (by unfold vp_in; decide) dX12_count_54 ?_
            have kc3 : (3 : Int32).toInt = 3 := by decide
            refine lv_topi (fun z38 e_z38 => ?_)
            have t_z38 : -1 ≤ z38.toInt ∧ z38.toInt ≤ 60 := by rw [e_z38]; exact i_mmany _ (clt (by omega) (by omega))
            have q_z38 : z38.toInt = (mmany 3).toInt := by rw [e_z38]; rfl
            refine lv_iconst (v := -1) hx hb dX12_count_55 (by decide) ?_
            refine lv_icmp_ne (tgt := 63) hx hb dX12_count_56 (by decide) (fun c39 => ?_) (fun c39 => ?_)
            · have c39 := k_ne (a := z38.toInt) (b := -1) rfl (by decide) c39
              refine lv_iconst (v := 1) hx hb dX12_count_63 (by decide) ?_
              refine lv_iadd hx hb dX12_count_64 ?_
              refine tp_i (v := 1) (by decide) ?_
              refine lv_istore_n (lv' := [(2, .int 1), (3, .int 3), (0, .ref h0), (1, .int 12)]) hx hb dX12_count_65 rfl hl (by decide) rfl (fun ls hl => ?_)
              refine lv_iinc (v := 4) (lv' := [(3, .int 4), (2, .int 1), (0, .ref h0), (1, .int 12)]) hx hb dX12_count_66 hl (k := 1) rfl (by decide) (by decide) rfl (fun ls hl => ?_)
              refine lv_goto (tgt := 43) hx hb dX12_count_69 (by decide) ?_
              refine lv_iload_n hx hb dX12_count_43 rfl (lv_at hl 0 rfl) ?_
              refine lv_iconst (v := 4) hx hb dX12_count_44 (by decide) ?_
              refine lv_icmp_ge (tgt := 72) hx hb dX12_count_45 (by decide) (fun _ => ?_) (fun h => absurd h (by decide))
              refine lv_iload_n hx hb dX12_count_72 rfl (lv_at hl 1 rfl) ?_
              exact rt_i FX ((fun k => match k with | 0 => (1 : Int32) | _ => 0), (fun _ => fun _ => 0), (fun _ => fun _ => 0)) rfl trivial (hP.sub [0, 1, 2] rfl) (hD.sub [0, 1, 2] (by decide) rfl) hS (Nat.le_of_ble_eq_true rfl) (Nat.le_of_ble_eq_true rfl) dX12_count_73
            · have c39 := k_eq (a := z38.toInt) (b := -1) rfl (by decide) c39
              refine lv_iconst (v := 0) hx hb dX12_count_59 (by decide) ?_
              refine lv_goto (tgt := 64) hx hb dX12_count_60 (by decide) ?_
              refine lv_iadd hx hb dX12_count_64 ?_
              refine tp_i (v := 0) (by decide) ?_
              refine lv_istore_n (lv' := [(2, .int 0), (3, .int 3), (0, .ref h0), (1, .int 12)]) hx hb dX12_count_65 rfl hl (by decide) rfl (fun ls hl => ?_)
              refine lv_iinc (v := 4) (lv' := [(3, .int 4), (2, .int 0), (0, .ref h0), (1, .int 12)]) hx hb dX12_count_66 hl (k := 1) rfl (by decide) (by decide) rfl (fun ls hl => ?_)
              refine lv_goto (tgt := 43) hx hb dX12_count_69 (by decide) ?_
              refine lv_iload_n hx hb dX12_count_43 rfl (lv_at hl 0 rfl) ?_
              refine lv_iconst (v := 4) hx hb dX12_count_44 (by decide) ?_
              refine lv_icmp_ge (tgt := 72) hx hb dX12_count_45 (by decide) (fun _ => ?_) (fun h => absurd h (by decide))
              refine lv_iload_n hx hb dX12_count_72 rfl (lv_at hl 1 rfl) ?_
              exact rt_i FX ((fun k => match k with | 0 => (0 : Int32) | _ => 0), (fun _ => fun _ => 0), (fun _ => fun _ => 0)) rfl trivial (hP.sub [0, 1, 2] rfl) (hD.sub [0, 1, 2] (by decide) rfl) hS (Nat.le_of_ble_eq_true rfl) (Nat.le_of_ble_eq_true rfl) dX12_count_73
