set_option maxRecDepth 100000 in
set_option maxHeartbeats 4000000 in
theorem k_X12_unsaid (l : Launch) (g : GG) (h0 : Nat) (a1 : Nat) (a2 : Nat) (a3 : Nat) (a4 : Nat) (a6 : Nat) (a14 : Nat) (a15 : Nat) (a19 : Nat) (a20 : Nat) (a23 : Nat) (a24 : Nat) (a25 : Nat) (a26 : Nat) (a27 : Nat) (a28 : Nat) (mthrown : Int32) (mtaped : Int32) (msize : Int32) (mat : Int32) (mfrom : Int32) (mtoken : Int32) (mvalue : Int32) (mfaultKind : Int32) (mfaultPlace : Int32) (mgoal : Int32) (mgoalDays : Int32) (mgoalHearer : Int32) (mleastOrder : Int32) (mwordsMany : Int32) (mworld : Nat → Int32) (i_mtaped : 0 ≤ mtaped.toInt ∧ mtaped.toInt ≤ 900) (i_msize : 0 ≤ msize.toInt ∧ msize.toInt ≤ 900) (i_mat : 0 ≤ mat.toInt ∧ mat.toInt ≤ 900) (i_mfrom : 0 ≤ mfrom.toInt ∧ mfrom.toInt ≤ 900) (i_mtoken : 0 ≤ mtoken.toInt ∧ mtoken.toInt ≤ 4) (i_mvalue : 0 ≤ mvalue.toInt ∧ mvalue.toInt ≤ 99999) (i_mgoalHearer : 0 ≤ mgoalHearer.toInt ∧ mgoalHearer.toInt ≤ 3) (i_mwordsMany : 0 ≤ mwordsMany.toInt ∧ mwordsMany.toInt ≤ 10) (i_mworld : wod mworld) : Ct l g yX12_unsaid cX12_unsaid 5 (some .int) { frames := 1, cells := 0, slots := 0, locals := 21 } [.ref h0] [(h0, .inr (12, [.int mthrown, .ref a1, .ref a2, .ref a3, .ref a4, .int mtaped, .ref a6, .int msize, .int mat, .int mfrom, .int mtoken, .int mvalue, .int mfaultKind, .int mfaultPlace, .ref a14, .ref a15, .int mgoal, .int mgoalDays, .int mgoalHearer, .ref a19, .ref a20, .int mleastOrder, .int mwordsMany, .ref a23, .ref a24, .ref a25, .ref a26, .ref a27, .ref a28])), (a1, .inl (g.2 0, 225, .inl mworld))] (S := (Nat → Int32) × (Nat → Nat → Int32) × (Nat → Nat → Int64)) (fun u => some (.int (u.1 0))) (fun u => True) (fun u => [(h0, .inr (12, [.int mthrown, .ref a1, .ref a2, .ref a3, .ref a4, .int mtaped, .ref a6, .int msize, .int mat, .int mfrom, .int mtoken, .int mvalue, .int mfaultKind, .int mfaultPlace, .ref a14, .ref a15, .int mgoal, .int mgoalDays, .int mgoalHearer, .ref a19, .ref a20, .int mleastOrder, .int mwordsMany, .ref a23, .ref a24, .ref a25, .ref a26, .ref a27, .ref a28])), (a1, .inl (g.2 0, 225, .inl mworld))]) := by
  refine Ct.of (by decide) (Nat.le_of_ble_eq_true rfl) ?_
  intro p e s m below meth c A ls FX hP hD hS hl
  obtain ⟨FC, hr, hlk, hKn, hA, hnm, hZ⟩ := id FX
  have FC : CallFix p m c cX12_unsaid 5 s _ BIG RX12 := FC
  obtain ⟨hx, hb, hml, hown, hB⟩ := id FC
  have hl : lv_has ls 5 [(0, .ref h0)] := hl
  refine lv_aload_n hx hb dX12_unsaid_0 rfl (lv_at hl 0 rfl) ?_
  refine call_V (As := []) (rest := []) (wr := []) FC hKn hZ (k_X12_isDesk l g h0 a1 a2 a3 a4 a6 a14 a15 a19 a20 a23 a24 a25 a26 a27 a28 mthrown mtaped msize mat mfrom mtoken mvalue mfaultKind mfaultPlace mgoal mgoalDays mgoalHearer mleastOrder mwordsMany mworld (by omega) (by omega) (by omega) (by omega) (by omega) (by omega) (by omega) (by omega) i_mworld) m_yX12_isDesk b_805 (ci := 12) rfl rfl rfl hP hD hS hA [0, 1] [] rfl (by decide) rfl (by decide) (by decide) rfl hl.1 rfl (Nat.le_of_ble_eq_true rfl) dX12_unsaid_1 ⟨(Nat.le_of_ble_eq_true rfl), (Nat.le_of_ble_eq_true rfl)⟩ ⟨(Nat.le_of_ble_eq_true rfl), (Nat.le_of_ble_eq_true rfl)⟩ (fun u1 H locs q2 hP hD hS => ?_)
  obtain ⟨q2_0, q2_1⟩ := q2
  have hP : va_P g.1 vwCl [(h0, .inr (12, [.int mthrown, .ref a1, .ref a2, .ref a3, .ref a4, .int mtaped, .ref a6, .int msize, .int mat, .int mfrom, .int mtoken, .int mvalue, .int mfaultKind, .int mfaultPlace, .ref a14, .ref a15, .int mgoal, .int mgoalDays, .int mgoalHearer, .ref a19, .ref a20, .int mleastOrder, .int mwordsMany, .ref a23, .ref a24, .ref a25, .ref a26, .ref a27, .ref a28])), (a1, .inl (g.2 0, 225, .inl mworld))] H := hP
  have hD : va_D A [(h0, .inr (12, [.int mthrown, .ref a1, .ref a2, .ref a3, .ref a4, .int mtaped, .ref a6, .int msize, .int mat, .int mfrom, .int mtoken, .int mvalue, .int mfaultKind, .int mfaultPlace, .ref a14, .ref a15, .int mgoal, .int mgoalDays, .int mgoalHearer, .ref a19, .ref a20, .int mleastOrder, .int mwordsMany, .ref a23, .ref a24, .ref a25, .ref a26, .ref a27, .ref a28])), (a1, .inl (g.2 0, 225, .inl mworld))] := hD
  refine W.eq (g2 := F0 m 4 ls [.int (u1.1 0)]) rfl ?_
  rcases (show (u1.1 0).toInt = 0 ∨ (u1.1 0).toInt = 1 by omega) with c3 | c3
  · skip
    refine lv_if_ne (tgt := 10) hx hb dX12_unsaid_4 (by decide) (fun c4 => ?_) (fun c4 => ?_)
    · have c4 := k_ne (a := (u1.1 0).toInt) (b := 0) rfl (by decide) c4
      exfalso; omega
    · have c4 := k_eq (a := (u1.1 0).toInt) (b := 0) rfl (by decide) c4
      refine lv_bipush (v := -2) hx hb dX12_unsaid_7 (by decide) ?_
      exact rt_i FX ((fun k => match k with | 0 => (-2 : Int32) | _ => 0), (fun _ => fun _ => 0), (fun _ => fun _ => 0)) rfl trivial (hP.sub [0, 1] rfl) (hD.sub [0, 1] (by decide) rfl) hS (Nat.le_of_ble_eq_true rfl) (Nat.le_of_ble_eq_true rfl) dX12_unsaid_9
  · have c3_r := q2_1 c3
    refine lv_if_ne (tgt := 10) hx hb dX12_unsaid_4 (by decide) (fun c5 => ?_) (fun c5 => ?_)
    · have c5 := k_ne (a := (u1.1 0).toInt) (b := 0) rfl (by decide) c5
      refine lv_iconst (v := 0) hx hb dX12_unsaid_10 (by decide) ?_
      refine lv_istore_n (lv' := [(1, .int 0), (0, .ref h0)]) hx hb dX12_unsaid_11 rfl hl (by decide) rfl (fun ls hl => ?_)
      refine lv_iconst (v := 0) hx hb dX12_unsaid_12 (by decide) ?_
      refine lv_istore_n (lv' := [(2, .int 0), (1, .int 0), (0, .ref h0)]) hx hb dX12_unsaid_13 rfl hl (by decide) rfl (fun ls hl => ?_)
      have lp1950 : ∀ (n1952 : Nat) (x1948 : Int32) (x1949 : Int32) (H : Heap) (locs : List Loc) (ls : Array Slot), 0 ≤ x1948.toInt ∧ x1948.toInt ≤ 8 → (8 - x1948.toInt).toNat < n1952 → va_P g.1 vwCl [(h0, .inr (12, [.int mthrown, .ref a1, .ref a2, .ref a3, .ref a4, .int mtaped, .ref a6, .int msize, .int mat, .int mfrom, .int mtoken, .int mvalue, .int mfaultKind, .int mfaultPlace, .ref a14, .ref a15, .int mgoal, .int mgoalDays, .int mgoalHearer, .ref a19, .ref a20, .int mleastOrder, .int mwordsMany, .ref a23, .ref a24, .ref a25, .ref a26, .ref a27, .ref a28])), (a1, .inl (g.2 0, 225, .inl mworld))] H → va_D A [(h0, .inr (12, [.int mthrown, .ref a1, .ref a2, .ref a3, .ref a4, .int mtaped, .ref a6, .int msize, .int mat, .int mfrom, .int mtoken, .int mvalue, .int mfaultKind, .int mfaultPlace, .ref a14, .ref a15, .int mgoal, .int mgoalDays, .int mgoalHearer, .ref a19, .ref a20, .int mleastOrder, .int mwordsMany, .ref a23, .ref a24, .ref a25, .ref a26, .ref a27, .ref a28])), (a1, .inl (g.2 0, 225, .inl mworld))] → va_S A s.heap H locs → lv_has ls 5 [(2, .int x1948), (1, .int x1949), (0, .ref h0)] → W p l e { frames := 1, cells := 0, slots := 0, locals := 21 } s m ([.ref h0].toArray) below meth c H locs 0 0 (MQ below (QX (S := (Nat → Int32) × (Nat → Nat → Int32) × (Nat → Nat → Int64)) (fun u => some (.int (u.1 0))) (fun u => True) g (fun u => [(h0, .inr (12, [.int mthrown, .ref a1, .ref a2, .ref a3, .ref a4, .int mtaped, .ref a6, .int msize, .int mat, .int mfrom, .int mtoken, .int mvalue, .int mfaultKind, .int mfaultPlace, .ref a14, .ref a15, .int mgoal, .int mgoalDays, .int mgoalHearer, .ref a19, .ref a20, .int mleastOrder, .int mwordsMany, .ref a23, .ref a24, .ref a25, .ref a26, .ref a27, .ref a28])), (a1, .inl (g.2 0, 225, .inl mworld))]) A) ([.ref h0].toArray) s 0 0 A) (F0 m 14 ls []) := by
        intro n1952
        induction n1952 with
        | zero =>
          intro x1948 x1949 H locs ls h_x1948 hn1953
          exact absurd hn1953 (Nat.not_lt_zero _)
        | succ n1952 ih1951 =>
          intro x1948 x1949 H locs ls h_x1948 hn1953 hP hD hS hl
          refine lv_iload_n hx hb dX12_unsaid_14 rfl (lv_at hl 0 rfl) ?_
          refine lv_aload_n hx hb dX12_unsaid_15 rfl (lv_at hl 2 rfl) ?_
          refine g_get (C := RX12) (T := TX12) (N := 29) (ci := 12) (v := .ref a1) FC hKn hP i_X12 0 rfl rfl 1 (by decide) b_801 rfl dX12_unsaid_16 ?_
          refine lv_iconst (v := 0) hx hb dX12_unsaid_19 (by decide) ?_
          refine va_iald hx hb hKn.1 hP 1 0 rfl rfl (by unfold vp_in; decide) dX12_unsaid_20 ?_
          have kc0 : (0 : Int32).toInt = 0 := by decide
          refine lv_topi (fun z1954 e_z1954 => ?_)
          have t_z1954 : 0 ≤ z1954.toInt ∧ z1954.toInt ≤ 8 := by rw [e_z1954]; exact wk_0 i_mworld.1
          have q_z1954 : z1954.toInt = (mworld 0).toInt := by rw [e_z1954]; rfl
          refine lv_icmp_ge (tgt := 103) hx hb dX12_unsaid_21 (by decide) (fun c1955 => ?_) (fun c1955 => ?_)
          · have c1955 := k_le (a := z1954.toInt) (b := x1948.toInt) rfl rfl c1955
            refine lv_iload_n hx hb dX12_unsaid_103 rfl (lv_at hl 1 rfl) ?_
            exact rt_i FX ((fun k => match k with | 0 => x1949 | _ => 0), (fun _ => fun _ => 0), (fun _ => fun _ => 0)) rfl trivial (hP.sub [0, 1] rfl) (hD.sub [0, 1] (by decide) rfl) hS (Nat.le_of_ble_eq_true rfl) (Nat.le_of_ble_eq_true rfl) dX12_unsaid_104
          · have c1955 := k_nle (a := z1954.toInt) (b := x1948.toInt) rfl rfl c1955
            refine lv_aload_n hx hb dX12_unsaid_24 rfl (lv_at hl 2 rfl) ?_
            refine call_V (As := []) (rest := []) (wr := []) FC hKn hZ (k_X12_allStates l g h0 a1 a2 a3 a4 a6 a14 a15 a19 a20 a23 a24 a25 a26 a27 a28 mthrown mtaped msize mat mfrom mtoken mvalue mfaultKind mfaultPlace mgoal mgoalDays mgoalHearer mleastOrder mwordsMany mworld (by omega) (by omega) (by omega) (by omega) (by omega) (by omega) (by omega) (by omega) i_mworld) m_yX12_allStates b_806 (ci := 12) rfl rfl rfl hP hD hS hA [0, 1] [] rfl (by decide) rfl (by decide) (by decide) rfl hl.1 rfl (Nat.le_of_ble_eq_true rfl) dX12_unsaid_25 ⟨(Nat.le_of_ble_eq_true rfl), (Nat.le_of_ble_eq_true rfl)⟩ ⟨(Nat.le_of_ble_eq_true rfl), (Nat.le_of_ble_eq_true rfl)⟩ (fun u1956 H locs q1957 hP hD hS => ?_)
            obtain ⟨q1957_0, q1957_1, q1957_2⟩ := q1957
            have hP : va_P g.1 vwCl [(h0, .inr (12, [.int mthrown, .ref a1, .ref a2, .ref a3, .ref a4, .int mtaped, .ref a6, .int msize, .int mat, .int mfrom, .int mtoken, .int mvalue, .int mfaultKind, .int mfaultPlace, .ref a14, .ref a15, .int mgoal, .int mgoalDays, .int mgoalHearer, .ref a19, .ref a20, .int mleastOrder, .int mwordsMany, .ref a23, .ref a24, .ref a25, .ref a26, .ref a27, .ref a28])), (a1, .inl (g.2 0, 225, .inl mworld))] H := hP
            have hD : va_D A [(h0, .inr (12, [.int mthrown, .ref a1, .ref a2, .ref a3, .ref a4, .int mtaped, .ref a6, .int msize, .int mat, .int mfrom, .int mtoken, .int mvalue, .int mfaultKind, .int mfaultPlace, .ref a14, .ref a15, .int mgoal, .int mgoalDays, .int mgoalHearer, .ref a19, .ref a20, .int mleastOrder, .int mwordsMany, .ref a23, .ref a24, .ref a25, .ref a26, .ref a27, .ref a28])), (a1, .inl (g.2 0, 225, .inl mworld))] := hD
            refine W.eq (g2 := F0 m 28 ls [.int (u1956.1 0)]) rfl ?_
            rw [q1957_1] at q1957_0
            rw [q1957_1] at q1957_2
            refine tp_i (v := asF mworld) q1957_1 ?_
            refine lv_istore_n (lv' := [(3, .int (asF mworld)), (2, .int x1948), (1, .int x1949), (0, .ref h0)]) hx hb dX12_unsaid_28 rfl hl (by decide) rfl (fun ls hl => ?_)
            refine lv_iconst (v := 0) hx hb dX12_unsaid_29 (by decide) ?_
            refine lv_istore (lv' := [(4, .int 0), (3, .int (asF mworld)), (2, .int x1948), (1, .int x1949), (0, .ref h0)]) hx hb dX12_unsaid_30 hl (by decide) rfl (fun ls hl => ?_)
            have lp2148 : ∀ (n2150 : Nat) (x2146 : Int32) (x2147 : Int32) (H : Heap) (locs : List Loc) (ls : Array Slot), 0 ≤ x2146.toInt ∧ x2146.toInt ≤ 8 → 0 ≤ x2147.toInt ∧ x2147.toInt ≤ 255 → (8 - x2146.toInt).toNat < n2150 → va_P g.1 vwCl [(h0, .inr (12, [.int mthrown, .ref a1, .ref a2, .ref a3, .ref a4, .int mtaped, .ref a6, .int msize, .int mat, .int mfrom, .int mtoken, .int mvalue, .int mfaultKind, .int mfaultPlace, .ref a14, .ref a15, .int mgoal, .int mgoalDays, .int mgoalHearer, .ref a19, .ref a20, .int mleastOrder, .int mwordsMany, .ref a23, .ref a24, .ref a25, .ref a26, .ref a27, .ref a28])), (a1, .inl (g.2 0, 225, .inl mworld))] H → va_D A [(h0, .inr (12, [.int mthrown, .ref a1, .ref a2, .ref a3, .ref a4, .int mtaped, .ref a6, .int msize, .int mat, .int mfrom, .int mtoken, .int mvalue, .int mfaultKind, .int mfaultPlace, .ref a14, .ref a15, .int mgoal, .int mgoalDays, .int mgoalHearer, .ref a19, .ref a20, .int mleastOrder, .int mwordsMany, .ref a23, .ref a24, .ref a25, .ref a26, .ref a27, .ref a28])), (a1, .inl (g.2 0, 225, .inl mworld))] → va_S A s.heap H locs → lv_has ls 5 [(4, .int x2146), (3, .int x2147), (2, .int x1948), (1, .int x1949), (0, .ref h0)] → W p l e { frames := 1, cells := 0, slots := 0, locals := 21 } s m ([.ref h0].toArray) below meth c H locs 0 0 (MQ below (QX (S := (Nat → Int32) × (Nat → Nat → Int32) × (Nat → Nat → Int64)) (fun u => some (.int (u.1 0))) (fun u => True) g (fun u => [(h0, .inr (12, [.int mthrown, .ref a1, .ref a2, .ref a3, .ref a4, .int mtaped, .ref a6, .int msize, .int mat, .int mfrom, .int mtoken, .int mvalue, .int mfaultKind, .int mfaultPlace, .ref a14, .ref a15, .int mgoal, .int mgoalDays, .int mgoalHearer, .ref a19, .ref a20, .int mleastOrder, .int mwordsMany, .ref a23, .ref a24, .ref a25, .ref a26, .ref a27, .ref a28])), (a1, .inl (g.2 0, 225, .inl mworld))]) A) ([.ref h0].toArray) s 0 0 A) (F0 m 32 ls []) := by
              intro n2150
              induction n2150 with
              | zero =>
                intro x2146 x2147 H locs ls h_x2146 h_x2147 hn2151
                exact absurd hn2151 (Nat.not_lt_zero _)
              | succ n2150 ih2149 =>
                intro x2146 x2147 H locs ls h_x2146 h_x2147 hn2151 hP hD hS hl
                refine lv_iload hx hb dX12_unsaid_32 (lv_at hl 0 rfl) ?_
                refine lv_aload_n hx hb dX12_unsaid_34 rfl (lv_at hl 4 rfl) ?_
                refine g_get (C := RX12) (T := TX12) (N := 29) (ci := 12) (v := .ref a1) FC hKn hP i_X12 0 rfl rfl 1 (by decide) b_801 rfl dX12_unsaid_35 ?_
                refine lv_bipush (v := 6) hx hb dX12_unsaid_38 (by decide) ?_
                refine va_iald hx hb hKn.1 hP 1 0 rfl rfl (by unfold vp_in; decide) dX12_unsaid_40 ?_
                have kc6 : (6 : Int32).toInt = 6 := by decide
                refine lv_topi (fun z2152 e_z2152 => ?_)
                have t_z2152 : 0 ≤ z2152.toInt ∧ z2152.toInt ≤ 8 := by rw [e_z2152]; exact wk_6 i_mworld.1
                have q_z2152 : z2152.toInt = (mworld 6).toInt := by rw [e_z2152]; rfl
                refine lv_icmp_ge (tgt := 80) hx hb dX12_unsaid_41 (by decide) (fun c2153 => ?_) (fun c2153 => ?_)
                · have c2153 := k_le (a := z2152.toInt) (b := x2146.toInt) rfl rfl c2153
                  refine lv_iload_n hx hb dX12_unsaid_80 rfl (lv_at hl 3 rfl) ?_
                  refine lv_iload_n hx hb dX12_unsaid_81 rfl (lv_at hl 1 rfl) ?_
                  refine lv_iconst (v := 1) hx hb dX12_unsaid_82 (by decide) ?_
                  refine lv_iload_n hx hb dX12_unsaid_83 rfl (lv_at hl 2 rfl) ?_
                  refine lv_ishl hx hb dX12_unsaid_84 ?_
                  refine lv_topi (fun z2154 e_z2154 => ?_)
                  have t_z2154 : 1 ≤ z2154.toInt ∧ z2154.toInt ≤ 128 := by rw [e_z2154]; exact shl_b (n := 7) (by omega) (by omega) (by decide)
                  refine lv_icmp_ne (tgt := 92) hx hb dX12_unsaid_85 (by decide) (fun c2155 => ?_) (fun c2155 => ?_)
                  · have c2155 := k_ne (a := x2147.toInt) (b := z2154.toInt) rfl rfl c2155
                    refine lv_iconst (v := 1) hx hb dX12_unsaid_92 (by decide) ?_
                    refine lv_iload_n hx hb dX12_unsaid_93 rfl (lv_at hl 2 rfl) ?_
                    refine lv_ishl hx hb dX12_unsaid_94 ?_
                    refine lv_topi (fun z2156 e_z2156 => ?_)
                    have t_z2156 : 1 ≤ z2156.toInt ∧ z2156.toInt ≤ 128 := by rw [e_z2156]; exact shl_b (n := 7) (by omega) (by omega) (by decide)
                    refine lv_ior hx hb dX12_unsaid_95 ?_
                    refine lv_topi (fun z2157 e_z2157 => ?_)
                    refine lv_istore_n (lv' := [(1, .int z2157), (4, .int x2146), (3, .int x2147), (2, .int x1948), (0, .ref h0)]) hx hb dX12_unsaid_96 rfl hl (by decide) rfl (fun ls hl => ?_)
                    obtain ⟨z2158, e_z2158⟩ : ∃ y : Int32, y = x1948 + 1 := ⟨_, rfl⟩
                    have t_z2158 : z2158.toInt = x1948.toInt + 1 := by rw [e_z2158]; exact addk (by decide) (by omega) (by omega)
                    refine lv_iinc (v := z2158) (lv' := [(2, .int z2158), (1, .int z2157), (4, .int x2146), (3, .int x2147), (0, .ref h0)]) hx hb dX12_unsaid_97 hl (k := 3) rfl (by rw [e_z2158]; rfl) (by decide) rfl (fun ls hl => ?_)
                    refine lv_goto (tgt := 14) hx hb dX12_unsaid_100 (by decide) ?_
                    exact ih1951 z2158 z2157 _ _ ls (by omega) (by omega) hP hD hS (lv_sub hl [0, 1, 4] rfl)
                  · have c2155 := k_eq (a := x2147.toInt) (b := z2154.toInt) rfl rfl c2155
                    refine lv_iconst (v := 0) hx hb dX12_unsaid_88 (by decide) ?_
                    refine lv_goto (tgt := 95) hx hb dX12_unsaid_89 (by decide) ?_
                    refine lv_ior hx hb dX12_unsaid_95 ?_
                    refine lv_topi (fun z2159 e_z2159 => ?_)
                    refine lv_istore_n (lv' := [(1, .int z2159), (4, .int x2146), (3, .int x2147), (2, .int x1948), (0, .ref h0)]) hx hb dX12_unsaid_96 rfl hl (by decide) rfl (fun ls hl => ?_)
                    obtain ⟨z2160, e_z2160⟩ : ∃ y : Int32, y = x1948 + 1 := ⟨_, rfl⟩
                    have t_z2160 : z2160.toInt = x1948.toInt + 1 := by rw [e_z2160]; exact addk (by decide) (by omega) (by omega)
                    refine lv_iinc (v := z2160) (lv' := [(2, .int z2160), (1, .int z2159), (4, .int x2146), (3, .int x2147), (0, .ref h0)]) hx hb dX12_unsaid_97 hl (k := 3) rfl (by rw [e_z2160]; rfl) (by decide) rfl (fun ls hl => ?_)
                    refine lv_goto (tgt := 14) hx hb dX12_unsaid_100 (by decide) ?_
                    exact ih1951 z2160 z2159 _ _ ls (by omega) (by omega) hP hD hS (lv_sub hl [0, 1, 4] rfl)
                · have c2153 := k_nle (a := z2152.toInt) (b := x2146.toInt) rfl rfl c2153
                  refine lv_iload_n hx hb dX12_unsaid_44 rfl (lv_at hl 1 rfl) ?_
                  refine lv_aload_n hx hb dX12_unsaid_45 rfl (lv_at hl 4 rfl) ?_
                  refine lv_iload hx hb dX12_unsaid_46 (lv_at hl 0 rfl) ?_
                  refine call_V (As := [.int x2146]) (rest := [.int x2147]) (wr := []) FC hKn hZ (k_X12_statesOf l g h0 a1 a2 a3 a4 a6 a14 a15 a19 a20 a23 a24 a25 a26 a27 a28 mthrown mtaped msize mat mfrom mtoken mvalue mfaultKind mfaultPlace mgoal mgoalDays mgoalHearer mleastOrder mwordsMany mworld x2146 (by omega) (by omega) (by omega) (by omega) (by omega) (by omega) (by omega) (by omega) i_mworld (by omega)) m_yX12_statesOf b_848 (ci := 12) rfl rfl rfl hP hD hS hA [0, 1] [] rfl (by decide) rfl (by decide) (by decide) rfl hl.1 rfl (Nat.le_of_ble_eq_true rfl) dX12_unsaid_48 ⟨(Nat.le_of_ble_eq_true rfl), (Nat.le_of_ble_eq_true rfl)⟩ ⟨(Nat.le_of_ble_eq_true rfl), (Nat.le_of_ble_eq_true rfl)⟩ (fun u2161 H locs q2162 hP hD hS => ?_)
                  obtain ⟨q2162_0, q2162_1, q2162_2⟩ := q2162
                  have hP : va_P g.1 vwCl [(h0, .inr (12, [.int mthrown, .ref a1, .ref a2, .ref a3, .ref a4, .int mtaped, .ref a6, .int msize, .int mat, .int mfrom, .int mtoken, .int mvalue, .int mfaultKind, .int mfaultPlace, .ref a14, .ref a15, .int mgoal, .int mgoalDays, .int mgoalHearer, .ref a19, .ref a20, .int mleastOrder, .int mwordsMany, .ref a23, .ref a24, .ref a25, .ref a26, .ref a27, .ref a28])), (a1, .inl (g.2 0, 225, .inl mworld))] H := hP
                  have hD : va_D A [(h0, .inr (12, [.int mthrown, .ref a1, .ref a2, .ref a3, .ref a4, .int mtaped, .ref a6, .int msize, .int mat, .int mfrom, .int mtoken, .int mvalue, .int mfaultKind, .int mfaultPlace, .ref a14, .ref a15, .int mgoal, .int mgoalDays, .int mgoalHearer, .ref a19, .ref a20, .int mleastOrder, .int mwordsMany, .ref a23, .ref a24, .ref a25, .ref a26, .ref a27, .ref a28])), (a1, .inl (g.2 0, 225, .inl mworld))] := hD
                  refine W.eq (g2 := F0 m 51 ls [.int (u2161.1 0), .int x2147]) rfl ?_
                  rw [q2162_1] at q2162_0
                  rw [q2162_1] at q2162_2
                  refine tp_i (v := ofF mworld x2146) q2162_1 ?_
                  refine lv_iload_n hx hb dX12_unsaid_51 rfl (lv_at hl 2 rfl) ?_
                  refine call_S (As := [.int (ofF mworld x2146), .int x1948]) (rest := [.int x2147]) (wr := [(h0, .inr (12, [.int mthrown, .ref a1, .ref a2, .ref a3, .ref a4, .int mtaped, .ref a6, .int msize, .int mat, .int mfrom, .int mtoken, .int mvalue, .int mfaultKind, .int mfaultPlace, .ref a14, .ref a15, .int mgoal, .int mgoalDays, .int mgoalHearer, .ref a19, .ref a20, .int mleastOrder, .int mwordsMany, .ref a23, .ref a24, .ref a25, .ref a26, .ref a27, .ref a28])), (a1, .inl (g.2 0, 225, .inl mworld))]) FC hKn hZ (k_X12_bit l g (ofF mworld x2146) x1948) m_yX12_bit b_849 hP hD hS hA [] [0, 1] rfl (by decide) rfl (by decide) (by decide) rfl hl.1 rfl (Nat.le_of_ble_eq_true rfl) dX12_unsaid_52 ⟨(Nat.le_of_ble_eq_true rfl), (Nat.le_of_ble_eq_true rfl)⟩ ⟨(Nat.le_of_ble_eq_true rfl), (Nat.le_of_ble_eq_true rfl)⟩ (fun u2163 H locs q2164 hP hD hS => ?_)
                  obtain ⟨q2164_0, q2164_1⟩ := q2164
                  have hP : va_P g.1 vwCl [(h0, .inr (12, [.int mthrown, .ref a1, .ref a2, .ref a3, .ref a4, .int mtaped, .ref a6, .int msize, .int mat, .int mfrom, .int mtoken, .int mvalue, .int mfaultKind, .int mfaultPlace, .ref a14, .ref a15, .int mgoal, .int mgoalDays, .int mgoalHearer, .ref a19, .ref a20, .int mleastOrder, .int mwordsMany, .ref a23, .ref a24, .ref a25, .ref a26, .ref a27, .ref a28])), (a1, .inl (g.2 0, 225, .inl mworld))] H := hP
                  have hD : va_D A [(h0, .inr (12, [.int mthrown, .ref a1, .ref a2, .ref a3, .ref a4, .int mtaped, .ref a6, .int msize, .int mat, .int mfrom, .int mtoken, .int mvalue, .int mfaultKind, .int mfaultPlace, .ref a14, .ref a15, .int mgoal, .int mgoalDays, .int mgoalHearer, .ref a19, .ref a20, .int mleastOrder, .int mwordsMany, .ref a23, .ref a24, .ref a25, .ref a26, .ref a27, .ref a28])), (a1, .inl (g.2 0, 225, .inl mworld))] := hD
                  refine W.eq (g2 := F0 m 55 ls [.int (u2163.1 0), .int x2147]) rfl ?_
                  rw [q2164_1] at q2164_0
                  refine tp_i (v := bitF (ofF mworld x2146) x1948) q2164_1 ?_
                  refine lv_iconst (v := 1) hx hb dX12_unsaid_55 (by decide) ?_
                  refine lv_icmp_ne (tgt := 68) hx hb dX12_unsaid_56 (by decide) (fun c2165 => ?_) (fun c2165 => ?_)
                  · have c2165 := k_ne (a := (bitF (ofF mworld x2146) x1948).toInt) (b := 1) rfl (by decide) c2165
                    refine lv_aload_n hx hb dX12_unsaid_68 rfl (lv_at hl 4 rfl) ?_
                    refine call_V (As := []) (rest := [.int x2147]) (wr := []) FC hKn hZ (k_X12_allStates l g h0 a1 a2 a3 a4 a6 a14 a15 a19 a20 a23 a24 a25 a26 a27 a28 mthrown mtaped msize mat mfrom mtoken mvalue mfaultKind mfaultPlace mgoal mgoalDays mgoalHearer mleastOrder mwordsMany mworld (by omega) (by omega) (by omega) (by omega) (by omega) (by omega) (by omega) (by omega) i_mworld) m_yX12_allStates b_806 (ci := 12) rfl rfl rfl hP hD hS hA [0, 1] [] rfl (by decide) rfl (by decide) (by decide) rfl hl.1 rfl (Nat.le_of_ble_eq_true rfl) dX12_unsaid_69 ⟨(Nat.le_of_ble_eq_true rfl), (Nat.le_of_ble_eq_true rfl)⟩ ⟨(Nat.le_of_ble_eq_true rfl), (Nat.le_of_ble_eq_true rfl)⟩ (fun u2166 H locs q2167 hP hD hS => ?_)
                    obtain ⟨q2167_0, q2167_1, q2167_2⟩ := q2167
                    have hP : va_P g.1 vwCl [(h0, .inr (12, [.int mthrown, .ref a1, .ref a2, .ref a3, .ref a4, .int mtaped, .ref a6, .int msize, .int mat, .int mfrom, .int mtoken, .int mvalue, .int mfaultKind, .int mfaultPlace, .ref a14, .ref a15, .int mgoal, .int mgoalDays, .int mgoalHearer, .ref a19, .ref a20, .int mleastOrder, .int mwordsMany, .ref a23, .ref a24, .ref a25, .ref a26, .ref a27, .ref a28])), (a1, .inl (g.2 0, 225, .inl mworld))] H := hP
                    have hD : va_D A [(h0, .inr (12, [.int mthrown, .ref a1, .ref a2, .ref a3, .ref a4, .int mtaped, .ref a6, .int msize, .int mat, .int mfrom, .int mtoken, .int mvalue, .int mfaultKind, .int mfaultPlace, .ref a14, .ref a15, .int mgoal, .int mgoalDays, .int mgoalHearer, .ref a19, .ref a20, .int mleastOrder, .int mwordsMany, .ref a23, .ref a24, .ref a25, .ref a26, .ref a27, .ref a28])), (a1, .inl (g.2 0, 225, .inl mworld))] := hD
                    refine W.eq (g2 := F0 m 72 ls [.int (u2166.1 0), .int x2147]) rfl ?_
                    rw [q2167_1] at q2167_0
                    rw [q2167_1] at q2167_2
                    refine tp_i (v := asF mworld) q2167_1 ?_
                    refine lv_iand hx hb dX12_unsaid_72 ?_
                    refine lv_topi (fun z2168 e_z2168 => ?_)
                    have t_z2168 : 0 ≤ z2168.toInt ∧ z2168.toInt ≤ 255 := by rw [e_z2168]; exact and_l (by omega) (by omega)
                    refine lv_istore_n (lv' := [(3, .int z2168), (4, .int x2146), (2, .int x1948), (1, .int x1949), (0, .ref h0)]) hx hb dX12_unsaid_73 rfl hl (by decide) rfl (fun ls hl => ?_)
                    obtain ⟨z2169, e_z2169⟩ : ∃ y : Int32, y = x2146 + 1 := ⟨_, rfl⟩
                    have t_z2169 : z2169.toInt = x2146.toInt + 1 := by rw [e_z2169]; exact addk (by decide) (by omega) (by omega)
                    refine lv_iinc (v := z2169) (lv' := [(4, .int z2169), (3, .int z2168), (2, .int x1948), (1, .int x1949), (0, .ref h0)]) hx hb dX12_unsaid_74 hl (k := 1) rfl (by rw [e_z2169]; rfl) (by decide) rfl (fun ls hl => ?_)
                    refine lv_goto (tgt := 32) hx hb dX12_unsaid_77 (by decide) ?_
                    exact ih2149 z2169 z2168 _ _ ls (by omega) (by omega) (by omega) hP hD hS (lv_sub hl [0, 1, 2, 3, 4] rfl)
                  · have c2165 := k_eq (a := (bitF (ofF mworld x2146) x1948).toInt) (b := 1) rfl (by decide) c2165
                    refine lv_aload_n hx hb dX12_unsaid_59 rfl (lv_at hl 4 rfl) ?_
                    refine lv_iload hx hb dX12_unsaid_60 (lv_at hl 0 rfl) ?_
                    refine call_V (As := [.int x2146]) (rest := [.int x2147]) (wr := []) FC hKn hZ (k_X12_statesOf l g h0 a1 a2 a3 a4 a6 a14 a15 a19 a20 a23 a24 a25 a26 a27 a28 mthrown mtaped msize mat mfrom mtoken mvalue mfaultKind mfaultPlace mgoal mgoalDays mgoalHearer mleastOrder mwordsMany mworld x2146 (by omega) (by omega) (by omega) (by omega) (by omega) (by omega) (by omega) (by omega) i_mworld (by omega)) m_yX12_statesOf b_848 (ci := 12) rfl rfl rfl hP hD hS hA [0, 1] [] rfl (by decide) rfl (by decide) (by decide) rfl hl.1 rfl (Nat.le_of_ble_eq_true rfl) dX12_unsaid_62 ⟨(Nat.le_of_ble_eq_true rfl), (Nat.le_of_ble_eq_true rfl)⟩ ⟨(Nat.le_of_ble_eq_true rfl), (Nat.le_of_ble_eq_true rfl)⟩ (fun u2170 H locs q2171 hP hD hS => ?_)
                    obtain ⟨q2171_0, q2171_1, q2171_2⟩ := q2171
                    have hP : va_P g.1 vwCl [(h0, .inr (12, [.int mthrown, .ref a1, .ref a2, .ref a3, .ref a4, .int mtaped, .ref a6, .int msize, .int mat, .int mfrom, .int mtoken, .int mvalue, .int mfaultKind, .int mfaultPlace, .ref a14, .ref a15, .int mgoal, .int mgoalDays, .int mgoalHearer, .ref a19, .ref a20, .int mleastOrder, .int mwordsMany, .ref a23, .ref a24, .ref a25, .ref a26, .ref a27, .ref a28])), (a1, .inl (g.2 0, 225, .inl mworld))] H := hP
                    have hD : va_D A [(h0, .inr (12, [.int mthrown, .ref a1, .ref a2, .ref a3, .ref a4, .int mtaped, .ref a6, .int msize, .int mat, .int mfrom, .int mtoken, .int mvalue, .int mfaultKind, .int mfaultPlace, .ref a14, .ref a15, .int mgoal, .int mgoalDays, .int mgoalHearer, .ref a19, .ref a20, .int mleastOrder, .int mwordsMany, .ref a23, .ref a24, .ref a25, .ref a26, .ref a27, .ref a28])), (a1, .inl (g.2 0, 225, .inl mworld))] := hD
                    refine W.eq (g2 := F0 m 65 ls [.int (u2170.1 0), .int x2147]) rfl ?_
                    rw [q2171_1] at q2171_0
                    rw [q2171_1] at q2171_2
                    refine tp_i (v := ofF mworld x2146) q2171_1 ?_
                    refine lv_goto (tgt := 72) hx hb dX12_unsaid_65 (by decide) ?_
                    refine lv_iand hx hb dX12_unsaid_72 ?_
                    refine lv_topi (fun z2172 e_z2172 => ?_)
                    have t_z2172 : 0 ≤ z2172.toInt ∧ z2172.toInt ≤ 255 := by rw [e_z2172]; exact and_l (by omega) (by omega)
                    refine lv_istore_n (lv' := [(3, .int z2172), (4, .int x2146), (2, .int x1948), (1, .int x1949), (0, .ref h0)]) hx hb dX12_unsaid_73 rfl hl (by decide) rfl (fun ls hl => ?_)
                    obtain ⟨z2173, e_z2173⟩ : ∃ y : Int32, y = x2146 + 1 := ⟨_, rfl⟩
                    have t_z2173 : z2173.toInt = x2146.toInt + 1 := by rw [e_z2173]; exact addk (by decide) (by omega) (by omega)
                    refine lv_iinc (v := z2173) (lv' := [(4, .int z2173), (3, .int z2172), (2, .int x1948), (1, .int x1949), (0, .ref h0)]) hx hb dX12_unsaid_74 hl (k := 1) rfl (by rw [e_z2173]; rfl) (by decide) rfl (fun ls hl => ?_)
                    refine lv_goto (tgt := 32) hx hb dX12_unsaid_77 (by decide) ?_
                    exact ih2149 z2173 z2172 _ _ ls (by omega) (by omega) (by omega) hP hD hS (lv_sub hl [0, 1, 2, 3, 4] rfl)
            exact lp2148 _ (0 : Int32) (asF mworld) _ _ ls (by decide) (by omega) (Nat.lt_succ_self _) hP hD hS (lv_sub hl [0, 1, 2, 3, 4] rfl)
      have kc0 : (0 : Int32).toInt = 0 := by decide
      exact lp1950 _ (0 : Int32) (0 : Int32) _ _ ls (by decide) (Nat.lt_succ_self _) hP hD hS (lv_sub hl [0, 1, 2] rfl)
    · have c5 := k_eq (a := (u1.1 0).toInt) (b := 0) rfl (by decide) c5
      exfalso; omega
set_option maxRecDepth 100000 in
set_option maxHeartbeats 4000000 in
theorem k_X12_idle (l : Launch) (g : GG) (h0 : Nat) (a1 : Nat) (a2 : Nat) (a3 : Nat) (a4 : Nat) (a6 : Nat) (a14 : Nat) (a15 : Nat) (a19 : Nat) (a20 : Nat) (a23 : Nat) (a24 : Nat) (a25 : Nat) (a26 : Nat) (a27 : Nat) (a28 : Nat) (mthrown : Int32) (mtaped : Int32) (msize : Int32) (mat : Int32) (mfrom : Int32) (mtoken : Int32) (mvalue : Int32) (mfaultKind : Int32) (mfaultPlace : Int32) (mgoal : Int32) (mgoalDays : Int32) (mgoalHearer : Int32) (mleastOrder : Int32) (mwordsMany : Int32) (mworld : Nat → Int32) (mbest : Nat → Int32) (i_mtaped : 0 ≤ mtaped.toInt ∧ mtaped.toInt ≤ 900) (i_msize : 0 ≤ msize.toInt ∧ msize.toInt ≤ 900) (i_mat : 0 ≤ mat.toInt ∧ mat.toInt ≤ 900) (i_mfrom : 0 ≤ mfrom.toInt ∧ mfrom.toInt ≤ 900) (i_mtoken : 0 ≤ mtoken.toInt ∧ mtoken.toInt ≤ 4) (i_mvalue : 0 ≤ mvalue.toInt ∧ mvalue.toInt ≤ 99999) (i_mgoalHearer : 0 ≤ mgoalHearer.toInt ∧ mgoalHearer.toInt ≤ 3) (i_mwordsMany : 0 ≤ mwordsMany.toInt ∧ mwordsMany.toInt ≤ 10) (i_mworld : wod mworld) : Ct l g yX12_idle cX12_idle 5 (some .int) { frames := 9, cells := 0, slots := 0, locals := 220 } [.ref h0] [(h0, .inr (12, [.int mthrown, .ref a1, .ref a2, .ref a3, .ref a4, .int mtaped, .ref a6, .int msize, .int mat, .int mfrom, .int mtoken, .int mvalue, .int mfaultKind, .int mfaultPlace, .ref a14, .ref a15, .int mgoal, .int mgoalDays, .int mgoalHearer, .ref a19, .ref a20, .int mleastOrder, .int mwordsMany, .ref a23, .ref a24, .ref a25, .ref a26, .ref a27, .ref a28])), (a1, .inl (g.2 0, 225, .inl mworld)), (a15, .inl (g.2 0, 2816, .inl mbest))] (S := (Nat → Int32) × (Nat → Nat → Int32) × (Nat → Nat → Int64)) (fun u => some (.int (u.1 0))) (fun u => (0 ≤ (u.1 3).toInt ∧ (u.1 3).toInt ≤ 3)) (fun u => [(h0, .inr (12, [.int mthrown, .ref a1, .ref a2, .ref a3, .ref a4, .int mtaped, .ref a6, .int msize, .int mat, .int mfrom, .int mtoken, .int mvalue, .int mfaultKind, .int mfaultPlace, .ref a14, .ref a15, .int (u.1 1), .int (u.1 2), .int (u.1 3), .ref a19, .ref a20, .int mleastOrder, .int mwordsMany, .ref a23, .ref a24, .ref a25, .ref a26, .ref a27, .ref a28])), (a1, .inl (g.2 0, 225, .inl mworld)), (a15, .inl (g.2 0, 2816, .inl (u.2.1 0)))]) := by
  refine Ct.of (by decide) (Nat.le_of_ble_eq_true rfl) ?_
  intro p e s m below meth c A ls FX hP hD hS hl
  obtain ⟨FC, hr, hlk, hKn, hA, hnm, hZ⟩ := id FX
  have FC : CallFix p m c cX12_idle 5 s _ BIG RX12 := FC
  obtain ⟨hx, hb, hml, hown, hB⟩ := id FC
  have hl : lv_has ls 5 [(0, .ref h0)] := hl
  refine lv_aload_n hx hb dX12_idle_0 rfl (lv_at hl 0 rfl) ?_
  refine call_V (As := []) (rest := []) (wr := [(a15, .inl (g.2 0, 2816, .inl mbest))]) FC hKn hZ (k_X12_isDesk l g h0 a1 a2 a3 a4 a6 a14 a15 a19 a20 a23 a24 a25 a26 a27 a28 mthrown mtaped msize mat mfrom mtoken mvalue mfaultKind mfaultPlace mgoal mgoalDays mgoalHearer mleastOrder mwordsMany mworld (by omega) (by omega) (by omega) (by omega) (by omega) (by omega) (by omega) (by omega) i_mworld) m_yX12_isDesk b_805 (ci := 12) rfl rfl rfl hP hD hS hA [0, 1] [2] rfl (by decide) rfl (by decide) (by decide) rfl hl.1 rfl (Nat.le_of_ble_eq_true rfl) dX12_idle_1 ⟨(Nat.le_of_ble_eq_true rfl), (Nat.le_of_ble_eq_true rfl)⟩ ⟨(Nat.le_of_ble_eq_true rfl), (Nat.le_of_ble_eq_true rfl)⟩ (fun u1 H locs q2 hP hD hS => ?_)
  obtain ⟨q2_0, q2_1⟩ := q2
  have hP : va_P g.1 vwCl [(a15, .inl (g.2 0, 2816, .inl mbest)), (h0, .inr (12, [.int mthrown, .ref a1, .ref a2, .ref a3, .ref a4, .int mtaped, .ref a6, .int msize, .int mat, .int mfrom, .int mtoken, .int mvalue, .int mfaultKind, .int mfaultPlace, .ref a14, .ref a15, .int mgoal, .int mgoalDays, .int mgoalHearer, .ref a19, .ref a20, .int mleastOrder, .int mwordsMany, .ref a23, .ref a24, .ref a25, .ref a26, .ref a27, .ref a28])), (a1, .inl (g.2 0, 225, .inl mworld))] H := hP
  have hD : va_D A [(a15, .inl (g.2 0, 2816, .inl mbest)), (h0, .inr (12, [.int mthrown, .ref a1, .ref a2, .ref a3, .ref a4, .int mtaped, .ref a6, .int msize, .int mat, .int mfrom, .int mtoken, .int mvalue, .int mfaultKind, .int mfaultPlace, .ref a14, .ref a15, .int mgoal, .int mgoalDays, .int mgoalHearer, .ref a19, .ref a20, .int mleastOrder, .int mwordsMany, .ref a23, .ref a24, .ref a25, .ref a26, .ref a27, .ref a28])), (a1, .inl (g.2 0, 225, .inl mworld))] := hD
  refine W.eq (g2 := F0 m 4 ls [.int (u1.1 0)]) rfl ?_
  rcases (show (u1.1 0).toInt = 0 ∨ (u1.1 0).toInt = 1 by omega) with c3 | c3
  · skip
    refine lv_if_ne (tgt := 10) hx hb dX12_idle_4 (by decide) (fun c4 => ?_) (fun c4 => ?_)
    · have c4 := k_ne (a := (u1.1 0).toInt) (b := 0) rfl (by decide) c4
      exfalso; omega
    · have c4 := k_eq (a := (u1.1 0).toInt) (b := 0) rfl (by decide) c4
      refine lv_bipush (v := -2) hx hb dX12_idle_7 (by decide) ?_
      exact rt_i FX ((fun k => match k with | 0 => (-2 : Int32) | 1 => mgoal | 2 => mgoalDays | 3 => mgoalHearer | _ => 0), (fun k => match k with | 0 => mbest | _ => fun _ => 0), (fun _ => fun _ => 0)) rfl (show 0 ≤ mgoalHearer.toInt ∧ mgoalHearer.toInt ≤ 3 by omega) (hP.sub [1, 2, 0] rfl) (hD.sub [1, 2, 0] (by decide) rfl) hS (Nat.le_of_ble_eq_true rfl) (Nat.le_of_ble_eq_true rfl) dX12_idle_9
  · have c3_r := q2_1 c3
    refine lv_if_ne (tgt := 10) hx hb dX12_idle_4 (by decide) (fun c5 => ?_) (fun c5 => ?_)
    · have c5 := k_ne (a := (u1.1 0).toInt) (b := 0) rfl (by decide) c5
      refine lv_iconst (v := 1) hx hb dX12_idle_10 (by decide) ?_
      refine lv_aload_n hx hb dX12_idle_11 rfl (lv_at hl 0 rfl) ?_
      refine g_get (C := RX12) (T := TX12) (N := 29) (ci := 12) (v := .ref a1) FC hKn hP i_X12 1 rfl rfl 1 (by decide) b_801 rfl dX12_idle_12 ?_
      refine lv_bipush (v := 6) hx hb dX12_idle_15 (by decide) ?_
      refine va_iald hx hb hKn.1 hP 2 0 rfl rfl (by unfold vp_in; decide) dX12_idle_17 ?_
      have kc6 : (6 : Int32).toInt = 6 := by decide
      refine lv_topi (fun z6 e_z6 => ?_)
      have t_z6 : 0 ≤ z6.toInt ∧ z6.toInt ≤ 8 := by rw [e_z6]; exact wk_6 i_mworld.1
      have q_z6 : z6.toInt = (mworld 6).toInt := by rw [e_z6]; rfl
      refine lv_ishl hx hb dX12_idle_18 ?_
      refine lv_topi (fun z7 e_z7 => ?_)
      have t_z7 : 1 ≤ z7.toInt ∧ z7.toInt ≤ 256 := by rw [e_z7]; exact shl_b (n := 8) (by omega) (by omega) (by decide)
      refine lv_iconst (v := 1) hx hb dX12_idle_19 (by decide) ?_
      refine lv_isub hx hb dX12_idle_20 ?_
      have kc1 : (1 : Int32).toInt = 1 := by decide
      refine lv_topi (fun z8 e_z8 => ?_)
      have t_z8 : z8.toInt = z7.toInt - ((1 : Int32)).toInt := by rw [e_z8]; exact fb_subI (by omega) (by omega)
      refine lv_istore_n (lv' := [(1, .int z8), (0, .ref h0)]) hx hb dX12_idle_21 rfl hl (by decide) rfl (fun ls hl => ?_)
      refine lv_iconst (v := 0) hx hb dX12_idle_22 (by decide) ?_
      refine lv_istore_n (lv' := [(2, .int 0), (1, .int z8), (0, .ref h0)]) hx hb dX12_idle_23 rfl hl (by decide) rfl (fun ls hl => ?_)
      have lp956 : ∀ (n958 : Nat) (x950 : Int32) (x951 : Int32) (x952 : Nat → Int32) (x953 : Int32) (x954 : Int32) (x955 : Int32) (H : Heap) (locs : List Loc) (ls : Array Slot), 0 ≤ x950.toInt ∧ x950.toInt ≤ 4 → 0 ≤ x951.toInt ∧ x951.toInt ≤ 255 → 0 ≤ x955.toInt ∧ x955.toInt ≤ 3 → (4 - x950.toInt).toNat < n958 → va_P g.1 vwCl [(a15, .inl (g.2 0, 2816, .inl x952)), (h0, .inr (12, [.int mthrown, .ref a1, .ref a2, .ref a3, .ref a4, .int mtaped, .ref a6, .int msize, .int mat, .int mfrom, .int mtoken, .int mvalue, .int mfaultKind, .int mfaultPlace, .ref a14, .ref a15, .int x953, .int x954, .int x955, .ref a19, .ref a20, .int mleastOrder, .int mwordsMany, .ref a23, .ref a24, .ref a25, .ref a26, .ref a27, .ref a28])), (a1, .inl (g.2 0, 225, .inl mworld))] H → va_D A [(a15, .inl (g.2 0, 2816, .inl x952)), (h0, .inr (12, [.int mthrown, .ref a1, .ref a2, .ref a3, .ref a4, .int mtaped, .ref a6, .int msize, .int mat, .int mfrom, .int mtoken, .int mvalue, .int mfaultKind, .int mfaultPlace, .ref a14, .ref a15, .int x953, .int x954, .int x955, .ref a19, .ref a20, .int mleastOrder, .int mwordsMany, .ref a23, .ref a24, .ref a25, .ref a26, .ref a27, .ref a28])), (a1, .inl (g.2 0, 225, .inl mworld))] → va_S A s.heap H locs → lv_has ls 5 [(2, .int x950), (1, .int x951), (0, .ref h0)] → W p l e { frames := 9, cells := 0, slots := 0, locals := 220 } s m ([.ref h0].toArray) below meth c H locs 0 0 (MQ below (QX (S := (Nat → Int32) × (Nat → Nat → Int32) × (Nat → Nat → Int64)) (fun u => some (.int (u.1 0))) (fun u => (0 ≤ (u.1 3).toInt ∧ (u.1 3).toInt ≤ 3)) g (fun u => [(h0, .inr (12, [.int mthrown, .ref a1, .ref a2, .ref a3, .ref a4, .int mtaped, .ref a6, .int msize, .int mat, .int mfrom, .int mtoken, .int mvalue, .int mfaultKind, .int mfaultPlace, .ref a14, .ref a15, .int (u.1 1), .int (u.1 2), .int (u.1 3), .ref a19, .ref a20, .int mleastOrder, .int mwordsMany, .ref a23, .ref a24, .ref a25, .ref a26, .ref a27, .ref a28])), (a1, .inl (g.2 0, 225, .inl mworld)), (a15, .inl (g.2 0, 2816, .inl (u.2.1 0)))]) A) ([.ref h0].toArray) s 0 0 A) (F0 m 24 ls []) := by
        intro n958
        induction n958 with
        | zero =>
          intro x950 x951 x952 x953 x954 x955 H locs ls h_x950 h_x951 h_x955 hn959
          exact absurd hn959 (Nat.not_lt_zero _)
        | succ n958 ih957 =>
          intro x950 x951 x952 x953 x954 x955 H locs ls h_x950 h_x951 h_x955 hn959 hP hD hS hl
          refine lv_iload_n hx hb dX12_idle_24 rfl (lv_at hl 0 rfl) ?_
          refine lv_aload_n hx hb dX12_idle_25 rfl (lv_at hl 2 rfl) ?_
          refine g_get (C := RX12) (T := TX12) (N := 29) (ci := 12) (v := .ref a1) FC hKn hP i_X12 1 rfl rfl 1 (by decide) b_801 rfl dX12_idle_26 ?_
          refine lv_iconst (v := 5) hx hb dX12_idle_29 (by decide) ?_
          refine va_iald hx hb hKn.1 hP 2 0 rfl rfl (by unfold vp_in; decide) dX12_idle_30 ?_
          have kc5 : (5 : Int32).toInt = 5 := by decide
          refine lv_topi (fun z960 e_z960 => ?_)
          have t_z960 : 0 ≤ z960.toInt ∧ z960.toInt ≤ 4 := by rw [e_z960]; exact wk_5 i_mworld.1
          have q_z960 : z960.toInt = (mworld 5).toInt := by rw [e_z960]; rfl
          refine lv_icmp_ge (tgt := 93) hx hb dX12_idle_31 (by decide) (fun c961 => ?_) (fun c961 => ?_)
          · have c961 := k_le (a := z960.toInt) (b := x950.toInt) rfl rfl c961
            refine lv_iload_n hx hb dX12_idle_93 rfl (lv_at hl 1 rfl) ?_
            exact rt_i FX ((fun k => match k with | 0 => x951 | 1 => x953 | 2 => x954 | 3 => x955 | _ => 0), (fun k => match k with | 0 => x952 | _ => fun _ => 0), (fun _ => fun _ => 0)) rfl (show 0 ≤ x955.toInt ∧ x955.toInt ≤ 3 by omega) (hP.sub [1, 2, 0] rfl) (hD.sub [1, 2, 0] (by decide) rfl) hS (Nat.le_of_ble_eq_true rfl) (Nat.le_of_ble_eq_true rfl) dX12_idle_94
          · have c961 := k_nle (a := z960.toInt) (b := x950.toInt) rfl rfl c961
            refine lv_iconst (v := 0) hx hb dX12_idle_34 (by decide) ?_
            refine lv_istore_n (lv' := [(3, .int 0), (2, .int x950), (1, .int x951), (0, .ref h0)]) hx hb dX12_idle_35 rfl hl (by decide) rfl (fun ls hl => ?_)
            have lp1126 : ∀ (n1128 : Nat) (x1120 : Int32) (x1121 : Int32) (x1122 : Nat → Int32) (x1123 : Int32) (x1124 : Int32) (x1125 : Int32) (H : Heap) (locs : List Loc) (ls : Array Slot), 0 ≤ x1120.toInt ∧ x1120.toInt ≤ 10 → 0 ≤ x1121.toInt ∧ x1121.toInt ≤ 255 → 0 ≤ x1125.toInt ∧ x1125.toInt ≤ 3 → (10 - x1120.toInt).toNat < n1128 → va_P g.1 vwCl [(a15, .inl (g.2 0, 2816, .inl x1122)), (h0, .inr (12, [.int mthrown, .ref a1, .ref a2, .ref a3, .ref a4, .int mtaped, .ref a6, .int msize, .int mat, .int mfrom, .int mtoken, .int mvalue, .int mfaultKind, .int mfaultPlace, .ref a14, .ref a15, .int x1123, .int x1124, .int x1125, .ref a19, .ref a20, .int mleastOrder, .int mwordsMany, .ref a23, .ref a24, .ref a25, .ref a26, .ref a27, .ref a28])), (a1, .inl (g.2 0, 225, .inl mworld))] H → va_D A [(a15, .inl (g.2 0, 2816, .inl x1122)), (h0, .inr (12, [.int mthrown, .ref a1, .ref a2, .ref a3, .ref a4, .int mtaped, .ref a6, .int msize, .int mat, .int mfrom, .int mtoken, .int mvalue, .int mfaultKind, .int mfaultPlace, .ref a14, .ref a15, .int x1123, .int x1124, .int x1125, .ref a19, .ref a20, .int mleastOrder, .int mwordsMany, .ref a23, .ref a24, .ref a25, .ref a26, .ref a27, .ref a28])), (a1, .inl (g.2 0, 225, .inl mworld))] → va_S A s.heap H locs → lv_has ls 5 [(3, .int x1120), (2, .int x950), (1, .int x1121), (0, .ref h0)] → W p l e { frames := 9, cells := 0, slots := 0, locals := 220 } s m ([.ref h0].toArray) below meth c H locs 0 0 (MQ below (QX (S := (Nat → Int32) × (Nat → Nat → Int32) × (Nat → Nat → Int64)) (fun u => some (.int (u.1 0))) (fun u => (0 ≤ (u.1 3).toInt ∧ (u.1 3).toInt ≤ 3)) g (fun u => [(h0, .inr (12, [.int mthrown, .ref a1, .ref a2, .ref a3, .ref a4, .int mtaped, .ref a6, .int msize, .int mat, .int mfrom, .int mtoken, .int mvalue, .int mfaultKind, .int mfaultPlace, .ref a14, .ref a15, .int (u.1 1), .int (u.1 2), .int (u.1 3), .ref a19, .ref a20, .int mleastOrder, .int mwordsMany, .ref a23, .ref a24, .ref a25, .ref a26, .ref a27, .ref a28])), (a1, .inl (g.2 0, 225, .inl mworld)), (a15, .inl (g.2 0, 2816, .inl (u.2.1 0)))]) A) ([.ref h0].toArray) s 0 0 A) (F0 m 36 ls []) := by
              intro n1128
              induction n1128 with
              | zero =>
                intro x1120 x1121 x1122 x1123 x1124 x1125 H locs ls h_x1120 h_x1121 h_x1125 hn1129
                exact absurd hn1129 (Nat.not_lt_zero _)
              | succ n1128 ih1127 =>
                intro x1120 x1121 x1122 x1123 x1124 x1125 H locs ls h_x1120 h_x1121 h_x1125 hn1129 hP hD hS hl
                refine lv_iload_n hx hb dX12_idle_36 rfl (lv_at hl 0 rfl) ?_
                refine lv_aload_n hx hb dX12_idle_37 rfl (lv_at hl 3 rfl) ?_
                refine g_get (C := RX12) (T := TX12) (N := 29) (ci := 12) (v := .ref a1) FC hKn hP i_X12 1 rfl rfl 1 (by decide) b_801 rfl dX12_idle_38 ?_
                refine lv_iconst (v := 2) hx hb dX12_idle_41 (by decide) ?_
                refine va_iald hx hb hKn.1 hP 2 0 rfl rfl (by unfold vp_in; decide) dX12_idle_42 ?_
                have kc2 : (2 : Int32).toInt = 2 := by decide
                refine lv_topi (fun z1130 e_z1130 => ?_)
                have t_z1130 : 0 ≤ z1130.toInt ∧ z1130.toInt ≤ 10 := by rw [e_z1130]; exact wk_2 i_mworld.1
                have q_z1130 : z1130.toInt = (mworld 2).toInt := by rw [e_z1130]; rfl
                refine lv_icmp_ge (tgt := 87) hx hb dX12_idle_43 (by decide) (fun c1131 => ?_) (fun c1131 => ?_)
                · have c1131 := k_le (a := z1130.toInt) (b := x1120.toInt) rfl rfl c1131
                  obtain ⟨z1132, e_z1132⟩ : ∃ y : Int32, y = x950 + 1 := ⟨_, rfl⟩
                  have t_z1132 : z1132.toInt = x950.toInt + 1 := by rw [e_z1132]; exact addk (by decide) (by omega) (by omega)
                  refine lv_iinc (v := z1132) (lv' := [(2, .int z1132), (3, .int x1120), (1, .int x1121), (0, .ref h0)]) hx hb dX12_idle_87 hl (k := 1) rfl (by rw [e_z1132]; rfl) (by decide) rfl (fun ls hl => ?_)
                  refine lv_goto (tgt := 24) hx hb dX12_idle_90 (by decide) ?_
                  exact ih957 z1132 x1121 x1122 x1123 x1124 x1125 _ _ ls (by omega) (by omega) (by omega) (by omega) hP hD hS (lv_sub hl [0, 2, 3] rfl)
                · have c1131 := k_nle (a := z1130.toInt) (b := x1120.toInt) rfl rfl c1131
                  refine lv_aload_n hx hb dX12_idle_46 rfl (lv_at hl 3 rfl) ?_
                  refine lv_iconst (v := 0) hx hb dX12_idle_47 (by decide) ?_
                  refine lv_iload_n hx hb dX12_idle_48 rfl (lv_at hl 1 rfl) ?_
                  refine lv_iload_n hx hb dX12_idle_49 rfl (lv_at hl 0 rfl) ?_
                  have kc0 : (0 : Int32).toInt = 0 := by decide
                  refine call_V (As := [.int 0, .int x950, .int x1120]) (rest := []) (wr := []) FC hKn hZ (k_X12_wordBy l g h0 a1 a2 a3 a4 a6 a14 a15 a19 a20 a23 a24 a25 a26 a27 a28 mthrown mtaped msize mat mfrom mtoken mvalue mfaultKind mfaultPlace x1123 x1124 x1125 mleastOrder mwordsMany mworld x1122 ((0 : Int32)) x950 x1120 (by omega) (by omega) (by omega) (by omega) (by omega) (by omega) (by omega) (by omega) i_mworld (by omega) (by omega) (by omega)) m_yX12_wordBy b_977 (ci := 12) rfl rfl rfl hP hD hS hA [1, 2, 0] [] rfl (by decide) rfl (by decide) (by decide) rfl hl.1 rfl (Nat.le_of_ble_eq_true rfl) dX12_idle_50 ⟨(Nat.le_of_ble_eq_true rfl), (Nat.le_of_ble_eq_true rfl)⟩ ⟨(Nat.le_of_ble_eq_true rfl), (Nat.le_of_ble_eq_true rfl)⟩ (fun u1133 H locs q1134 hP hD hS => ?_)
                  obtain ⟨q1134_0, q1134_1⟩ := q1134
                  have hP : va_P g.1 vwCl [(h0, .inr (12, [.int mthrown, .ref a1, .ref a2, .ref a3, .ref a4, .int mtaped, .ref a6, .int msize, .int mat, .int mfrom, .int mtoken, .int mvalue, .int mfaultKind, .int mfaultPlace, .ref a14, .ref a15, .int (u1133.1 1), .int (u1133.1 2), .int (u1133.1 3), .ref a19, .ref a20, .int mleastOrder, .int mwordsMany, .ref a23, .ref a24, .ref a25, .ref a26, .ref a27, .ref a28])), (a1, .inl (g.2 0, 225, .inl mworld)), (a15, .inl (g.2 0, 2816, .inl (u1133.2.1 0)))] H := hP
                  have hD : va_D A [(h0, .inr (12, [.int mthrown, .ref a1, .ref a2, .ref a3, .ref a4, .int mtaped, .ref a6, .int msize, .int mat, .int mfrom, .int mtoken, .int mvalue, .int mfaultKind, .int mfaultPlace, .ref a14, .ref a15, .int (u1133.1 1), .int (u1133.1 2), .int (u1133.1 3), .ref a19, .ref a20, .int mleastOrder, .int mwordsMany, .ref a23, .ref a24, .ref a25, .ref a26, .ref a27, .ref a28])), (a1, .inl (g.2 0, 225, .inl mworld)), (a15, .inl (g.2 0, 2816, .inl (u1133.2.1 0)))] := hD
                  refine W.eq (g2 := F0 m 53 ls [.int (u1133.1 0)]) rfl ?_
                  refine lv_istore (lv' := [(4, .int (u1133.1 0)), (3, .int x1120), (2, .int x950), (1, .int x1121), (0, .ref h0)]) hx hb dX12_idle_53 hl (by decide) rfl (fun ls hl => ?_)
                  refine lv_iload_n hx hb dX12_idle_55 rfl (lv_at hl 3 rfl) ?_
                  refine lv_iload hx hb dX12_idle_56 (lv_at hl 0 rfl) ?_
                  refine lv_iconst (v := -1) hx hb dX12_idle_58 (by decide) ?_
                  refine lv_icmp_eq (tgt := 69) hx hb dX12_idle_59 (by decide) (fun c1135 => ?_) (fun c1135 => ?_)
                  · have c1135 := k_eq (a := (u1133.1 0).toInt) (b := -1) rfl (by decide) c1135
                    refine lv_iload_n hx hb dX12_idle_69 rfl (lv_at hl 3 rfl) ?_
                    refine lv_goto (tgt := 79) hx hb dX12_idle_70 (by decide) ?_
                    refine lv_iand hx hb dX12_idle_79 ?_
                    refine lv_topi (fun z1136 e_z1136 => ?_)
                    have t_z1136 : 0 ≤ z1136.toInt ∧ z1136.toInt ≤ 255 := by rw [e_z1136]; exact and_l (by omega) (by omega)
                    refine lv_istore_n (lv' := [(1, .int z1136), (4, .int (u1133.1 0)), (3, .int x1120), (2, .int x950), (0, .ref h0)]) hx hb dX12_idle_80 rfl hl (by decide) rfl (fun ls hl => ?_)
                    obtain ⟨z1137, e_z1137⟩ : ∃ y : Int32, y = x1120 + 1 := ⟨_, rfl⟩
                    have t_z1137 : z1137.toInt = x1120.toInt + 1 := by rw [e_z1137]; exact addk (by decide) (by omega) (by omega)
                    refine lv_iinc (v := z1137) (lv' := [(3, .int z1137), (1, .int z1136), (4, .int (u1133.1 0)), (2, .int x950), (0, .ref h0)]) hx hb dX12_idle_81 hl (k := 2) rfl (by rw [e_z1137]; rfl) (by decide) rfl (fun ls hl => ?_)
                    refine lv_goto (tgt := 36) hx hb dX12_idle_84 (by decide) ?_
                    exact ih1127 z1137 z1136 (u1133.2.1 0) (u1133.1 1) (u1133.1 2) (u1133.1 3) _ _ ls (by omega) (by omega) (by omega) (by omega) (hP.sub [2, 0, 1] rfl) (hD.sub [2, 0, 1] (by decide) rfl) hS (lv_sub hl [0, 3, 1, 4] rfl)
                  · have c1135 := k_ne (a := (u1133.1 0).toInt) (b := -1) rfl (by decide) c1135
                    refine lv_iload hx hb dX12_idle_62 (lv_at hl 0 rfl) ?_
                    refine lv_bipush (v := 8) hx hb dX12_idle_64 (by decide) ?_
                    refine lv_icmp_ne (tgt := 73) hx hb dX12_idle_66 (by decide) (fun c1138 => ?_) (fun c1138 => ?_)
                    · have c1138 := k_ne (a := (u1133.1 0).toInt) (b := 8) rfl (by decide) c1138
                      refine lv_iconst (v := 1) hx hb dX12_idle_73 (by decide) ?_
                      refine lv_iload hx hb dX12_idle_74 (lv_at hl 0 rfl) ?_
                      refine lv_ishl hx hb dX12_idle_76 ?_
                      refine lv_topi (fun z1139 e_z1139 => ?_)
                      have t_z1139 : 1 ≤ z1139.toInt ∧ z1139.toInt ≤ 128 := by rw [e_z1139]; exact shl_b (n := 7) (by omega) (by omega) (by decide)
                      refine lv_iconst (v := -1) hx hb dX12_idle_77 (by decide) ?_
                      refine lv_ixor hx hb dX12_idle_78 ?_
                      refine lv_topi (fun z1140 e_z1140 => ?_)
                      refine lv_iand hx hb dX12_idle_79 ?_
                      refine lv_topi (fun z1141 e_z1141 => ?_)
                      have t_z1141 : 0 ≤ z1141.toInt ∧ z1141.toInt ≤ 255 := by rw [e_z1141]; exact and_l (by omega) (by omega)
                      refine lv_istore_n (lv' := [(1, .int z1141), (4, .int (u1133.1 0)), (3, .int x1120), (2, .int x950), (0, .ref h0)]) hx hb dX12_idle_80 rfl hl (by decide) rfl (fun ls hl => ?_)
                      obtain ⟨z1142, e_z1142⟩ : ∃ y : Int32, y = x1120 + 1 := ⟨_, rfl⟩
                      have t_z1142 : z1142.toInt = x1120.toInt + 1 := by rw [e_z1142]; exact addk (by decide) (by omega) (by omega)
                      refine lv_iinc (v := z1142) (lv' := [(3, .int z1142), (1, .int z1141), (4, .int (u1133.1 0)), (2, .int x950), (0, .ref h0)]) hx hb dX12_idle_81 hl (k := 2) rfl (by rw [e_z1142]; rfl) (by decide) rfl (fun ls hl => ?_)
                      refine lv_goto (tgt := 36) hx hb dX12_idle_84 (by decide) ?_
                      exact ih1127 z1142 z1141 (u1133.2.1 0) (u1133.1 1) (u1133.1 2) (u1133.1 3) _ _ ls (by omega) (by omega) (by omega) (by omega) (hP.sub [2, 0, 1] rfl) (hD.sub [2, 0, 1] (by decide) rfl) hS (lv_sub hl [0, 3, 1, 4] rfl)
                    · have c1138 := k_eq (a := (u1133.1 0).toInt) (b := 8) rfl (by decide) c1138
                      refine lv_iload_n hx hb dX12_idle_69 rfl (lv_at hl 3 rfl) ?_
                      refine lv_goto (tgt := 79) hx hb dX12_idle_70 (by decide) ?_
                      refine lv_iand hx hb dX12_idle_79 ?_
                      refine lv_topi (fun z1143 e_z1143 => ?_)
                      have t_z1143 : 0 ≤ z1143.toInt ∧ z1143.toInt ≤ 255 := by rw [e_z1143]; exact and_l (by omega) (by omega)
                      refine lv_istore_n (lv' := [(1, .int z1143), (4, .int (u1133.1 0)), (3, .int x1120), (2, .int x950), (0, .ref h0)]) hx hb dX12_idle_80 rfl hl (by decide) rfl (fun ls hl => ?_)
                      obtain ⟨z1144, e_z1144⟩ : ∃ y : Int32, y = x1120 + 1 := ⟨_, rfl⟩
                      have t_z1144 : z1144.toInt = x1120.toInt + 1 := by rw [e_z1144]; exact addk (by decide) (by omega) (by omega)
                      refine lv_iinc (v := z1144) (lv' := [(3, .int z1144), (1, .int z1143), (4, .int (u1133.1 0)), (2, .int x950), (0, .ref h0)]) hx hb dX12_idle_81 hl (k := 2) rfl (by rw [e_z1144]; rfl) (by decide) rfl (fun ls hl => ?_)
                      refine lv_goto (tgt := 36) hx hb dX12_idle_84 (by decide) ?_
                      exact ih1127 z1144 z1143 (u1133.2.1 0) (u1133.1 1) (u1133.1 2) (u1133.1 3) _ _ ls (by omega) (by omega) (by omega) (by omega) (hP.sub [2, 0, 1] rfl) (hD.sub [2, 0, 1] (by decide) rfl) hS (lv_sub hl [0, 3, 1, 4] rfl)
            have kc0 : (0 : Int32).toInt = 0 := by decide
            exact lp1126 _ (0 : Int32) x951 x952 x953 x954 x955 _ _ ls (by decide) (by omega) (by omega) (Nat.lt_succ_self _) hP hD hS (lv_sub hl [0, 1, 2, 3] rfl)
      have kc0 : (0 : Int32).toInt = 0 := by decide
      exact lp956 _ (0 : Int32) z8 mbest mgoal mgoalDays mgoalHearer _ _ ls (by decide) (by omega) (by omega) (Nat.lt_succ_self _) hP hD hS (lv_sub hl [0, 1, 2] rfl)
    · have c5 := k_eq (a := (u1.1 0).toInt) (b := 0) rfl (by decide) c5
      exfalso; omega
set_option maxRecDepth 100000 in
set_option maxHeartbeats 4000000 in
theorem k_X12_enough (l : Launch) (g : GG) (h0 : Nat) (a1 : Nat) (a2 : Nat) (a3 : Nat) (a4 : Nat) (a6 : Nat) (a14 : Nat) (a15 : Nat) (a19 : Nat) (a20 : Nat) (a23 : Nat) (a24 : Nat) (a25 : Nat) (a26 : Nat) (a27 : Nat) (a28 : Nat) (mthrown : Int32) (mtaped : Int32) (msize : Int32) (mat : Int32) (mfrom : Int32) (mtoken : Int32) (mvalue : Int32) (mfaultKind : Int32) (mfaultPlace : Int32) (mgoal : Int32) (mgoalDays : Int32) (mgoalHearer : Int32) (mleastOrder : Int32) (mwordsMany : Int32) (mworld : Nat → Int32) (mbest : Nat → Int32) (p1 : Int32) (i_mtaped : 0 ≤ mtaped.toInt ∧ mtaped.toInt ≤ 900) (i_msize : 0 ≤ msize.toInt ∧ msize.toInt ≤ 900) (i_mat : 0 ≤ mat.toInt ∧ mat.toInt ≤ 900) (i_mfrom : 0 ≤ mfrom.toInt ∧ mfrom.toInt ≤ 900) (i_mtoken : 0 ≤ mtoken.toInt ∧ mtoken.toInt ≤ 4) (i_mvalue : 0 ≤ mvalue.toInt ∧ mvalue.toInt ≤ 99999) (i_mgoalHearer : 0 ≤ mgoalHearer.toInt ∧ mgoalHearer.toInt ≤ 3) (i_mwordsMany : 0 ≤ mwordsMany.toInt ∧ mwordsMany.toInt ≤ 10) (i_mworld : wod mworld) : Ct l g yX12_enough cX12_enough 4 (some .int) { frames := 8, cells := 0, slots := 0, locals := 193 } [.ref h0, .int p1] [(h0, .inr (12, [.int mthrown, .ref a1, .ref a2, .ref a3, .ref a4, .int mtaped, .ref a6, .int msize, .int mat, .int mfrom, .int mtoken, .int mvalue, .int mfaultKind, .int mfaultPlace, .ref a14, .ref a15, .int mgoal, .int mgoalDays, .int mgoalHearer, .ref a19, .ref a20, .int mleastOrder, .int mwordsMany, .ref a23, .ref a24, .ref a25, .ref a26, .ref a27, .ref a28])), (a1, .inl (g.2 0, 225, .inl mworld)), (a15, .inl (g.2 0, 2816, .inl mbest))] (S := (Nat → Int32) × (Nat → Nat → Int32) × (Nat → Nat → Int64)) (fun u => some (.int (u.1 0))) (fun u => (0 ≤ (u.1 3).toInt ∧ (u.1 3).toInt ≤ 3)) (fun u => [(h0, .inr (12, [.int mthrown, .ref a1, .ref a2, .ref a3, .ref a4, .int mtaped, .ref a6, .int msize, .int mat, .int mfrom, .int mtoken, .int mvalue, .int mfaultKind, .int mfaultPlace, .ref a14, .ref a15, .int (u.1 1), .int (u.1 2), .int (u.1 3), .ref a19, .ref a20, .int mleastOrder, .int mwordsMany, .ref a23, .ref a24, .ref a25, .ref a26, .ref a27, .ref a28])), (a1, .inl (g.2 0, 225, .inl mworld)), (a15, .inl (g.2 0, 2816, .inl (u.2.1 0)))]) := by
  refine Ct.of (by decide) (Nat.le_of_ble_eq_true rfl) ?_
  intro p e s m below meth c A ls FX hP hD hS hl
  obtain ⟨FC, hr, hlk, hKn, hA, hnm, hZ⟩ := id FX
  have FC : CallFix p m c cX12_enough 4 s _ BIG RX12 := FC
  obtain ⟨hx, hb, hml, hown, hB⟩ := id FC
  have hl : lv_has ls 4 [(0, .ref h0), (1, .int p1)] := hl
  refine lv_aload_n hx hb dX12_enough_0 rfl (lv_at hl 0 rfl) ?_
  refine lv_iload_n hx hb dX12_enough_1 rfl (lv_at hl 1 rfl) ?_
  refine call_V (As := [.int p1]) (rest := []) (wr := [(a15, .inl (g.2 0, 2816, .inl mbest))]) FC hKn hZ (k_X12_isHearer l g h0 a1 a2 a3 a4 a6 a14 a15 a19 a20 a23 a24 a25 a26 a27 a28 mthrown mtaped msize mat mfrom mtoken mvalue mfaultKind mfaultPlace mgoal mgoalDays mgoalHearer mleastOrder mwordsMany mworld p1 (by omega) (by omega) (by omega) (by omega) (by omega) (by omega) (by omega) (by omega) i_mworld) m_yX12_isHearer b_881 (ci := 12) rfl rfl rfl hP hD hS hA [0, 1] [2] rfl (by decide) rfl (by decide) (by decide) rfl hl.1 rfl (Nat.le_of_ble_eq_true rfl) dX12_enough_2 ⟨(Nat.le_of_ble_eq_true rfl), (Nat.le_of_ble_eq_true rfl)⟩ ⟨(Nat.le_of_ble_eq_true rfl), (Nat.le_of_ble_eq_true rfl)⟩ (fun u1 H locs q2 hP hD hS => ?_)
  obtain ⟨q2_0, q2_1⟩ := q2
  have hP : va_P g.1 vwCl [(a15, .inl (g.2 0, 2816, .inl mbest)), (h0, .inr (12, [.int mthrown, .ref a1, .ref a2, .ref a3, .ref a4, .int mtaped, .ref a6, .int msize, .int mat, .int mfrom, .int mtoken, .int mvalue, .int mfaultKind, .int mfaultPlace, .ref a14, .ref a15, .int mgoal, .int mgoalDays, .int mgoalHearer, .ref a19, .ref a20, .int mleastOrder, .int mwordsMany, .ref a23, .ref a24, .ref a25, .ref a26, .ref a27, .ref a28])), (a1, .inl (g.2 0, 225, .inl mworld))] H := hP
  have hD : va_D A [(a15, .inl (g.2 0, 2816, .inl mbest)), (h0, .inr (12, [.int mthrown, .ref a1, .ref a2, .ref a3, .ref a4, .int mtaped, .ref a6, .int msize, .int mat, .int mfrom, .int mtoken, .int mvalue, .int mfaultKind, .int mfaultPlace, .ref a14, .ref a15, .int mgoal, .int mgoalDays, .int mgoalHearer, .ref a19, .ref a20, .int mleastOrder, .int mwordsMany, .ref a23, .ref a24, .ref a25, .ref a26, .ref a27, .ref a28])), (a1, .inl (g.2 0, 225, .inl mworld))] := hD
  refine W.eq (g2 := F0 m 5 ls [.int (u1.1 0)]) rfl ?_
  rcases (show (u1.1 0).toInt = 0 ∨ (u1.1 0).toInt = 1 by omega) with c3 | c3
  · skip
    refine lv_if_ne (tgt := 11) hx hb dX12_enough_5 (by decide) (fun c4 => ?_) (fun c4 => ?_)
    · have c4 := k_ne (a := (u1.1 0).toInt) (b := 0) rfl (by decide) c4
      exfalso; omega
    · have c4 := k_eq (a := (u1.1 0).toInt) (b := 0) rfl (by decide) c4
      refine lv_bipush (v := -2) hx hb dX12_enough_8 (by decide) ?_
      exact rt_i FX ((fun k => match k with | 0 => (-2 : Int32) | 1 => mgoal | 2 => mgoalDays | 3 => mgoalHearer | _ => 0), (fun k => match k with | 0 => mbest | _ => fun _ => 0), (fun _ => fun _ => 0)) rfl (show 0 ≤ mgoalHearer.toInt ∧ mgoalHearer.toInt ≤ 3 by omega) (hP.sub [1, 2, 0] rfl) (hD.sub [1, 2, 0] (by decide) rfl) hS (Nat.le_of_ble_eq_true rfl) (Nat.le_of_ble_eq_true rfl) dX12_enough_10
  · have c3_r := q2_1 c3
    refine lv_if_ne (tgt := 11) hx hb dX12_enough_5 (by decide) (fun c5 => ?_) (fun c5 => ?_)
    · have c5 := k_ne (a := (u1.1 0).toInt) (b := 0) rfl (by decide) c5
      refine lv_aload_n hx hb dX12_enough_11 rfl (lv_at hl 0 rfl) ?_
      refine lv_iconst (v := 0) hx hb dX12_enough_12 (by decide) ?_
      refine lv_iload_n hx hb dX12_enough_13 rfl (lv_at hl 1 rfl) ?_
      have kc0 : (0 : Int32).toInt = 0 := by decide
      refine call_V (As := [.int 0, .int p1]) (rest := []) (wr := []) FC hKn hZ (k_X12_weekBy l g h0 a1 a2 a3 a4 a6 a14 a15 a19 a20 a23 a24 a25 a26 a27 a28 mthrown mtaped msize mat mfrom mtoken mvalue mfaultKind mfaultPlace mgoal mgoalDays mgoalHearer mleastOrder mwordsMany mworld mbest ((0 : Int32)) p1 (by omega) (by omega) (by omega) (by omega) (by omega) (by omega) (by omega) (by omega) i_mworld (by omega) (by omega)) m_yX12_weekBy b_974 (ci := 12) rfl rfl rfl hP hD hS hA [1, 2, 0] [] rfl (by decide) rfl (by decide) (by decide) rfl hl.1 rfl (Nat.le_of_ble_eq_true rfl) dX12_enough_14 ⟨(Nat.le_of_ble_eq_true rfl), (Nat.le_of_ble_eq_true rfl)⟩ ⟨(Nat.le_of_ble_eq_true rfl), (Nat.le_of_ble_eq_true rfl)⟩ (fun u6 H locs q7 hP hD hS => ?_)
      have q7_0 : 0 ≤ (u6.1 3).toInt ∧ (u6.1 3).toInt ≤ 3 := q7
      have hP : va_P g.1 vwCl [(h0, .inr (12, [.int mthrown, .ref a1, .ref a2, .ref a3, .ref a4, .int mtaped, .ref a6, .int msize, .int mat, .int mfrom, .int mtoken, .int mvalue, .int mfaultKind, .int mfaultPlace, .ref a14, .ref a15, .int (u6.1 1), .int (u6.1 2), .int (u6.1 3), .ref a19, .ref a20, .int mleastOrder, .int mwordsMany, .ref a23, .ref a24, .ref a25, .ref a26, .ref a27, .ref a28])), (a1, .inl (g.2 0, 225, .inl mworld)), (a15, .inl (g.2 0, 2816, .inl (u6.2.1 0)))] H := hP
      have hD : va_D A [(h0, .inr (12, [.int mthrown, .ref a1, .ref a2, .ref a3, .ref a4, .int mtaped, .ref a6, .int msize, .int mat, .int mfrom, .int mtoken, .int mvalue, .int mfaultKind, .int mfaultPlace, .ref a14, .ref a15, .int (u6.1 1), .int (u6.1 2), .int (u6.1 3), .ref a19, .ref a20, .int mleastOrder, .int mwordsMany, .ref a23, .ref a24, .ref a25, .ref a26, .ref a27, .ref a28])), (a1, .inl (g.2 0, 225, .inl mworld)), (a15, .inl (g.2 0, 2816, .inl (u6.2.1 0)))] := hD
      refine W.eq (g2 := F0 m 17 ls [.int (u6.1 0)]) rfl ?_
      refine lv_istore_n (lv' := [(2, .int (u6.1 0)), (0, .ref h0), (1, .int p1)]) hx hb dX12_enough_17 rfl hl (by decide) rfl (fun ls hl => ?_)
      refine lv_iconst (v := 1) hx hb dX12_enough_18 (by decide) ?_
      refine lv_istore_n (lv' := [(3, .int 1), (2, .int (u6.1 0)), (0, .ref h0), (1, .int p1)]) hx hb dX12_enough_19 rfl hl (by decide) rfl (fun ls hl => ?_)
      have lp127 : ∀ (n129 : Nat) (x122 : Int32) (x123 : Int32) (x124 : Int32) (x125 : Int32) (x126 : Nat → Int32) (H : Heap) (locs : List Loc) (ls : Array Slot), 1 ≤ x122.toInt ∧ x122.toInt ≤ 11 → 0 ≤ x125.toInt ∧ x125.toInt ≤ 3 → (11 - x122.toInt).toNat < n129 → va_P g.1 vwCl [(h0, .inr (12, [.int mthrown, .ref a1, .ref a2, .ref a3, .ref a4, .int mtaped, .ref a6, .int msize, .int mat, .int mfrom, .int mtoken, .int mvalue, .int mfaultKind, .int mfaultPlace, .ref a14, .ref a15, .int x123, .int x124, .int x125, .ref a19, .ref a20, .int mleastOrder, .int mwordsMany, .ref a23, .ref a24, .ref a25, .ref a26, .ref a27, .ref a28])), (a1, .inl (g.2 0, 225, .inl mworld)), (a15, .inl (g.2 0, 2816, .inl x126))] H → va_D A [(h0, .inr (12, [.int mthrown, .ref a1, .ref a2, .ref a3, .ref a4, .int mtaped, .ref a6, .int msize, .int mat, .int mfrom, .int mtoken, .int mvalue, .int mfaultKind, .int mfaultPlace, .ref a14, .ref a15, .int x123, .int x124, .int x125, .ref a19, .ref a20, .int mleastOrder, .int mwordsMany, .ref a23, .ref a24, .ref a25, .ref a26, .ref a27, .ref a28])), (a1, .inl (g.2 0, 225, .inl mworld)), (a15, .inl (g.2 0, 2816, .inl x126))] → va_S A s.heap H locs → lv_has ls 4 [(3, .int x122), (2, .int (u6.1 0)), (0, .ref h0), (1, .int p1)] → W p l e { frames := 8, cells := 0, slots := 0, locals := 193 } s m ([.ref h0, .int p1].toArray) below meth c H locs 0 0 (MQ below (QX (S := (Nat → Int32) × (Nat → Nat → Int32) × (Nat → Nat → Int64)) (fun u => some (.int (u.1 0))) (fun u => (0 ≤ (u.1 3).toInt ∧ (u.1 3).toInt ≤ 3)) g (fun u => [(h0, .inr (12, [.int mthrown, .ref a1, .ref a2, .ref a3, .ref a4, .int mtaped, .ref a6, .int msize, .int mat, .int mfrom, .int mtoken, .int mvalue, .int mfaultKind, .int mfaultPlace, .ref a14, .ref a15, .int (u.1 1), .int (u.1 2), .int (u.1 3), .ref a19, .ref a20, .int mleastOrder, .int mwordsMany, .ref a23, .ref a24, .ref a25, .ref a26, .ref a27, .ref a28])), (a1, .inl (g.2 0, 225, .inl mworld)), (a15, .inl (g.2 0, 2816, .inl (u.2.1 0)))]) A) ([.ref h0, .int p1].toArray) s 0 0 A) (F0 m 20 ls []) := by
        intro n129
        induction n129 with
        | zero =>
          intro x122 x123 x124 x125 x126 H locs ls h_x122 h_x125 hn130
          exact absurd hn130 (Nat.not_lt_zero _)
        | succ n129 ih128 =>
          intro x122 x123 x124 x125 x126 H locs ls h_x122 h_x125 hn130 hP hD hS hl
          refine lv_iload_n hx hb dX12_enough_20 rfl (lv_at hl 0 rfl) ?_
          refine lv_aload_n hx hb dX12_enough_21 rfl (lv_at hl 2 rfl) ?_
          refine g_get (C := RX12) (T := TX12) (N := 29) (ci := 12) (v := .ref a1) FC hKn hP i_X12 0 rfl rfl 1 (by decide) b_801 rfl dX12_enough_22 ?_
          refine lv_iconst (v := 2) hx hb dX12_enough_25 (by decide) ?_
          refine va_iald hx hb hKn.1 hP 1 0 rfl rfl (by unfold vp_in; decide) dX12_enough_26 ?_
          have kc2 : (2 : Int32).toInt = 2 := by decide
          refine lv_topi (fun z131 e_z131 => ?_)
          have t_z131 : 0 ≤ z131.toInt ∧ z131.toInt ≤ 10 := by rw [e_z131]; exact wk_2 i_mworld.1
          have q_z131 : z131.toInt = (mworld 2).toInt := by rw [e_z131]; rfl
          refine lv_icmp_gt (tgt := 63) hx hb dX12_enough_27 (by decide) (fun c132 => ?_) (fun c132 => ?_)
          · have c132 := k_lt (a := z131.toInt) (b := x122.toInt) rfl rfl c132
            refine lv_iconst (v := -1) hx hb dX12_enough_63 (by decide) ?_
            exact rt_i FX ((fun k => match k with | 0 => (-1 : Int32) | 1 => x123 | 2 => x124 | 3 => x125 | _ => 0), (fun k => match k with | 0 => x126 | _ => fun _ => 0), (fun _ => fun _ => 0)) rfl (show 0 ≤ x125.toInt ∧ x125.toInt ≤ 3 by omega) (hP.sub [0, 1, 2] rfl) (hD.sub [0, 1, 2] (by decide) rfl) hS (Nat.le_of_ble_eq_true rfl) (Nat.le_of_ble_eq_true rfl) dX12_enough_64
          · have c132 := k_nlt (a := z131.toInt) (b := x122.toInt) rfl rfl c132
            refine lv_iload_n hx hb dX12_enough_30 rfl (lv_at hl 1 rfl) ?_
            refine lv_iconst (v := -1) hx hb dX12_enough_31 (by decide) ?_
            refine lv_icmp_eq (tgt := 63) hx hb dX12_enough_32 (by decide) (fun c133 => ?_) (fun c133 => ?_)
            · have c133 := k_eq (a := (u6.1 0).toInt) (b := -1) rfl (by decide) c133
              refine lv_iconst (v := -1) hx hb dX12_enough_63 (by decide) ?_
              exact rt_i FX ((fun k => match k with | 0 => (-1 : Int32) | 1 => x123 | 2 => x124 | 3 => x125 | _ => 0), (fun k => match k with | 0 => x126 | _ => fun _ => 0), (fun _ => fun _ => 0)) rfl (show 0 ≤ x125.toInt ∧ x125.toInt ≤ 3 by omega) (hP.sub [0, 1, 2] rfl) (hD.sub [0, 1, 2] (by decide) rfl) hS (Nat.le_of_ble_eq_true rfl) (Nat.le_of_ble_eq_true rfl) dX12_enough_64
            · have c133 := k_ne (a := (u6.1 0).toInt) (b := -1) rfl (by decide) c133
              refine lv_aload_n hx hb dX12_enough_35 rfl (lv_at hl 2 rfl) ?_
              refine lv_iconst (v := 0) hx hb dX12_enough_36 (by decide) ?_
              refine lv_iload_n hx hb dX12_enough_37 rfl (lv_at hl 3 rfl) ?_
              refine lv_iload_n hx hb dX12_enough_38 rfl (lv_at hl 0 rfl) ?_
              refine call_V (As := [.int 0, .int p1, .int x122]) (rest := []) (wr := []) FC hKn hZ (k_X12_fill l g h0 a1 a2 a3 a4 a6 a14 a15 a19 a20 a23 a24 a25 a26 a27 a28 mthrown mtaped msize mat mfrom mtoken mvalue mfaultKind mfaultPlace x123 x124 x125 mleastOrder mwordsMany mworld x126 ((0 : Int32)) p1 x122 (by omega) (by omega) (by omega) (by omega) (by omega) (by omega) (by omega) (by omega) i_mworld (by omega) (by omega) (by omega)) m_yX12_fill b_973 (ci := 12) rfl rfl rfl hP hD hS hA [0, 1, 2] [] rfl (by decide) rfl (by decide) (by decide) rfl hl.1 rfl (Nat.le_of_ble_eq_true rfl) dX12_enough_39 ⟨(Nat.le_of_ble_eq_true rfl), (Nat.le_of_ble_eq_true rfl)⟩ ⟨(Nat.le_of_ble_eq_true rfl), (Nat.le_of_ble_eq_true rfl)⟩ (fun u134 H locs q135 hP hD hS => ?_)
              have q135_0 : 0 ≤ (u134.1 3).toInt ∧ (u134.1 3).toInt ≤ 3 := q135
              have hP : va_P g.1 vwCl [(h0, .inr (12, [.int mthrown, .ref a1, .ref a2, .ref a3, .ref a4, .int mtaped, .ref a6, .int msize, .int mat, .int mfrom, .int mtoken, .int mvalue, .int mfaultKind, .int mfaultPlace, .ref a14, .ref a15, .int (u134.1 1), .int (u134.1 2), .int (u134.1 3), .ref a19, .ref a20, .int mleastOrder, .int mwordsMany, .ref a23, .ref a24, .ref a25, .ref a26, .ref a27, .ref a28])), (a1, .inl (g.2 0, 225, .inl mworld)), (a15, .inl (g.2 0, 2816, .inl (u134.2.1 0)))] H := hP
              have hD : va_D A [(h0, .inr (12, [.int mthrown, .ref a1, .ref a2, .ref a3, .ref a4, .int mtaped, .ref a6, .int msize, .int mat, .int mfrom, .int mtoken, .int mvalue, .int mfaultKind, .int mfaultPlace, .ref a14, .ref a15, .int (u134.1 1), .int (u134.1 2), .int (u134.1 3), .ref a19, .ref a20, .int mleastOrder, .int mwordsMany, .ref a23, .ref a24, .ref a25, .ref a26, .ref a27, .ref a28])), (a1, .inl (g.2 0, 225, .inl mworld)), (a15, .inl (g.2 0, 2816, .inl (u134.2.1 0)))] := hD
              refine W.eq (g2 := F0 m 42 ls []) rfl ?_
              refine lv_aload_n hx hb dX12_enough_42 rfl (lv_at hl 2 rfl) ?_
              refine g_get (C := RX12) (T := TX12) (N := 29) (ci := 12) (v := .ref a15) FC hKn hP i_X12 0 rfl rfl 15 (by decide) b_965 rfl dX12_enough_43 ?_
              refine lv_aload_n hx hb dX12_enough_46 rfl (lv_at hl 2 rfl) ?_
              refine call_V (As := []) (rest := [.ref a15]) (wr := [(a15, .inl (g.2 0, 2816, .inl (u134.2.1 0)))]) FC hKn hZ (k_X12_allStates l g h0 a1 a2 a3 a4 a6 a14 a15 a19 a20 a23 a24 a25 a26 a27 a28 mthrown mtaped msize mat mfrom mtoken mvalue mfaultKind mfaultPlace (u134.1 1) (u134.1 2) (u134.1 3) mleastOrder mwordsMany mworld (by omega) (by omega) (by omega) (by omega) (by omega) (by omega) (by omega) (by omega) i_mworld) m_yX12_allStates b_806 (ci := 12) rfl rfl rfl hP hD hS hA [0, 1] [2] rfl (by decide) rfl (by decide) (by decide) rfl hl.1 rfl (Nat.le_of_ble_eq_true rfl) dX12_enough_47 ⟨(Nat.le_of_ble_eq_true rfl), (Nat.le_of_ble_eq_true rfl)⟩ ⟨(Nat.le_of_ble_eq_true rfl), (Nat.le_of_ble_eq_true rfl)⟩ (fun u136 H locs q137 hP hD hS => ?_)
              obtain ⟨q137_0, q137_1, q137_2⟩ := q137
              have hP : va_P g.1 vwCl [(a15, .inl (g.2 0, 2816, .inl (u134.2.1 0))), (h0, .inr (12, [.int mthrown, .ref a1, .ref a2, .ref a3, .ref a4, .int mtaped, .ref a6, .int msize, .int mat, .int mfrom, .int mtoken, .int mvalue, .int mfaultKind, .int mfaultPlace, .ref a14, .ref a15, .int (u134.1 1), .int (u134.1 2), .int (u134.1 3), .ref a19, .ref a20, .int mleastOrder, .int mwordsMany, .ref a23, .ref a24, .ref a25, .ref a26, .ref a27, .ref a28])), (a1, .inl (g.2 0, 225, .inl mworld))] H := hP
              have hD : va_D A [(a15, .inl (g.2 0, 2816, .inl (u134.2.1 0))), (h0, .inr (12, [.int mthrown, .ref a1, .ref a2, .ref a3, .ref a4, .int mtaped, .ref a6, .int msize, .int mat, .int mfrom, .int mtoken, .int mvalue, .int mfaultKind, .int mfaultPlace, .ref a14, .ref a15, .int (u134.1 1), .int (u134.1 2), .int (u134.1 3), .ref a19, .ref a20, .int mleastOrder, .int mwordsMany, .ref a23, .ref a24, .ref a25, .ref a26, .ref a27, .ref a28])), (a1, .inl (g.2 0, 225, .inl mworld))] := hD
              refine W.eq (g2 := F0 m 50 ls [.int (u136.1 0), .ref a15]) rfl ?_
              rw [q137_1] at q137_0
              rw [q137_1] at q137_2
              refine tp_i (v := asF mworld) q137_1 ?_
              refine va_iald hx hb hKn.1 hP 0 0 rfl rfl (vp_in_iff.mpr ⟨by omega, by omega⟩) dX12_enough_50 ?_
              refine lv_topi (fun z138 e_z138 => ?_)
              refine lv_iload_n hx hb dX12_enough_51 rfl (lv_at hl 1 rfl) ?_
              refine lv_icmp_ne (tgt := 57) hx hb dX12_enough_52 (by decide) (fun c139 => ?_) (fun c139 => ?_)
              · have c139 := k_ne (a := z138.toInt) (b := (u6.1 0).toInt) rfl rfl c139
                obtain ⟨z140, e_z140⟩ : ∃ y : Int32, y = x122 + 1 := ⟨_, rfl⟩
                have t_z140 : z140.toInt = x122.toInt + 1 := by rw [e_z140]; exact addk (by decide) (by omega) (by omega)
                refine lv_iinc (v := z140) (lv' := [(3, .int z140), (2, .int (u6.1 0)), (0, .ref h0), (1, .int p1)]) hx hb dX12_enough_57 hl (k := 0) rfl (by rw [e_z140]; rfl) (by decide) rfl (fun ls hl => ?_)
                refine lv_goto (tgt := 20) hx hb dX12_enough_60 (by decide) ?_
                exact ih128 z140 (u134.1 1) (u134.1 2) (u134.1 3) (u134.2.1 0) _ _ ls (by omega) (by omega) (by omega) (hP.sub [1, 2, 0] rfl) (hD.sub [1, 2, 0] (by decide) rfl) hS (lv_sub hl [0, 1, 2, 3] rfl)
              · have c139 := k_eq (a := z138.toInt) (b := (u6.1 0).toInt) rfl rfl c139
                refine lv_iload_n hx hb dX12_enough_55 rfl (lv_at hl 0 rfl) ?_
                exact rt_i FX ((fun k => match k with | 0 => x122 | 1 => u134.1 1 | 2 => u134.1 2 | 3 => u134.1 3 | _ => 0), (fun k => match k with | 0 => u134.2.1 0 | _ => fun _ => 0), (fun _ => fun _ => 0)) rfl (show 0 ≤ (u134.1 3).toInt ∧ (u134.1 3).toInt ≤ 3 by omega) (hP.sub [1, 2, 0] rfl) (hD.sub [1, 2, 0] (by decide) rfl) hS (Nat.le_of_ble_eq_true rfl) (Nat.le_of_ble_eq_true rfl) dX12_enough_56
      have kc1 : (1 : Int32).toInt = 1 := by decide
      exact lp127 _ (1 : Int32) (u6.1 1) (u6.1 2) (u6.1 3) (u6.2.1 0) _ _ ls (by decide) (by omega) (Nat.lt_succ_self _) hP hD hS (lv_sub hl [0, 1, 2, 3] rfl)
    · have c5 := k_eq (a := (u1.1 0).toInt) (b := 0) rfl (by decide) c5
      exfalso; omega
set_option maxRecDepth 100000 in
set_option maxHeartbeats 4000000 in
theorem k_X12_rest (l : Launch) (g : GG) (h0 : Nat) (a1 : Nat) (a2 : Nat) (a3 : Nat) (a4 : Nat) (a6 : Nat) (a14 : Nat) (a15 : Nat) (a19 : Nat) (a20 : Nat) (a23 : Nat) (a24 : Nat) (a25 : Nat) (a26 : Nat) (a27 : Nat) (a28 : Nat) (mthrown : Int32) (mtaped : Int32) (msize : Int32) (mat : Int32) (mfrom : Int32) (mtoken : Int32) (mvalue : Int32) (mfaultKind : Int32) (mfaultPlace : Int32) (mgoal : Int32) (mgoalDays : Int32) (mgoalHearer : Int32) (mleastOrder : Int32) (mwordsMany : Int32) (mworld : Nat → Int32) (mbest : Nat → Int32) (p1 : Int32) (i_mtaped : 0 ≤ mtaped.toInt ∧ mtaped.toInt ≤ 900) (i_msize : 0 ≤ msize.toInt ∧ msize.toInt ≤ 900) (i_mat : 0 ≤ mat.toInt ∧ mat.toInt ≤ 900) (i_mfrom : 0 ≤ mfrom.toInt ∧ mfrom.toInt ≤ 900) (i_mtoken : 0 ≤ mtoken.toInt ∧ mtoken.toInt ≤ 4) (i_mvalue : 0 ≤ mvalue.toInt ∧ mvalue.toInt ≤ 99999) (i_mgoalHearer : 0 ≤ mgoalHearer.toInt ∧ mgoalHearer.toInt ≤ 3) (i_mwordsMany : 0 ≤ mwordsMany.toInt ∧ mwordsMany.toInt ≤ 10) (i_mworld : wod mworld) : Ct l g yX12_rest cX12_rest 7 (some .int) { frames := 8, cells := 0, slots := 0, locals := 193 } [.ref h0, .int p1] [(h0, .inr (12, [.int mthrown, .ref a1, .ref a2, .ref a3, .ref a4, .int mtaped, .ref a6, .int msize, .int mat, .int mfrom, .int mtoken, .int mvalue, .int mfaultKind, .int mfaultPlace, .ref a14, .ref a15, .int mgoal, .int mgoalDays, .int mgoalHearer, .ref a19, .ref a20, .int mleastOrder, .int mwordsMany, .ref a23, .ref a24, .ref a25, .ref a26, .ref a27, .ref a28])), (a1, .inl (g.2 0, 225, .inl mworld)), (a15, .inl (g.2 0, 2816, .inl mbest))] (S := (Nat → Int32) × (Nat → Nat → Int32) × (Nat → Nat → Int64)) (fun u => some (.int (u.1 0))) (fun u => (0 ≤ (u.1 3).toInt ∧ (u.1 3).toInt ≤ 3)) (fun u => [(h0, .inr (12, [.int mthrown, .ref a1, .ref a2, .ref a3, .ref a4, .int mtaped, .ref a6, .int msize, .int mat, .int mfrom, .int mtoken, .int mvalue, .int mfaultKind, .int mfaultPlace, .ref a14, .ref a15, .int (u.1 1), .int (u.1 2), .int (u.1 3), .ref a19, .ref a20, .int mleastOrder, .int mwordsMany, .ref a23, .ref a24, .ref a25, .ref a26, .ref a27, .ref a28])), (a1, .inl (g.2 0, 225, .inl mworld)), (a15, .inl (g.2 0, 2816, .inl (u.2.1 0)))]) := by
  refine Ct.of (by decide) (Nat.le_of_ble_eq_true rfl) ?_
  intro p e s m below meth c A ls FX hP hD hS hl
  obtain ⟨FC, hr, hlk, hKn, hA, hnm, hZ⟩ := id FX
  have FC : CallFix p m c cX12_rest 7 s _ BIG RX12 := FC
  obtain ⟨hx, hb, hml, hown, hB⟩ := id FC
  have hl : lv_has ls 7 [(0, .ref h0), (1, .int p1)] := hl
  refine lv_aload_n hx hb dX12_rest_0 rfl (lv_at hl 0 rfl) ?_
  refine lv_iload_n hx hb dX12_rest_1 rfl (lv_at hl 1 rfl) ?_
  refine call_V (As := [.int p1]) (rest := []) (wr := [(a15, .inl (g.2 0, 2816, .inl mbest))]) FC hKn hZ (k_X12_isHearer l g h0 a1 a2 a3 a4 a6 a14 a15 a19 a20 a23 a24 a25 a26 a27 a28 mthrown mtaped msize mat mfrom mtoken mvalue mfaultKind mfaultPlace mgoal mgoalDays mgoalHearer mleastOrder mwordsMany mworld p1 (by omega) (by omega) (by omega) (by omega) (by omega) (by omega) (by omega) (by omega) i_mworld) m_yX12_isHearer b_881 (ci := 12) rfl rfl rfl hP hD hS hA [0, 1] [2] rfl (by decide) rfl (by decide) (by decide) rfl hl.1 rfl (Nat.le_of_ble_eq_true rfl) dX12_rest_2 ⟨(Nat.le_of_ble_eq_true rfl), (Nat.le_of_ble_eq_true rfl)⟩ ⟨(Nat.le_of_ble_eq_true rfl), (Nat.le_of_ble_eq_true rfl)⟩ (fun u1 H locs q2 hP hD hS => ?_)
  obtain ⟨q2_0, q2_1⟩ := q2
  have hP : va_P g.1 vwCl [(a15, .inl (g.2 0, 2816, .inl mbest)), (h0, .inr (12, [.int mthrown, .ref a1, .ref a2, .ref a3, .ref a4, .int mtaped, .ref a6, .int msize, .int mat, .int mfrom, .int mtoken, .int mvalue, .int mfaultKind, .int mfaultPlace, .ref a14, .ref a15, .int mgoal, .int mgoalDays, .int mgoalHearer, .ref a19, .ref a20, .int mleastOrder, .int mwordsMany, .ref a23, .ref a24, .ref a25, .ref a26, .ref a27, .ref a28])), (a1, .inl (g.2 0, 225, .inl mworld))] H := hP
  have hD : va_D A [(a15, .inl (g.2 0, 2816, .inl mbest)), (h0, .inr (12, [.int mthrown, .ref a1, .ref a2, .ref a3, .ref a4, .int mtaped, .ref a6, .int msize, .int mat, .int mfrom, .int mtoken, .int mvalue, .int mfaultKind, .int mfaultPlace, .ref a14, .ref a15, .int mgoal, .int mgoalDays, .int mgoalHearer, .ref a19, .ref a20, .int mleastOrder, .int mwordsMany, .ref a23, .ref a24, .ref a25, .ref a26, .ref a27, .ref a28])), (a1, .inl (g.2 0, 225, .inl mworld))] := hD
  refine W.eq (g2 := F0 m 5 ls [.int (u1.1 0)]) rfl ?_
  rcases (show (u1.1 0).toInt = 0 ∨ (u1.1 0).toInt = 1 by omega) with c3 | c3
  · skip
    refine lv_if_ne (tgt := 11) hx hb dX12_rest_5 (by decide) (fun c4 => ?_) (fun c4 => ?_)
    · have c4 := k_ne (a := (u1.1 0).toInt) (b := 0) rfl (by decide) c4
      exfalso; omega
    · have c4 := k_eq (a := (u1.1 0).toInt) (b := 0) rfl (by decide) c4
      refine lv_bipush (v := -2) hx hb dX12_rest_8 (by decide) ?_
      exact rt_i FX ((fun k => match k with | 0 => (-2 : Int32) | 1 => mgoal | 2 => mgoalDays | 3 => mgoalHearer | _ => 0), (fun k => match k with | 0 => mbest | _ => fun _ => 0), (fun _ => fun _ => 0)) rfl (show 0 ≤ mgoalHearer.toInt ∧ mgoalHearer.toInt ≤ 3 by omega) (hP.sub [1, 2, 0] rfl) (hD.sub [1, 2, 0] (by decide) rfl) hS (Nat.le_of_ble_eq_true rfl) (Nat.le_of_ble_eq_true rfl) dX12_rest_10
  · have c3_r := q2_1 c3
    refine lv_if_ne (tgt := 11) hx hb dX12_rest_5 (by decide) (fun c5 => ?_) (fun c5 => ?_)
    · have c5 := k_ne (a := (u1.1 0).toInt) (b := 0) rfl (by decide) c5
      refine lv_aload_n hx hb dX12_rest_11 rfl (lv_at hl 0 rfl) ?_
      refine lv_iconst (v := 0) hx hb dX12_rest_12 (by decide) ?_
      refine lv_iload_n hx hb dX12_rest_13 rfl (lv_at hl 1 rfl) ?_
      have kc0 : (0 : Int32).toInt = 0 := by decide
      refine call_V (As := [.int 0, .int p1]) (rest := []) (wr := []) FC hKn hZ (k_X12_weekBy l g h0 a1 a2 a3 a4 a6 a14 a15 a19 a20 a23 a24 a25 a26 a27 a28 mthrown mtaped msize mat mfrom mtoken mvalue mfaultKind mfaultPlace mgoal mgoalDays mgoalHearer mleastOrder mwordsMany mworld mbest ((0 : Int32)) p1 (by omega) (by omega) (by omega) (by omega) (by omega) (by omega) (by omega) (by omega) i_mworld (by omega) (by omega)) m_yX12_weekBy b_974 (ci := 12) rfl rfl rfl hP hD hS hA [1, 2, 0] [] rfl (by decide) rfl (by decide) (by decide) rfl hl.1 rfl (Nat.le_of_ble_eq_true rfl) dX12_rest_14 ⟨(Nat.le_of_ble_eq_true rfl), (Nat.le_of_ble_eq_true rfl)⟩ ⟨(Nat.le_of_ble_eq_true rfl), (Nat.le_of_ble_eq_true rfl)⟩ (fun u6 H locs q7 hP hD hS => ?_)
      have q7_0 : 0 ≤ (u6.1 3).toInt ∧ (u6.1 3).toInt ≤ 3 := q7
      have hP : va_P g.1 vwCl [(h0, .inr (12, [.int mthrown, .ref a1, .ref a2, .ref a3, .ref a4, .int mtaped, .ref a6, .int msize, .int mat, .int mfrom, .int mtoken, .int mvalue, .int mfaultKind, .int mfaultPlace, .ref a14, .ref a15, .int (u6.1 1), .int (u6.1 2), .int (u6.1 3), .ref a19, .ref a20, .int mleastOrder, .int mwordsMany, .ref a23, .ref a24, .ref a25, .ref a26, .ref a27, .ref a28])), (a1, .inl (g.2 0, 225, .inl mworld)), (a15, .inl (g.2 0, 2816, .inl (u6.2.1 0)))] H := hP
      have hD : va_D A [(h0, .inr (12, [.int mthrown, .ref a1, .ref a2, .ref a3, .ref a4, .int mtaped, .ref a6, .int msize, .int mat, .int mfrom, .int mtoken, .int mvalue, .int mfaultKind, .int mfaultPlace, .ref a14, .ref a15, .int (u6.1 1), .int (u6.1 2), .int (u6.1 3), .ref a19, .ref a20, .int mleastOrder, .int mwordsMany, .ref a23, .ref a24, .ref a25, .ref a26, .ref a27, .ref a28])), (a1, .inl (g.2 0, 225, .inl mworld)), (a15, .inl (g.2 0, 2816, .inl (u6.2.1 0)))] := hD
      refine W.eq (g2 := F0 m 17 ls [.int (u6.1 0)]) rfl ?_
      refine lv_iconst (v := -1) hx hb dX12_rest_17 (by decide) ?_
      refine lv_icmp_ne (tgt := 23) hx hb dX12_rest_18 (by decide) (fun c8 => ?_) (fun c8 => ?_)
      · have c8 := k_ne (a := (u6.1 0).toInt) (b := -1) rfl (by decide) c8
        refine lv_iconst (v := 0) hx hb dX12_rest_23 (by decide) ?_
        refine lv_istore_n (lv' := [(2, .int 0), (0, .ref h0), (1, .int p1)]) hx hb dX12_rest_24 rfl hl (by decide) rfl (fun ls hl => ?_)
        refine lv_iconst (v := 0) hx hb dX12_rest_25 (by decide) ?_
        refine lv_istore_n (lv' := [(3, .int 0), (2, .int 0), (0, .ref h0), (1, .int p1)]) hx hb dX12_rest_26 rfl hl (by decide) rfl (fun ls hl => ?_)
        refine lv_aload_n hx hb dX12_rest_27 rfl (lv_at hl 2 rfl) ?_
        refine call_V (As := []) (rest := []) (wr := [(a15, .inl (g.2 0, 2816, .inl (u6.2.1 0)))]) FC hKn hZ (k_X12_allStates l g h0 a1 a2 a3 a4 a6 a14 a15 a19 a20 a23 a24 a25 a26 a27 a28 mthrown mtaped msize mat mfrom mtoken mvalue mfaultKind mfaultPlace (u6.1 1) (u6.1 2) (u6.1 3) mleastOrder mwordsMany mworld (by omega) (by omega) (by omega) (by omega) (by omega) (by omega) (by omega) (by omega) i_mworld) m_yX12_allStates b_806 (ci := 12) rfl rfl rfl hP hD hS hA [0, 1] [2] rfl (by decide) rfl (by decide) (by decide) rfl hl.1 rfl (Nat.le_of_ble_eq_true rfl) dX12_rest_28 ⟨(Nat.le_of_ble_eq_true rfl), (Nat.le_of_ble_eq_true rfl)⟩ ⟨(Nat.le_of_ble_eq_true rfl), (Nat.le_of_ble_eq_true rfl)⟩ (fun u9 H locs q10 hP hD hS => ?_)
        obtain ⟨q10_0, q10_1, q10_2⟩ := q10
        have hP : va_P g.1 vwCl [(a15, .inl (g.2 0, 2816, .inl (u6.2.1 0))), (h0, .inr (12, [.int mthrown, .ref a1, .ref a2, .ref a3, .ref a4, .int mtaped, .ref a6, .int msize, .int mat, .int mfrom, .int mtoken, .int mvalue, .int mfaultKind, .int mfaultPlace, .ref a14, .ref a15, .int (u6.1 1), .int (u6.1 2), .int (u6.1 3), .ref a19, .ref a20, .int mleastOrder, .int mwordsMany, .ref a23, .ref a24, .ref a25, .ref a26, .ref a27, .ref a28])), (a1, .inl (g.2 0, 225, .inl mworld))] H := hP
        have hD : va_D A [(a15, .inl (g.2 0, 2816, .inl (u6.2.1 0))), (h0, .inr (12, [.int mthrown, .ref a1, .ref a2, .ref a3, .ref a4, .int mtaped, .ref a6, .int msize, .int mat, .int mfrom, .int mtoken, .int mvalue, .int mfaultKind, .int mfaultPlace, .ref a14, .ref a15, .int (u6.1 1), .int (u6.1 2), .int (u6.1 3), .ref a19, .ref a20, .int mleastOrder, .int mwordsMany, .ref a23, .ref a24, .ref a25, .ref a26, .ref a27, .ref a28])), (a1, .inl (g.2 0, 225, .inl mworld))] := hD
        refine W.eq (g2 := F0 m 31 ls [.int (u9.1 0)]) rfl ?_
        rw [q10_1] at q10_0
        rw [q10_1] at q10_2
        refine tp_i (v := asF mworld) q10_1 ?_
        refine lv_istore (lv' := [(4, .int (asF mworld)), (3, .int 0), (2, .int 0), (0, .ref h0), (1, .int p1)]) hx hb dX12_rest_31 hl (by decide) rfl (fun ls hl => ?_)
        refine lv_iconst (v := 0) hx hb dX12_rest_33 (by decide) ?_
        refine lv_istore (lv' := [(5, .int 0), (4, .int (asF mworld)), (3, .int 0), (2, .int 0), (0, .ref h0), (1, .int p1)]) hx hb dX12_rest_34 hl (by decide) rfl (fun ls hl => ?_)
        have lp170 : ∀ (n172 : Nat) (x166 : Int32) (x167 : Int32) (x168 : Int32) (x169 : Int32) (H : Heap) (locs : List Loc) (ls : Array Slot), 0 ≤ x166.toInt ∧ x166.toInt ≤ 10 → 1 ≤ x167.toInt ∧ x167.toInt ≤ 255 → 0 ≤ x169.toInt → (10 - x166.toInt).toNat < n172 → va_P g.1 vwCl [(a15, .inl (g.2 0, 2816, .inl (u6.2.1 0))), (h0, .inr (12, [.int mthrown, .ref a1, .ref a2, .ref a3, .ref a4, .int mtaped, .ref a6, .int msize, .int mat, .int mfrom, .int mtoken, .int mvalue, .int mfaultKind, .int mfaultPlace, .ref a14, .ref a15, .int (u6.1 1), .int (u6.1 2), .int (u6.1 3), .ref a19, .ref a20, .int mleastOrder, .int mwordsMany, .ref a23, .ref a24, .ref a25, .ref a26, .ref a27, .ref a28])), (a1, .inl (g.2 0, 225, .inl mworld))] H → va_D A [(a15, .inl (g.2 0, 2816, .inl (u6.2.1 0))), (h0, .inr (12, [.int mthrown, .ref a1, .ref a2, .ref a3, .ref a4, .int mtaped, .ref a6, .int msize, .int mat, .int mfrom, .int mtoken, .int mvalue, .int mfaultKind, .int mfaultPlace, .ref a14, .ref a15, .int (u6.1 1), .int (u6.1 2), .int (u6.1 3), .ref a19, .ref a20, .int mleastOrder, .int mwordsMany, .ref a23, .ref a24, .ref a25, .ref a26, .ref a27, .ref a28])), (a1, .inl (g.2 0, 225, .inl mworld))] → va_S A s.heap H locs → lv_has ls 7 [(5, .int x166), (4, .int x167), (3, .int x168), (2, .int x169), (0, .ref h0), (1, .int p1)] → W p l e { frames := 8, cells := 0, slots := 0, locals := 193 } s m ([.ref h0, .int p1].toArray) below meth c H locs 0 0 (MQ below (QX (S := (Nat → Int32) × (Nat → Nat → Int32) × (Nat → Nat → Int64)) (fun u => some (.int (u.1 0))) (fun u => (0 ≤ (u.1 3).toInt ∧ (u.1 3).toInt ≤ 3)) g (fun u => [(h0, .inr (12, [.int mthrown, .ref a1, .ref a2, .ref a3, .ref a4, .int mtaped, .ref a6, .int msize, .int mat, .int mfrom, .int mtoken, .int mvalue, .int mfaultKind, .int mfaultPlace, .ref a14, .ref a15, .int (u.1 1), .int (u.1 2), .int (u.1 3), .ref a19, .ref a20, .int mleastOrder, .int mwordsMany, .ref a23, .ref a24, .ref a25, .ref a26, .ref a27, .ref a28])), (a1, .inl (g.2 0, 225, .inl mworld)), (a15, .inl (g.2 0, 2816, .inl (u.2.1 0)))]) A) ([.ref h0, .int p1].toArray) s 0 0 A) (F0 m 36 ls []) := by
          intro n172
          induction n172 with
          | zero =>
            intro x166 x167 x168 x169 H locs ls h_x166 h_x167 h_x169 hn173
            exact absurd hn173 (Nat.not_lt_zero _)
          | succ n172 ih171 =>
            intro x166 x167 x168 x169 H locs ls h_x166 h_x167 h_x169 hn173 hP hD hS hl
            refine lv_iload hx hb dX12_rest_36 (lv_at hl 0 rfl) ?_
            refine lv_aload_n hx hb dX12_rest_38 rfl (lv_at hl 4 rfl) ?_
            refine g_get (C := RX12) (T := TX12) (N := 29) (ci := 12) (v := .ref a1) FC hKn hP i_X12 1 rfl rfl 1 (by decide) b_801 rfl dX12_rest_39 ?_
            refine lv_iconst (v := 2) hx hb dX12_rest_42 (by decide) ?_
            refine va_iald hx hb hKn.1 hP 2 0 rfl rfl (by unfold vp_in; decide) dX12_rest_43 ?_
            have kc2 : (2 : Int32).toInt = 2 := by decide
            refine lv_topi (fun z174 e_z174 => ?_)
            have t_z174 : 0 ≤ z174.toInt ∧ z174.toInt ≤ 10 := by rw [e_z174]; exact wk_2 i_mworld.1
            have q_z174 : z174.toInt = (mworld 2).toInt := by rw [e_z174]; rfl
            refine lv_icmp_ge (tgt := 94) hx hb dX12_rest_44 (by decide) (fun c175 => ?_) (fun c175 => ?_)
            · have c175 := k_le (a := z174.toInt) (b := x166.toInt) rfl rfl c175
              refine lv_iload_n hx hb dX12_rest_94 rfl (lv_at hl 3 rfl) ?_
              exact rt_i FX ((fun k => match k with | 0 => x169 | 1 => u6.1 1 | 2 => u6.1 2 | 3 => u6.1 3 | _ => 0), (fun k => match k with | 0 => u6.2.1 0 | _ => fun _ => 0), (fun _ => fun _ => 0)) rfl (show 0 ≤ (u6.1 3).toInt ∧ (u6.1 3).toInt ≤ 3 by omega) (hP.sub [1, 2, 0] rfl) (hD.sub [1, 2, 0] (by decide) rfl) hS (Nat.le_of_ble_eq_true rfl) (Nat.le_of_ble_eq_true rfl) dX12_rest_95
            · have c175 := k_nle (a := z174.toInt) (b := x166.toInt) rfl rfl c175
              refine lv_aload_n hx hb dX12_rest_47 rfl (lv_at hl 4 rfl) ?_
              refine lv_iload hx hb dX12_rest_48 (lv_at hl 0 rfl) ?_
              refine lv_iload hx hb dX12_rest_50 (lv_at hl 1 rfl) ?_
              refine call_V (As := [.int x166, .int x167]) (rest := []) (wr := []) FC hKn hZ (k_X12_bestWord l g h0 a1 a2 a3 a4 a6 a14 a15 a19 a20 a23 a24 a25 a26 a27 a28 mthrown mtaped msize mat mfrom mtoken mvalue mfaultKind mfaultPlace (u6.1 1) (u6.1 2) (u6.1 3) mleastOrder mwordsMany mworld (u6.2.1 0) x166 x167 (by omega) (by omega) (by omega) (by omega) (by omega) (by omega) (by omega) (by omega) i_mworld (by omega) (by omega)) m_yX12_bestWord b_971 (ci := 12) rfl rfl rfl hP hD hS hA [1, 2, 0] [] rfl (by decide) rfl (by decide) (by decide) rfl hl.1 rfl (Nat.le_of_ble_eq_true rfl) dX12_rest_52 ⟨(Nat.le_of_ble_eq_true rfl), (Nat.le_of_ble_eq_true rfl)⟩ ⟨(Nat.le_of_ble_eq_true rfl), (Nat.le_of_ble_eq_true rfl)⟩ (fun u176 H locs q177 hP hD hS => ?_)
              obtain ⟨q177_0, q177_1⟩ := q177
              have hP : va_P g.1 vwCl [(h0, .inr (12, [.int mthrown, .ref a1, .ref a2, .ref a3, .ref a4, .int mtaped, .ref a6, .int msize, .int mat, .int mfrom, .int mtoken, .int mvalue, .int mfaultKind, .int mfaultPlace, .ref a14, .ref a15, .int (u6.1 1), .int (u6.1 2), .int (u6.1 3), .ref a19, .ref a20, .int mleastOrder, .int mwordsMany, .ref a23, .ref a24, .ref a25, .ref a26, .ref a27, .ref a28])), (a1, .inl (g.2 0, 225, .inl mworld)), (a15, .inl (g.2 0, 2816, .inl (u6.2.1 0)))] H := hP
              have hD : va_D A [(h0, .inr (12, [.int mthrown, .ref a1, .ref a2, .ref a3, .ref a4, .int mtaped, .ref a6, .int msize, .int mat, .int mfrom, .int mtoken, .int mvalue, .int mfaultKind, .int mfaultPlace, .ref a14, .ref a15, .int (u6.1 1), .int (u6.1 2), .int (u6.1 3), .ref a19, .ref a20, .int mleastOrder, .int mwordsMany, .ref a23, .ref a24, .ref a25, .ref a26, .ref a27, .ref a28])), (a1, .inl (g.2 0, 225, .inl mworld)), (a15, .inl (g.2 0, 2816, .inl (u6.2.1 0)))] := hD
              refine W.eq (g2 := F0 m 55 ls [.int (u176.1 0)]) rfl ?_
              refine lv_istore (lv' := [(6, .int (u176.1 0)), (5, .int x166), (4, .int x167), (3, .int x168), (2, .int x169), (0, .ref h0), (1, .int p1)]) hx hb dX12_rest_55 hl (by decide) rfl (fun ls hl => ?_)
              refine lv_iload hx hb dX12_rest_57 (lv_at hl 0 rfl) ?_
              refine lv_bipush (v := 8) hx hb dX12_rest_59 (by decide) ?_
              refine lv_icmp_ne (tgt := 70) hx hb dX12_rest_61 (by decide) (fun c178 => ?_) (fun c178 => ?_)
              · have c178 := k_ne (a := (u176.1 0).toInt) (b := 8) rfl (by decide) c178
                refine lv_iconst (v := 0) hx hb dX12_rest_70 (by decide) ?_
                refine lv_istore_n (lv' := [(3, .int 0), (6, .int (u176.1 0)), (5, .int x166), (4, .int x167), (2, .int x169), (0, .ref h0), (1, .int p1)]) hx hb dX12_rest_71 rfl hl (by decide) rfl (fun ls hl => ?_)
                refine lv_iload_n hx hb dX12_rest_72 rfl (lv_at hl 4 rfl) ?_
                refine lv_iload_n hx hb dX12_rest_73 rfl (lv_at hl 0 rfl) ?_
                refine va_mmax hx hb (by rw [hml]; exact hl.1.symm) hown (hB _ b_856) (hB _ b_57) (hB _ b_58) (hB _ b_59) (Nat.le_of_ble_eq_true rfl) (Nat.le_of_ble_eq_true rfl) (Nat.le_of_ble_eq_true rfl) (Nat.le_of_ble_eq_true rfl) dX12_rest_74 ?_
                refine lv_topi (fun z179 e_z179 => ?_)
                have t_z179 : (x169.toInt ≤ z179.toInt ∧ ((0 : Int32)).toInt ≤ z179.toInt ∧ (z179.toInt = x169.toInt ∨ z179.toInt = ((0 : Int32)).toInt)) := by rw [e_z179]; exact mmax_b _ _
                refine lv_istore_n (lv' := [(2, .int z179), (3, .int 0), (6, .int (u176.1 0)), (5, .int x166), (4, .int x167), (0, .ref h0), (1, .int p1)]) hx hb dX12_rest_77 rfl hl (by decide) rfl (fun ls hl => ?_)
                refine lv_aload_n hx hb dX12_rest_78 rfl (lv_at hl 5 rfl) ?_
                refine lv_iload hx hb dX12_rest_79 (lv_at hl 4 rfl) ?_
                refine lv_iload hx hb dX12_rest_81 (lv_at hl 2 rfl) ?_
                refine call_V (As := [.int x167, .int (u176.1 0)]) (rest := []) (wr := [(a15, .inl (g.2 0, 2816, .inl (u6.2.1 0)))]) FC hKn hZ (k_X12_behindOf l g h0 a1 a2 a3 a4 a6 a14 a15 a19 a20 a23 a24 a25 a26 a27 a28 mthrown mtaped msize mat mfrom mtoken mvalue mfaultKind mfaultPlace (u6.1 1) (u6.1 2) (u6.1 3) mleastOrder mwordsMany mworld x167 (u176.1 0) (by omega) (by omega) (by omega) (by omega) (by omega) (by omega) (by omega) (by omega) i_mworld (by omega) (by omega) (by omega)) m_yX12_behindOf b_854 (ci := 12) rfl rfl rfl hP hD hS hA [0, 1] [2] rfl (by decide) rfl (by decide) (by decide) rfl hl.1 rfl (Nat.le_of_ble_eq_true rfl) dX12_rest_83 ⟨(Nat.le_of_ble_eq_true rfl), (Nat.le_of_ble_eq_true rfl)⟩ ⟨(Nat.le_of_ble_eq_true rfl), (Nat.le_of_ble_eq_true rfl)⟩ (fun u180 H locs q181 hP hD hS => ?_)
                have q181_0 : 1 ≤ (u180.1 0).toInt ∧ (u180.1 0).toInt ≤ 255 := q181
                have hP : va_P g.1 vwCl [(a15, .inl (g.2 0, 2816, .inl (u6.2.1 0))), (h0, .inr (12, [.int mthrown, .ref a1, .ref a2, .ref a3, .ref a4, .int mtaped, .ref a6, .int msize, .int mat, .int mfrom, .int mtoken, .int mvalue, .int mfaultKind, .int mfaultPlace, .ref a14, .ref a15, .int (u6.1 1), .int (u6.1 2), .int (u6.1 3), .ref a19, .ref a20, .int mleastOrder, .int mwordsMany, .ref a23, .ref a24, .ref a25, .ref a26, .ref a27, .ref a28])), (a1, .inl (g.2 0, 225, .inl mworld))] H := hP
                have hD : va_D A [(a15, .inl (g.2 0, 2816, .inl (u6.2.1 0))), (h0, .inr (12, [.int mthrown, .ref a1, .ref a2, .ref a3, .ref a4, .int mtaped, .ref a6, .int msize, .int mat, .int mfrom, .int mtoken, .int mvalue, .int mfaultKind, .int mfaultPlace, .ref a14, .ref a15, .int (u6.1 1), .int (u6.1 2), .int (u6.1 3), .ref a19, .ref a20, .int mleastOrder, .int mwordsMany, .ref a23, .ref a24, .ref a25, .ref a26, .ref a27, .ref a28])), (a1, .inl (g.2 0, 225, .inl mworld))] := hD
                refine W.eq (g2 := F0 m 86 ls [.int (u180.1 0)]) rfl ?_
                refine lv_istore (lv' := [(4, .int (u180.1 0)), (2, .int z179), (3, .int 0), (6, .int (u176.1 0)), (5, .int x166), (0, .ref h0), (1, .int p1)]) hx hb dX12_rest_86 hl (by decide) rfl (fun ls hl => ?_)
                obtain ⟨z182, e_z182⟩ : ∃ y : Int32, y = x166 + 1 := ⟨_, rfl⟩
                have t_z182 : z182.toInt = x166.toInt + 1 := by rw [e_z182]; exact addk (by decide) (by omega) (by omega)
                refine lv_iinc (v := z182) (lv' := [(5, .int z182), (4, .int (u180.1 0)), (2, .int z179), (3, .int 0), (6, .int (u176.1 0)), (0, .ref h0), (1, .int p1)]) hx hb dX12_rest_88 hl (k := 4) rfl (by rw [e_z182]; rfl) (by decide) rfl (fun ls hl => ?_)
                refine lv_goto (tgt := 36) hx hb dX12_rest_91 (by decide) ?_
                exact ih171 z182 (u180.1 0) (0 : Int32) z179 _ _ ls (by omega) (by omega) (by omega) (by omega) hP hD hS (lv_sub hl [0, 1, 3, 2, 5, 6] rfl)
              · have c178 := k_eq (a := (u176.1 0).toInt) (b := 8) rfl (by decide) c178
                refine lv_iload_n hx hb dX12_rest_64 rfl (lv_at hl 3 rfl) ?_
                refine lv_iconst (v := 1) hx hb dX12_rest_65 (by decide) ?_
                refine lv_iadd hx hb dX12_rest_66 ?_
                refine lv_topi (fun z183 e_z183 => ?_)
                refine lv_goto (tgt := 71) hx hb dX12_rest_67 (by decide) ?_
                refine lv_istore_n (lv' := [(3, .int z183), (6, .int (u176.1 0)), (5, .int x166), (4, .int x167), (2, .int x169), (0, .ref h0), (1, .int p1)]) hx hb dX12_rest_71 rfl hl (by decide) rfl (fun ls hl => ?_)
                refine lv_iload_n hx hb dX12_rest_72 rfl (lv_at hl 4 rfl) ?_
                refine lv_iload_n hx hb dX12_rest_73 rfl (lv_at hl 0 rfl) ?_
                refine va_mmax hx hb (by rw [hml]; exact hl.1.symm) hown (hB _ b_856) (hB _ b_57) (hB _ b_58) (hB _ b_59) (Nat.le_of_ble_eq_true rfl) (Nat.le_of_ble_eq_true rfl) (Nat.le_of_ble_eq_true rfl) (Nat.le_of_ble_eq_true rfl) dX12_rest_74 ?_
                refine lv_topi (fun z184 e_z184 => ?_)
                have t_z184 : (x169.toInt ≤ z184.toInt ∧ z183.toInt ≤ z184.toInt ∧ (z184.toInt = x169.toInt ∨ z184.toInt = z183.toInt)) := by rw [e_z184]; exact mmax_b _ _
                refine lv_istore_n (lv' := [(2, .int z184), (3, .int z183), (6, .int (u176.1 0)), (5, .int x166), (4, .int x167), (0, .ref h0), (1, .int p1)]) hx hb dX12_rest_77 rfl hl (by decide) rfl (fun ls hl => ?_)
                refine lv_aload_n hx hb dX12_rest_78 rfl (lv_at hl 5 rfl) ?_
                refine lv_iload hx hb dX12_rest_79 (lv_at hl 4 rfl) ?_
                refine lv_iload hx hb dX12_rest_81 (lv_at hl 2 rfl) ?_
                refine call_V (As := [.int x167, .int (u176.1 0)]) (rest := []) (wr := [(a15, .inl (g.2 0, 2816, .inl (u6.2.1 0)))]) FC hKn hZ (k_X12_behindOf l g h0 a1 a2 a3 a4 a6 a14 a15 a19 a20 a23 a24 a25 a26 a27 a28 mthrown mtaped msize mat mfrom mtoken mvalue mfaultKind mfaultPlace (u6.1 1) (u6.1 2) (u6.1 3) mleastOrder mwordsMany mworld x167 (u176.1 0) (by omega) (by omega) (by omega) (by omega) (by omega) (by omega) (by omega) (by omega) i_mworld (by omega) (by omega) (by omega)) m_yX12_behindOf b_854 (ci := 12) rfl rfl rfl hP hD hS hA [0, 1] [2] rfl (by decide) rfl (by decide) (by decide) rfl hl.1 rfl (Nat.le_of_ble_eq_true rfl) dX12_rest_83 ⟨(Nat.le_of_ble_eq_true rfl), (Nat.le_of_ble_eq_true rfl)⟩ ⟨(Nat.le_of_ble_eq_true rfl), (Nat.le_of_ble_eq_true rfl)⟩ (fun u185 H locs q186 hP hD hS => ?_)
                have q186_0 : 1 ≤ (u185.1 0).toInt ∧ (u185.1 0).toInt ≤ 255 := q186
                have hP : va_P g.1 vwCl [(a15, .inl (g.2 0, 2816, .inl (u6.2.1 0))), (h0, .inr (12, [.int mthrown, .ref a1, .ref a2, .ref a3, .ref a4, .int mtaped, .ref a6, .int msize, .int mat, .int mfrom, .int mtoken, .int mvalue, .int mfaultKind, .int mfaultPlace, .ref a14, .ref a15, .int (u6.1 1), .int (u6.1 2), .int (u6.1 3), .ref a19, .ref a20, .int mleastOrder, .int mwordsMany, .ref a23, .ref a24, .ref a25, .ref a26, .ref a27, .ref a28])), (a1, .inl (g.2 0, 225, .inl mworld))] H := hP
                have hD : va_D A [(a15, .inl (g.2 0, 2816, .inl (u6.2.1 0))), (h0, .inr (12, [.int mthrown, .ref a1, .ref a2, .ref a3, .ref a4, .int mtaped, .ref a6, .int msize, .int mat, .int mfrom, .int mtoken, .int mvalue, .int mfaultKind, .int mfaultPlace, .ref a14, .ref a15, .int (u6.1 1), .int (u6.1 2), .int (u6.1 3), .ref a19, .ref a20, .int mleastOrder, .int mwordsMany, .ref a23, .ref a24, .ref a25, .ref a26, .ref a27, .ref a28])), (a1, .inl (g.2 0, 225, .inl mworld))] := hD
                refine W.eq (g2 := F0 m 86 ls [.int (u185.1 0)]) rfl ?_
                refine lv_istore (lv' := [(4, .int (u185.1 0)), (2, .int z184), (3, .int z183), (6, .int (u176.1 0)), (5, .int x166), (0, .ref h0), (1, .int p1)]) hx hb dX12_rest_86 hl (by decide) rfl (fun ls hl => ?_)
                obtain ⟨z187, e_z187⟩ : ∃ y : Int32, y = x166 + 1 := ⟨_, rfl⟩
                have t_z187 : z187.toInt = x166.toInt + 1 := by rw [e_z187]; exact addk (by decide) (by omega) (by omega)
                refine lv_iinc (v := z187) (lv' := [(5, .int z187), (4, .int (u185.1 0)), (2, .int z184), (3, .int z183), (6, .int (u176.1 0)), (0, .ref h0), (1, .int p1)]) hx hb dX12_rest_88 hl (k := 4) rfl (by rw [e_z187]; rfl) (by decide) rfl (fun ls hl => ?_)
                refine lv_goto (tgt := 36) hx hb dX12_rest_91 (by decide) ?_
                exact ih171 z187 (u185.1 0) z183 z184 _ _ ls (by omega) (by omega) (by omega) (by omega) hP hD hS (lv_sub hl [0, 1, 3, 2, 5, 6] rfl)
        exact lp170 _ (0 : Int32) (asF mworld) (0 : Int32) (0 : Int32) _ _ ls (by decide) (by omega) (by decide) (Nat.lt_succ_self _) hP hD hS (lv_sub hl [0, 1, 2, 3, 4, 5] rfl)
      · have c8 := k_eq (a := (u6.1 0).toInt) (b := -1) rfl (by decide) c8
        refine lv_iconst (v := -1) hx hb dX12_rest_21 (by decide) ?_
        exact rt_i FX ((fun k => match k with | 0 => (-1 : Int32) | 1 => u6.1 1 | 2 => u6.1 2 | 3 => u6.1 3 | _ => 0), (fun k => match k with | 0 => u6.2.1 0 | _ => fun _ => 0), (fun _ => fun _ => 0)) rfl (show 0 ≤ (u6.1 3).toInt ∧ (u6.1 3).toInt ≤ 3 by omega) (hP.sub [0, 1, 2] rfl) (hD.sub [0, 1, 2] (by decide) rfl) hS (Nat.le_of_ble_eq_true rfl) (Nat.le_of_ble_eq_true rfl) dX12_rest_22
    · have c5 := k_eq (a := (u1.1 0).toInt) (b := 0) rfl (by decide) c5
      exfalso; omega
set_option maxRecDepth 100000 in
set_option maxHeartbeats 4000000 in
theorem k_X12_now (l : Launch) (g : GG) (h0 : Nat) (a1 : Nat) (a2 : Nat) (a3 : Nat) (a4 : Nat) (a6 : Nat) (a14 : Nat) (a15 : Nat) (a19 : Nat) (a20 : Nat) (a23 : Nat) (a24 : Nat) (a25 : Nat) (a26 : Nat) (a27 : Nat) (a28 : Nat) (mthrown : Int32) (mtaped : Int32) (msize : Int32) (mat : Int32) (mfrom : Int32) (mtoken : Int32) (mvalue : Int32) (mfaultKind : Int32) (mfaultPlace : Int32) (mgoal : Int32) (mgoalDays : Int32) (mgoalHearer : Int32) (mleastOrder : Int32) (mwordsMany : Int32) (mworld : Nat → Int32) (mbest : Nat → Int32) (p1 : Int32) (p2 : Int32) (p3 : Int32) (i_mtaped : 0 ≤ mtaped.toInt ∧ mtaped.toInt ≤ 900) (i_msize : 0 ≤ msize.toInt ∧ msize.toInt ≤ 900) (i_mat : 0 ≤ mat.toInt ∧ mat.toInt ≤ 900) (i_mfrom : 0 ≤ mfrom.toInt ∧ mfrom.toInt ≤ 900) (i_mtoken : 0 ≤ mtoken.toInt ∧ mtoken.toInt ≤ 4) (i_mvalue : 0 ≤ mvalue.toInt ∧ mvalue.toInt ≤ 99999) (i_mgoalHearer : 0 ≤ mgoalHearer.toInt ∧ mgoalHearer.toInt ≤ 3) (i_mwordsMany : 0 ≤ mwordsMany.toInt ∧ mwordsMany.toInt ≤ 10) (i_mworld : wod mworld) : Ct l g yX12_now cX12_now 4 (some .int) { frames := 7, cells := 0, slots := 0, locals := 170 } [.ref h0, .int p1, .int p2, .int p3] [(h0, .inr (12, [.int mthrown, .ref a1, .ref a2, .ref a3, .ref a4, .int mtaped, .ref a6, .int msize, .int mat, .int mfrom, .int mtoken, .int mvalue, .int mfaultKind, .int mfaultPlace, .ref a14, .ref a15, .int mgoal, .int mgoalDays, .int mgoalHearer, .ref a19, .ref a20, .int mleastOrder, .int mwordsMany, .ref a23, .ref a24, .ref a25, .ref a26, .ref a27, .ref a28])), (a1, .inl (g.2 0, 225, .inl mworld)), (a15, .inl (g.2 0, 2816, .inl mbest))] (S := (Nat → Int32) × (Nat → Nat → Int32) × (Nat → Nat → Int64)) (fun u => some (.int (u.1 0))) (fun u => (0 ≤ (u.1 3).toInt ∧ (u.1 3).toInt ≤ 3)) (fun u => [(h0, .inr (12, [.int mthrown, .ref a1, .ref a2, .ref a3, .ref a4, .int mtaped, .ref a6, .int msize, .int mat, .int mfrom, .int mtoken, .int mvalue, .int mfaultKind, .int mfaultPlace, .ref a14, .ref a15, .int (u.1 1), .int (u.1 2), .int (u.1 3), .ref a19, .ref a20, .int mleastOrder, .int mwordsMany, .ref a23, .ref a24, .ref a25, .ref a26, .ref a27, .ref a28])), (a1, .inl (g.2 0, 225, .inl mworld)), (a15, .inl (g.2 0, 2816, .inl (u.2.1 0)))]) := by
  refine Ct.of (by decide) (Nat.le_of_ble_eq_true rfl) ?_
  intro p e s m below meth c A ls FX hP hD hS hl
  obtain ⟨FC, hr, hlk, hKn, hA, hnm, hZ⟩ := id FX
  have FC : CallFix p m c cX12_now 4 s _ BIG RX12 := FC
  obtain ⟨hx, hb, hml, hown, hB⟩ := id FC
  have hl : lv_has ls 4 [(0, .ref h0), (1, .int p1), (2, .int p2), (3, .int p3)] := hl
  refine lv_aload_n hx hb dX12_now_0 rfl (lv_at hl 0 rfl) ?_
  refine lv_iload_n hx hb dX12_now_1 rfl (lv_at hl 1 rfl) ?_
  refine call_V (As := [.int p1]) (rest := []) (wr := [(a15, .inl (g.2 0, 2816, .inl mbest))]) FC hKn hZ (k_X12_isHearer l g h0 a1 a2 a3 a4 a6 a14 a15 a19 a20 a23 a24 a25 a26 a27 a28 mthrown mtaped msize mat mfrom mtoken mvalue mfaultKind mfaultPlace mgoal mgoalDays mgoalHearer mleastOrder mwordsMany mworld p1 (by omega) (by omega) (by omega) (by omega) (by omega) (by omega) (by omega) (by omega) i_mworld) m_yX12_isHearer b_881 (ci := 12) rfl rfl rfl hP hD hS hA [0, 1] [2] rfl (by decide) rfl (by decide) (by decide) rfl hl.1 rfl (Nat.le_of_ble_eq_true rfl) dX12_now_2 ⟨(Nat.le_of_ble_eq_true rfl), (Nat.le_of_ble_eq_true rfl)⟩ ⟨(Nat.le_of_ble_eq_true rfl), (Nat.le_of_ble_eq_true rfl)⟩ (fun u1 H locs q2 hP hD hS => ?_)
  obtain ⟨q2_0, q2_1⟩ := q2
  have hP : va_P g.1 vwCl [(a15, .inl (g.2 0, 2816, .inl mbest)), (h0, .inr (12, [.int mthrown, .ref a1, .ref a2, .ref a3, .ref a4, .int mtaped, .ref a6, .int msize, .int mat, .int mfrom, .int mtoken, .int mvalue, .int mfaultKind, .int mfaultPlace, .ref a14, .ref a15, .int mgoal, .int mgoalDays, .int mgoalHearer, .ref a19, .ref a20, .int mleastOrder, .int mwordsMany, .ref a23, .ref a24, .ref a25, .ref a26, .ref a27, .ref a28])), (a1, .inl (g.2 0, 225, .inl mworld))] H := hP
  have hD : va_D A [(a15, .inl (g.2 0, 2816, .inl mbest)), (h0, .inr (12, [.int mthrown, .ref a1, .ref a2, .ref a3, .ref a4, .int mtaped, .ref a6, .int msize, .int mat, .int mfrom, .int mtoken, .int mvalue, .int mfaultKind, .int mfaultPlace, .ref a14, .ref a15, .int mgoal, .int mgoalDays, .int mgoalHearer, .ref a19, .ref a20, .int mleastOrder, .int mwordsMany, .ref a23, .ref a24, .ref a25, .ref a26, .ref a27, .ref a28])), (a1, .inl (g.2 0, 225, .inl mworld))] := hD
  refine W.eq (g2 := F0 m 5 ls [.int (u1.1 0)]) rfl ?_
  rcases (show (u1.1 0).toInt = 0 ∨ (u1.1 0).toInt = 1 by omega) with c3 | c3
  · skip
    refine lv_if_eq (tgt := 24) hx hb dX12_now_5 (by decide) (fun c4 => ?_) (fun c4 => ?_)
    · have c4 := k_eq (a := (u1.1 0).toInt) (b := 0) rfl (by decide) c4
      refine lv_bipush (v := -2) hx hb dX12_now_24 (by decide) ?_
      exact rt_i FX ((fun k => match k with | 0 => (-2 : Int32) | 1 => mgoal | 2 => mgoalDays | 3 => mgoalHearer | _ => 0), (fun k => match k with | 0 => mbest | _ => fun _ => 0), (fun _ => fun _ => 0)) rfl (show 0 ≤ mgoalHearer.toInt ∧ mgoalHearer.toInt ≤ 3 by omega) (hP.sub [1, 2, 0] rfl) (hD.sub [1, 2, 0] (by decide) rfl) hS (Nat.le_of_ble_eq_true rfl) (Nat.le_of_ble_eq_true rfl) dX12_now_26
    · have c4 := k_ne (a := (u1.1 0).toInt) (b := 0) rfl (by decide) c4
      exfalso; omega
  · have c3_r := q2_1 c3
    refine lv_if_eq (tgt := 24) hx hb dX12_now_5 (by decide) (fun c5 => ?_) (fun c5 => ?_)
    · have c5 := k_eq (a := (u1.1 0).toInt) (b := 0) rfl (by decide) c5
      exfalso; omega
    · have c5 := k_ne (a := (u1.1 0).toInt) (b := 0) rfl (by decide) c5
      refine lv_aload_n hx hb dX12_now_8 rfl (lv_at hl 0 rfl) ?_
      refine lv_iload_n hx hb dX12_now_9 rfl (lv_at hl 2 rfl) ?_
      refine call_V (As := [.int p2]) (rest := []) (wr := [(a15, .inl (g.2 0, 2816, .inl mbest))]) FC hKn hZ (k_X12_isDay l g h0 a1 a2 a3 a4 a6 a14 a15 a19 a20 a23 a24 a25 a26 a27 a28 mthrown mtaped msize mat mfrom mtoken mvalue mfaultKind mfaultPlace mgoal mgoalDays mgoalHearer mleastOrder mwordsMany mworld p2 (by omega) (by omega) (by omega) (by omega) (by omega) (by omega) (by omega) (by omega) i_mworld) m_yX12_isDay b_976 (ci := 12) rfl rfl rfl hP hD hS hA [1, 2] [0] rfl (by decide) rfl (by decide) (by decide) rfl hl.1 rfl (Nat.le_of_ble_eq_true rfl) dX12_now_10 ⟨(Nat.le_of_ble_eq_true rfl), (Nat.le_of_ble_eq_true rfl)⟩ ⟨(Nat.le_of_ble_eq_true rfl), (Nat.le_of_ble_eq_true rfl)⟩ (fun u6 H locs q7 hP hD hS => ?_)
      obtain ⟨q7_0, q7_1⟩ := q7
      have hP : va_P g.1 vwCl [(a15, .inl (g.2 0, 2816, .inl mbest)), (h0, .inr (12, [.int mthrown, .ref a1, .ref a2, .ref a3, .ref a4, .int mtaped, .ref a6, .int msize, .int mat, .int mfrom, .int mtoken, .int mvalue, .int mfaultKind, .int mfaultPlace, .ref a14, .ref a15, .int mgoal, .int mgoalDays, .int mgoalHearer, .ref a19, .ref a20, .int mleastOrder, .int mwordsMany, .ref a23, .ref a24, .ref a25, .ref a26, .ref a27, .ref a28])), (a1, .inl (g.2 0, 225, .inl mworld))] H := hP
      have hD : va_D A [(a15, .inl (g.2 0, 2816, .inl mbest)), (h0, .inr (12, [.int mthrown, .ref a1, .ref a2, .ref a3, .ref a4, .int mtaped, .ref a6, .int msize, .int mat, .int mfrom, .int mtoken, .int mvalue, .int mfaultKind, .int mfaultPlace, .ref a14, .ref a15, .int mgoal, .int mgoalDays, .int mgoalHearer, .ref a19, .ref a20, .int mleastOrder, .int mwordsMany, .ref a23, .ref a24, .ref a25, .ref a26, .ref a27, .ref a28])), (a1, .inl (g.2 0, 225, .inl mworld))] := hD
      refine W.eq (g2 := F0 m 13 ls [.int (u6.1 0)]) rfl ?_
      rcases (show (u6.1 0).toInt = 0 ∨ (u6.1 0).toInt = 1 by omega) with c8 | c8
      · skip
        refine lv_if_eq (tgt := 24) hx hb dX12_now_13 (by decide) (fun c9 => ?_) (fun c9 => ?_)
        · have c9 := k_eq (a := (u6.1 0).toInt) (b := 0) rfl (by decide) c9
          refine lv_bipush (v := -2) hx hb dX12_now_24 (by decide) ?_
          exact rt_i FX ((fun k => match k with | 0 => (-2 : Int32) | 1 => mgoal | 2 => mgoalDays | 3 => mgoalHearer | _ => 0), (fun k => match k with | 0 => mbest | _ => fun _ => 0), (fun _ => fun _ => 0)) rfl (show 0 ≤ mgoalHearer.toInt ∧ mgoalHearer.toInt ≤ 3 by omega) (hP.sub [1, 2, 0] rfl) (hD.sub [1, 2, 0] (by decide) rfl) hS (Nat.le_of_ble_eq_true rfl) (Nat.le_of_ble_eq_true rfl) dX12_now_26
        · have c9 := k_ne (a := (u6.1 0).toInt) (b := 0) rfl (by decide) c9
          exfalso; omega
      · have c8_r := q7_1 c8
        refine lv_if_eq (tgt := 24) hx hb dX12_now_13 (by decide) (fun c10 => ?_) (fun c10 => ?_)
        · have c10 := k_eq (a := (u6.1 0).toInt) (b := 0) rfl (by decide) c10
          exfalso; omega
        · have c10 := k_ne (a := (u6.1 0).toInt) (b := 0) rfl (by decide) c10
          refine lv_aload_n hx hb dX12_now_16 rfl (lv_at hl 0 rfl) ?_
          refine lv_iload_n hx hb dX12_now_17 rfl (lv_at hl 3 rfl) ?_
          refine call_V (As := [.int p3]) (rest := []) (wr := [(a15, .inl (g.2 0, 2816, .inl mbest))]) FC hKn hZ (k_X12_isBelief l g h0 a1 a2 a3 a4 a6 a14 a15 a19 a20 a23 a24 a25 a26 a27 a28 mthrown mtaped msize mat mfrom mtoken mvalue mfaultKind mfaultPlace mgoal mgoalDays mgoalHearer mleastOrder mwordsMany mworld p3 (by omega) (by omega) (by omega) (by omega) (by omega) (by omega) (by omega) (by omega) i_mworld) m_yX12_isBelief b_884 (ci := 12) rfl rfl rfl hP hD hS hA [1, 2] [0] rfl (by decide) rfl (by decide) (by decide) rfl hl.1 rfl (Nat.le_of_ble_eq_true rfl) dX12_now_18 ⟨(Nat.le_of_ble_eq_true rfl), (Nat.le_of_ble_eq_true rfl)⟩ ⟨(Nat.le_of_ble_eq_true rfl), (Nat.le_of_ble_eq_true rfl)⟩ (fun u11 H locs q12 hP hD hS => ?_)
          obtain ⟨q12_0, q12_1⟩ := q12
          have hP : va_P g.1 vwCl [(a15, .inl (g.2 0, 2816, .inl mbest)), (h0, .inr (12, [.int mthrown, .ref a1, .ref a2, .ref a3, .ref a4, .int mtaped, .ref a6, .int msize, .int mat, .int mfrom, .int mtoken, .int mvalue, .int mfaultKind, .int mfaultPlace, .ref a14, .ref a15, .int mgoal, .int mgoalDays, .int mgoalHearer, .ref a19, .ref a20, .int mleastOrder, .int mwordsMany, .ref a23, .ref a24, .ref a25, .ref a26, .ref a27, .ref a28])), (a1, .inl (g.2 0, 225, .inl mworld))] H := hP
          have hD : va_D A [(a15, .inl (g.2 0, 2816, .inl mbest)), (h0, .inr (12, [.int mthrown, .ref a1, .ref a2, .ref a3, .ref a4, .int mtaped, .ref a6, .int msize, .int mat, .int mfrom, .int mtoken, .int mvalue, .int mfaultKind, .int mfaultPlace, .ref a14, .ref a15, .int mgoal, .int mgoalDays, .int mgoalHearer, .ref a19, .ref a20, .int mleastOrder, .int mwordsMany, .ref a23, .ref a24, .ref a25, .ref a26, .ref a27, .ref a28])), (a1, .inl (g.2 0, 225, .inl mworld))] := hD
          refine W.eq (g2 := F0 m 21 ls [.int (u11.1 0)]) rfl ?_
          rcases (show (u11.1 0).toInt = 0 ∨ (u11.1 0).toInt = 1 by omega) with c13 | c13
          · skip
            refine lv_if_ne (tgt := 27) hx hb dX12_now_21 (by decide) (fun c14 => ?_) (fun c14 => ?_)
            · have c14 := k_ne (a := (u11.1 0).toInt) (b := 0) rfl (by decide) c14
              exfalso; omega
            · have c14 := k_eq (a := (u11.1 0).toInt) (b := 0) rfl (by decide) c14
              refine lv_bipush (v := -2) hx hb dX12_now_24 (by decide) ?_
              exact rt_i FX ((fun k => match k with | 0 => (-2 : Int32) | 1 => mgoal | 2 => mgoalDays | 3 => mgoalHearer | _ => 0), (fun k => match k with | 0 => mbest | _ => fun _ => 0), (fun _ => fun _ => 0)) rfl (show 0 ≤ mgoalHearer.toInt ∧ mgoalHearer.toInt ≤ 3 by omega) (hP.sub [1, 2, 0] rfl) (hD.sub [1, 2, 0] (by decide) rfl) hS (Nat.le_of_ble_eq_true rfl) (Nat.le_of_ble_eq_true rfl) dX12_now_26
          · have c13_r := q12_1 c13
            refine lv_if_ne (tgt := 27) hx hb dX12_now_21 (by decide) (fun c15 => ?_) (fun c15 => ?_)
            · have c15 := k_ne (a := (u11.1 0).toInt) (b := 0) rfl (by decide) c15
              refine lv_aload_n hx hb dX12_now_27 rfl (lv_at hl 0 rfl) ?_
              refine lv_iconst (v := 4) hx hb dX12_now_28 (by decide) ?_
              refine lv_iload_n hx hb dX12_now_29 rfl (lv_at hl 1 rfl) ?_
              refine lv_aload_n hx hb dX12_now_30 rfl (lv_at hl 0 rfl) ?_
              refine g_get (C := RX12) (T := TX12) (N := 29) (ci := 12) (v := .ref a1) FC hKn hP i_X12 1 rfl rfl 1 (by decide) b_801 rfl dX12_now_31 ?_
              refine lv_iconst (v := 2) hx hb dX12_now_34 (by decide) ?_
              refine va_iald hx hb hKn.1 hP 2 0 rfl rfl (by unfold vp_in; decide) dX12_now_35 ?_
              have kc2 : (2 : Int32).toInt = 2 := by decide
              refine lv_topi (fun z16 e_z16 => ?_)
              have t_z16 : 0 ≤ z16.toInt ∧ z16.toInt ≤ 10 := by rw [e_z16]; exact wk_2 i_mworld.1
              have q_z16 : z16.toInt = (mworld 2).toInt := by rw [e_z16]; rfl
              have kc4 : (4 : Int32).toInt = 4 := by decide
              refine call_V (As := [.int 4, .int p1, .int z16]) (rest := []) (wr := []) FC hKn hZ (k_X12_fill l g h0 a1 a2 a3 a4 a6 a14 a15 a19 a20 a23 a24 a25 a26 a27 a28 mthrown mtaped msize mat mfrom mtoken mvalue mfaultKind mfaultPlace mgoal mgoalDays mgoalHearer mleastOrder mwordsMany mworld mbest ((4 : Int32)) p1 z16 (by omega) (by omega) (by omega) (by omega) (by omega) (by omega) (by omega) (by omega) i_mworld (by omega) (by omega) (by omega)) m_yX12_fill b_973 (ci := 12) rfl rfl rfl hP hD hS hA [1, 2, 0] [] rfl (by decide) rfl (by decide) (by decide) rfl hl.1 rfl (Nat.le_of_ble_eq_true rfl) dX12_now_36 ⟨(Nat.le_of_ble_eq_true rfl), (Nat.le_of_ble_eq_true rfl)⟩ ⟨(Nat.le_of_ble_eq_true rfl), (Nat.le_of_ble_eq_true rfl)⟩ (fun u17 H locs q18 hP hD hS => ?_)
              have q18_0 : 0 ≤ (u17.1 3).toInt ∧ (u17.1 3).toInt ≤ 3 := q18
              have hP : va_P g.1 vwCl [(h0, .inr (12, [.int mthrown, .ref a1, .ref a2, .ref a3, .ref a4, .int mtaped, .ref a6, .int msize, .int mat, .int mfrom, .int mtoken, .int mvalue, .int mfaultKind, .int mfaultPlace, .ref a14, .ref a15, .int (u17.1 1), .int (u17.1 2), .int (u17.1 3), .ref a19, .ref a20, .int mleastOrder, .int mwordsMany, .ref a23, .ref a24, .ref a25, .ref a26, .ref a27, .ref a28])), (a1, .inl (g.2 0, 225, .inl mworld)), (a15, .inl (g.2 0, 2816, .inl (u17.2.1 0)))] H := hP
              have hD : va_D A [(h0, .inr (12, [.int mthrown, .ref a1, .ref a2, .ref a3, .ref a4, .int mtaped, .ref a6, .int msize, .int mat, .int mfrom, .int mtoken, .int mvalue, .int mfaultKind, .int mfaultPlace, .ref a14, .ref a15, .int (u17.1 1), .int (u17.1 2), .int (u17.1 3), .ref a19, .ref a20, .int mleastOrder, .int mwordsMany, .ref a23, .ref a24, .ref a25, .ref a26, .ref a27, .ref a28])), (a1, .inl (g.2 0, 225, .inl mworld)), (a15, .inl (g.2 0, 2816, .inl (u17.2.1 0)))] := hD
              refine W.eq (g2 := F0 m 39 ls []) rfl ?_
              refine lv_aload_n hx hb dX12_now_39 rfl (lv_at hl 0 rfl) ?_
              refine lv_iload_n hx hb dX12_now_40 rfl (lv_at hl 2 rfl) ?_
              refine lv_iload_n hx hb dX12_now_41 rfl (lv_at hl 3 rfl) ?_
              refine call_V (As := [.int p2, .int p3]) (rest := []) (wr := []) FC hKn hZ (k_X12_bestWord l g h0 a1 a2 a3 a4 a6 a14 a15 a19 a20 a23 a24 a25 a26 a27 a28 mthrown mtaped msize mat mfrom mtoken mvalue mfaultKind mfaultPlace (u17.1 1) (u17.1 2) (u17.1 3) mleastOrder mwordsMany mworld (u17.2.1 0) p2 p3 (by omega) (by omega) (by omega) (by omega) (by omega) (by omega) (by omega) (by omega) i_mworld (by omega) (by omega)) m_yX12_bestWord b_971 (ci := 12) rfl rfl rfl hP hD hS hA [0, 1, 2] [] rfl (by decide) rfl (by decide) (by decide) rfl hl.1 rfl (Nat.le_of_ble_eq_true rfl) dX12_now_42 ⟨(Nat.le_of_ble_eq_true rfl), (Nat.le_of_ble_eq_true rfl)⟩ ⟨(Nat.le_of_ble_eq_true rfl), (Nat.le_of_ble_eq_true rfl)⟩ (fun u19 H locs q20 hP hD hS => ?_)
              obtain ⟨q20_0, q20_1⟩ := q20
              have hP : va_P g.1 vwCl [(h0, .inr (12, [.int mthrown, .ref a1, .ref a2, .ref a3, .ref a4, .int mtaped, .ref a6, .int msize, .int mat, .int mfrom, .int mtoken, .int mvalue, .int mfaultKind, .int mfaultPlace, .ref a14, .ref a15, .int (u17.1 1), .int (u17.1 2), .int (u17.1 3), .ref a19, .ref a20, .int mleastOrder, .int mwordsMany, .ref a23, .ref a24, .ref a25, .ref a26, .ref a27, .ref a28])), (a1, .inl (g.2 0, 225, .inl mworld)), (a15, .inl (g.2 0, 2816, .inl (u17.2.1 0)))] H := hP
              have hD : va_D A [(h0, .inr (12, [.int mthrown, .ref a1, .ref a2, .ref a3, .ref a4, .int mtaped, .ref a6, .int msize, .int mat, .int mfrom, .int mtoken, .int mvalue, .int mfaultKind, .int mfaultPlace, .ref a14, .ref a15, .int (u17.1 1), .int (u17.1 2), .int (u17.1 3), .ref a19, .ref a20, .int mleastOrder, .int mwordsMany, .ref a23, .ref a24, .ref a25, .ref a26, .ref a27, .ref a28])), (a1, .inl (g.2 0, 225, .inl mworld)), (a15, .inl (g.2 0, 2816, .inl (u17.2.1 0)))] := hD
              refine W.eq (g2 := F0 m 45 ls [.int (u19.1 0)]) rfl ?_
              exact rt_i FX ((fun k => match k with | 0 => u19.1 0 | 1 => u17.1 1 | 2 => u17.1 2 | 3 => u17.1 3 | _ => 0), (fun k => match k with | 0 => u17.2.1 0 | _ => fun _ => 0), (fun _ => fun _ => 0)) rfl (show 0 ≤ (u17.1 3).toInt ∧ (u17.1 3).toInt ≤ 3 by omega) (hP.sub [0, 1, 2] rfl) (hD.sub [0, 1, 2] (by decide) rfl) hS (Nat.le_of_ble_eq_true rfl) (Nat.le_of_ble_eq_true rfl) dX12_now_45
            · have c15 := k_eq (a := (u11.1 0).toInt) (b := 0) rfl (by decide) c15
              exfalso; omega
set_option maxRecDepth 100000 in
set_option maxHeartbeats 4000000 in
theorem k_X12_soonOn (l : Launch) (g : GG) (h0 : Nat) (a1 : Nat) (a2 : Nat) (a3 : Nat) (a4 : Nat) (a6 : Nat) (a14 : Nat) (a15 : Nat) (a19 : Nat) (a20 : Nat) (a23 : Nat) (a24 : Nat) (a25 : Nat) (a26 : Nat) (a27 : Nat) (a28 : Nat) (mthrown : Int32) (mtaped : Int32) (msize : Int32) (mat : Int32) (mfrom : Int32) (mtoken : Int32) (mvalue : Int32) (mfaultKind : Int32) (mfaultPlace : Int32) (mgoal : Int32) (mgoalDays : Int32) (mgoalHearer : Int32) (mleastOrder : Int32) (mwordsMany : Int32) (mworld : Nat → Int32) (p1 : Int32) (p2 : Int32) (i_mtaped : 0 ≤ mtaped.toInt ∧ mtaped.toInt ≤ 900) (i_msize : 0 ≤ msize.toInt ∧ msize.toInt ≤ 900) (i_mat : 0 ≤ mat.toInt ∧ mat.toInt ≤ 900) (i_mfrom : 0 ≤ mfrom.toInt ∧ mfrom.toInt ≤ 900) (i_mtoken : 0 ≤ mtoken.toInt ∧ mtoken.toInt ≤ 4) (i_mvalue : 0 ≤ mvalue.toInt ∧ mvalue.toInt ≤ 99999) (i_mgoalHearer : 0 ≤ mgoalHearer.toInt ∧ mgoalHearer.toInt ≤ 3) (i_mwordsMany : 0 ≤ mwordsMany.toInt ∧ mwordsMany.toInt ≤ 10) (i_mworld : wod mworld) (i_p1 : 0 ≤ p1.toInt ∧ p1.toInt ≤ 3) (i_p2 : 0 ≤ p2.toInt ∧ p2.toInt ≤ 9) (hd0 : 1 ≤ (mworld 0).toInt ∧ 1 ≤ (mworld 2).toInt) : Ct l g yX12_soonOn cX12_soonOn 6 (some .int) { frames := 3, cells := 0, slots := 0, locals := 72 } [.ref h0, .int p1, .int p2] [(h0, .inr (12, [.int mthrown, .ref a1, .ref a2, .ref a3, .ref a4, .int mtaped, .ref a6, .int msize, .int mat, .int mfrom, .int mtoken, .int mvalue, .int mfaultKind, .int mfaultPlace, .ref a14, .ref a15, .int mgoal, .int mgoalDays, .int mgoalHearer, .ref a19, .ref a20, .int mleastOrder, .int mwordsMany, .ref a23, .ref a24, .ref a25, .ref a26, .ref a27, .ref a28])), (a1, .inl (g.2 0, 225, .inl mworld))] (S := (Nat → Int32) × (Nat → Nat → Int32) × (Nat → Nat → Int64)) (fun u => some (.int (u.1 0))) (fun u => True) (fun u => [(h0, .inr (12, [.int mthrown, .ref a1, .ref a2, .ref a3, .ref a4, .int mtaped, .ref a6, .int msize, .int mat, .int mfrom, .int mtoken, .int mvalue, .int mfaultKind, .int mfaultPlace, .ref a14, .ref a15, .int mgoal, .int mgoalDays, .int mgoalHearer, .ref a19, .ref a20, .int mleastOrder, .int mwordsMany, .ref a23, .ref a24, .ref a25, .ref a26, .ref a27, .ref a28])), (a1, .inl (g.2 0, 225, .inl mworld))]) := by
  refine Ct.of (by decide) (Nat.le_of_ble_eq_true rfl) ?_
  intro p e s m below meth c A ls FX hP hD hS hl
  obtain ⟨FC, hr, hlk, hKn, hA, hnm, hZ⟩ := id FX
  have FC : CallFix p m c cX12_soonOn 6 s _ BIG RX12 := FC
  obtain ⟨hx, hb, hml, hown, hB⟩ := id FC
  have hl : lv_has ls 6 [(0, .ref h0), (1, .int p1), (2, .int p2)] := hl
  refine lv_aload_n hx hb dX12_soonOn_0 rfl (lv_at hl 0 rfl) ?_
  refine lv_iload_n hx hb dX12_soonOn_1 rfl (lv_at hl 1 rfl) ?_
  refine lv_aload_n hx hb dX12_soonOn_2 rfl (lv_at hl 0 rfl) ?_
  refine call_V (As := []) (rest := [.int p1, .ref h0]) (wr := []) FC hKn hZ (k_X12_allStates l g h0 a1 a2 a3 a4 a6 a14 a15 a19 a20 a23 a24 a25 a26 a27 a28 mthrown mtaped msize mat mfrom mtoken mvalue mfaultKind mfaultPlace mgoal mgoalDays mgoalHearer mleastOrder mwordsMany mworld (by omega) (by omega) (by omega) (by omega) (by omega) (by omega) (by omega) (by omega) i_mworld) m_yX12_allStates b_806 (ci := 12) rfl rfl rfl hP hD hS hA [0, 1] [] rfl (by decide) rfl (by decide) (by decide) rfl hl.1 rfl (Nat.le_of_ble_eq_true rfl) dX12_soonOn_3 ⟨(Nat.le_of_ble_eq_true rfl), (Nat.le_of_ble_eq_true rfl)⟩ ⟨(Nat.le_of_ble_eq_true rfl), (Nat.le_of_ble_eq_true rfl)⟩ (fun u1 H locs q2 hP hD hS => ?_)
  obtain ⟨q2_0, q2_1, q2_2⟩ := q2
  have hP : va_P g.1 vwCl [(h0, .inr (12, [.int mthrown, .ref a1, .ref a2, .ref a3, .ref a4, .int mtaped, .ref a6, .int msize, .int mat, .int mfrom, .int mtoken, .int mvalue, .int mfaultKind, .int mfaultPlace, .ref a14, .ref a15, .int mgoal, .int mgoalDays, .int mgoalHearer, .ref a19, .ref a20, .int mleastOrder, .int mwordsMany, .ref a23, .ref a24, .ref a25, .ref a26, .ref a27, .ref a28])), (a1, .inl (g.2 0, 225, .inl mworld))] H := hP
  have hD : va_D A [(h0, .inr (12, [.int mthrown, .ref a1, .ref a2, .ref a3, .ref a4, .int mtaped, .ref a6, .int msize, .int mat, .int mfrom, .int mtoken, .int mvalue, .int mfaultKind, .int mfaultPlace, .ref a14, .ref a15, .int mgoal, .int mgoalDays, .int mgoalHearer, .ref a19, .ref a20, .int mleastOrder, .int mwordsMany, .ref a23, .ref a24, .ref a25, .ref a26, .ref a27, .ref a28])), (a1, .inl (g.2 0, 225, .inl mworld))] := hD
  refine W.eq (g2 := F0 m 6 ls [.int (u1.1 0), .int p1, .ref h0]) rfl ?_
  rw [q2_1] at q2_0
  rw [q2_1] at q2_2
  refine tp_i (v := asF mworld) q2_1 ?_
  refine lv_aload_n hx hb dX12_soonOn_6 rfl (lv_at hl 0 rfl) ?_
  refine call_V (As := []) (rest := [.int (asF mworld), .int p1, .ref h0]) (wr := []) FC hKn hZ (k_X12_reallySet l g h0 a1 a2 a3 a4 a6 a14 a15 a19 a20 a23 a24 a25 a26 a27 a28 mthrown mtaped msize mat mfrom mtoken mvalue mfaultKind mfaultPlace mgoal mgoalDays mgoalHearer mleastOrder mwordsMany mworld (by omega) (by omega) (by omega) (by omega) (by omega) (by omega) (by omega) (by omega) i_mworld) m_yX12_reallySet b_945 (ci := 12) rfl rfl rfl hP hD hS hA [0, 1] [] rfl (by decide) rfl (by decide) (by decide) rfl hl.1 rfl (Nat.le_of_ble_eq_true rfl) dX12_soonOn_7 ⟨(Nat.le_of_ble_eq_true rfl), (Nat.le_of_ble_eq_true rfl)⟩ ⟨(Nat.le_of_ble_eq_true rfl), (Nat.le_of_ble_eq_true rfl)⟩ (fun u3 H locs q4 hP hD hS => ?_)
  have q4_0 : 1 ≤ (u3.1 0).toInt ∧ (u3.1 0).toInt ≤ 128 := q4
  have hP : va_P g.1 vwCl [(h0, .inr (12, [.int mthrown, .ref a1, .ref a2, .ref a3, .ref a4, .int mtaped, .ref a6, .int msize, .int mat, .int mfrom, .int mtoken, .int mvalue, .int mfaultKind, .int mfaultPlace, .ref a14, .ref a15, .int mgoal, .int mgoalDays, .int mgoalHearer, .ref a19, .ref a20, .int mleastOrder, .int mwordsMany, .ref a23, .ref a24, .ref a25, .ref a26, .ref a27, .ref a28])), (a1, .inl (g.2 0, 225, .inl mworld))] H := hP
  have hD : va_D A [(h0, .inr (12, [.int mthrown, .ref a1, .ref a2, .ref a3, .ref a4, .int mtaped, .ref a6, .int msize, .int mat, .int mfrom, .int mtoken, .int mvalue, .int mfaultKind, .int mfaultPlace, .ref a14, .ref a15, .int mgoal, .int mgoalDays, .int mgoalHearer, .ref a19, .ref a20, .int mleastOrder, .int mwordsMany, .ref a23, .ref a24, .ref a25, .ref a26, .ref a27, .ref a28])), (a1, .inl (g.2 0, 225, .inl mworld))] := hD
  refine W.eq (g2 := F0 m 10 ls [.int (u3.1 0), .int (asF mworld), .int p1, .ref h0]) rfl ?_
  refine call_V (As := [.int p1, .int (asF mworld), .int (u3.1 0)]) (rest := []) (wr := []) FC hKn hZ (k_X12_rise l g h0 a1 a2 a3 a4 a6 a14 a15 a19 a20 a23 a24 a25 a26 a27 a28 mthrown mtaped msize mat mfrom mtoken mvalue mfaultKind mfaultPlace mgoal mgoalDays mgoalHearer mleastOrder mwordsMany mworld p1 (asF mworld) (u3.1 0) (by omega) (by omega) (by omega) (by omega) (by omega) (by omega) (by omega) (by omega) i_mworld (by omega) (by omega) (by omega)) m_yX12_rise b_855 (ci := 12) rfl rfl rfl hP hD hS hA [0, 1] [] rfl (by decide) rfl (by decide) (by decide) rfl hl.1 rfl (Nat.le_of_ble_eq_true rfl) dX12_soonOn_10 ⟨(Nat.le_of_ble_eq_true rfl), (Nat.le_of_ble_eq_true rfl)⟩ ⟨(Nat.le_of_ble_eq_true rfl), (Nat.le_of_ble_eq_true rfl)⟩ (fun u5 H locs q6 hP hD hS => ?_)
  have hP : va_P g.1 vwCl [(h0, .inr (12, [.int mthrown, .ref a1, .ref a2, .ref a3, .ref a4, .int mtaped, .ref a6, .int msize, .int mat, .int mfrom, .int mtoken, .int mvalue, .int mfaultKind, .int mfaultPlace, .ref a14, .ref a15, .int mgoal, .int mgoalDays, .int mgoalHearer, .ref a19, .ref a20, .int mleastOrder, .int mwordsMany, .ref a23, .ref a24, .ref a25, .ref a26, .ref a27, .ref a28])), (a1, .inl (g.2 0, 225, .inl mworld))] H := hP
  have hD : va_D A [(h0, .inr (12, [.int mthrown, .ref a1, .ref a2, .ref a3, .ref a4, .int mtaped, .ref a6, .int msize, .int mat, .int mfrom, .int mtoken, .int mvalue, .int mfaultKind, .int mfaultPlace, .ref a14, .ref a15, .int mgoal, .int mgoalDays, .int mgoalHearer, .ref a19, .ref a20, .int mleastOrder, .int mwordsMany, .ref a23, .ref a24, .ref a25, .ref a26, .ref a27, .ref a28])), (a1, .inl (g.2 0, 225, .inl mworld))] := hD
  refine W.eq (g2 := F0 m 13 ls [.int (u5.1 0)]) rfl ?_
  refine lv_istore_n (lv' := [(3, .int (u5.1 0)), (0, .ref h0), (1, .int p1), (2, .int p2)]) hx hb dX12_soonOn_13 rfl hl (by decide) rfl (fun ls hl => ?_)
  refine lv_aload_n hx hb dX12_soonOn_14 rfl (lv_at hl 1 rfl) ?_
  refine lv_iload_n hx hb dX12_soonOn_15 rfl (lv_at hl 0 rfl) ?_
  refine lv_iload_n hx hb dX12_soonOn_16 rfl (lv_at hl 3 rfl) ?_
  refine lv_aload_n hx hb dX12_soonOn_17 rfl (lv_at hl 1 rfl) ?_
  refine g_get (C := RX12) (T := TX12) (N := 29) (ci := 12) (v := .ref a1) FC hKn hP i_X12 0 rfl rfl 1 (by decide) b_801 rfl dX12_soonOn_18 ?_
  refine lv_iconst (v := 2) hx hb dX12_soonOn_21 (by decide) ?_
  refine va_iald hx hb hKn.1 hP 1 0 rfl rfl (by unfold vp_in; decide) dX12_soonOn_22 ?_
  have kc2 : (2 : Int32).toInt = 2 := by decide
  refine lv_topi (fun z7 e_z7 => ?_)
  have t_z7 : 0 ≤ z7.toInt ∧ z7.toInt ≤ 10 := by rw [e_z7]; exact wk_2 i_mworld.1
  have q_z7 : z7.toInt = (mworld 2).toInt := by rw [e_z7]; rfl
  refine call_V (As := [.int (u5.1 0), .int p2, .int z7]) (rest := []) (wr := []) FC hKn hZ (k_X12_leftOf l g h0 a1 a2 a3 a4 a6 a14 a15 a19 a20 a23 a24 a25 a26 a27 a28 mthrown mtaped msize mat mfrom mtoken mvalue mfaultKind mfaultPlace mgoal mgoalDays mgoalHearer mleastOrder mwordsMany mworld (u5.1 0) p2 z7 (by omega) (by omega) (by omega) (by omega) (by omega) (by omega) (by omega) (by omega) i_mworld) m_yX12_leftOf b_942 (ci := 12) rfl rfl rfl hP hD hS hA [0, 1] [] rfl (by decide) rfl (by decide) (by decide) rfl hl.1 rfl (Nat.le_of_ble_eq_true rfl) dX12_soonOn_23 ⟨(Nat.le_of_ble_eq_true rfl), (Nat.le_of_ble_eq_true rfl)⟩ ⟨(Nat.le_of_ble_eq_true rfl), (Nat.le_of_ble_eq_true rfl)⟩ (fun u8 H locs q9 hP hD hS => ?_)
  have hP : va_P g.1 vwCl [(h0, .inr (12, [.int mthrown, .ref a1, .ref a2, .ref a3, .ref a4, .int mtaped, .ref a6, .int msize, .int mat, .int mfrom, .int mtoken, .int mvalue, .int mfaultKind, .int mfaultPlace, .ref a14, .ref a15, .int mgoal, .int mgoalDays, .int mgoalHearer, .ref a19, .ref a20, .int mleastOrder, .int mwordsMany, .ref a23, .ref a24, .ref a25, .ref a26, .ref a27, .ref a28])), (a1, .inl (g.2 0, 225, .inl mworld))] H := hP
  have hD : va_D A [(h0, .inr (12, [.int mthrown, .ref a1, .ref a2, .ref a3, .ref a4, .int mtaped, .ref a6, .int msize, .int mat, .int mfrom, .int mtoken, .int mvalue, .int mfaultKind, .int mfaultPlace, .ref a14, .ref a15, .int mgoal, .int mgoalDays, .int mgoalHearer, .ref a19, .ref a20, .int mleastOrder, .int mwordsMany, .ref a23, .ref a24, .ref a25, .ref a26, .ref a27, .ref a28])), (a1, .inl (g.2 0, 225, .inl mworld))] := hD
  refine W.eq (g2 := F0 m 26 ls [.int (u8.1 0)]) rfl ?_
  refine lv_istore (lv' := [(4, .int (u8.1 0)), (3, .int (u5.1 0)), (0, .ref h0), (1, .int p1), (2, .int p2)]) hx hb dX12_soonOn_26 hl (by decide) rfl (fun ls hl => ?_)
  refine lv_iload_n hx hb dX12_soonOn_28 rfl (lv_at hl 4 rfl) ?_
  refine lv_iconst (v := 1) hx hb dX12_soonOn_29 (by decide) ?_
  refine lv_isub hx hb dX12_soonOn_30 ?_
  have kc1 : (1 : Int32).toInt = 1 := by decide
  refine lv_topi (fun z10 e_z10 => ?_)
  have t_z10 : z10.toInt = p2.toInt - ((1 : Int32)).toInt := by rw [e_z10]; exact fb_subI (by omega) (by omega)
  refine lv_istore (lv' := [(5, .int z10), (4, .int (u8.1 0)), (3, .int (u5.1 0)), (0, .ref h0), (1, .int p1), (2, .int p2)]) hx hb dX12_soonOn_31 hl (by decide) rfl (fun ls hl => ?_)
  have lp27 : ∀ (n29 : Nat) (x25 : Int32) (x26 : Int32) (H : Heap) (locs : List Loc) (ls : Array Slot), -1 ≤ x25.toInt ∧ x25.toInt ≤ 8 → (x25.toInt - 0).toNat < n29 → va_P g.1 vwCl [(h0, .inr (12, [.int mthrown, .ref a1, .ref a2, .ref a3, .ref a4, .int mtaped, .ref a6, .int msize, .int mat, .int mfrom, .int mtoken, .int mvalue, .int mfaultKind, .int mfaultPlace, .ref a14, .ref a15, .int mgoal, .int mgoalDays, .int mgoalHearer, .ref a19, .ref a20, .int mleastOrder, .int mwordsMany, .ref a23, .ref a24, .ref a25, .ref a26, .ref a27, .ref a28])), (a1, .inl (g.2 0, 225, .inl mworld))] H → va_D A [(h0, .inr (12, [.int mthrown, .ref a1, .ref a2, .ref a3, .ref a4, .int mtaped, .ref a6, .int msize, .int mat, .int mfrom, .int mtoken, .int mvalue, .int mfaultKind, .int mfaultPlace, .ref a14, .ref a15, .int mgoal, .int mgoalDays, .int mgoalHearer, .ref a19, .ref a20, .int mleastOrder, .int mwordsMany, .ref a23, .ref a24, .ref a25, .ref a26, .ref a27, .ref a28])), (a1, .inl (g.2 0, 225, .inl mworld))] → va_S A s.heap H locs → lv_has ls 6 [(5, .int x25), (4, .int x26), (3, .int (u5.1 0)), (0, .ref h0), (1, .int p1), (2, .int p2)] → W p l e { frames := 3, cells := 0, slots := 0, locals := 72 } s m ([.ref h0, .int p1, .int p2].toArray) below meth c H locs 0 0 (MQ below (QX (S := (Nat → Int32) × (Nat → Nat → Int32) × (Nat → Nat → Int64)) (fun u => some (.int (u.1 0))) (fun u => True) g (fun u => [(h0, .inr (12, [.int mthrown, .ref a1, .ref a2, .ref a3, .ref a4, .int mtaped, .ref a6, .int msize, .int mat, .int mfrom, .int mtoken, .int mvalue, .int mfaultKind, .int mfaultPlace, .ref a14, .ref a15, .int mgoal, .int mgoalDays, .int mgoalHearer, .ref a19, .ref a20, .int mleastOrder, .int mwordsMany, .ref a23, .ref a24, .ref a25, .ref a26, .ref a27, .ref a28])), (a1, .inl (g.2 0, 225, .inl mworld))]) A) ([.ref h0, .int p1, .int p2].toArray) s 0 0 A) (F0 m 33 ls []) := by
    intro n29
    induction n29 with
    | zero =>
      intro x25 x26 H locs ls h_x25 hn30
      exact absurd hn30 (Nat.not_lt_zero _)
    | succ n29 ih28 =>
      intro x25 x26 H locs ls h_x25 hn30 hP hD hS hl
      refine lv_iload hx hb dX12_soonOn_33 (lv_at hl 0 rfl) ?_
      refine lv_if_le (tgt := 65) hx hb dX12_soonOn_35 (by decide) (fun c31 => ?_) (fun c31 => ?_)
      · have c31 := k_le (a := x25.toInt) (b := 0) rfl (by decide) c31
        refine lv_iload hx hb dX12_soonOn_65 (lv_at hl 1 rfl) ?_
        exact rt_i FX ((fun k => match k with | 0 => x26 | _ => 0), (fun _ => fun _ => 0), (fun _ => fun _ => 0)) rfl trivial (hP.sub [0, 1] rfl) (hD.sub [0, 1] (by decide) rfl) hS (Nat.le_of_ble_eq_true rfl) (Nat.le_of_ble_eq_true rfl) dX12_soonOn_67
      · have c31 := k_nle (a := x25.toInt) (b := 0) rfl (by decide) c31
        refine lv_aload_n hx hb dX12_soonOn_38 rfl (lv_at hl 3 rfl) ?_
        refine lv_aload_n hx hb dX12_soonOn_39 rfl (lv_at hl 3 rfl) ?_
        refine lv_iload_n hx hb dX12_soonOn_40 rfl (lv_at hl 2 rfl) ?_
        refine lv_iload hx hb dX12_soonOn_41 (lv_at hl 0 rfl) ?_
        refine lv_aload_n hx hb dX12_soonOn_43 rfl (lv_at hl 3 rfl) ?_
        refine g_get (C := RX12) (T := TX12) (N := 29) (ci := 12) (v := .ref a1) FC hKn hP i_X12 0 rfl rfl 1 (by decide) b_801 rfl dX12_soonOn_44 ?_
        refine lv_iconst (v := 2) hx hb dX12_soonOn_47 (by decide) ?_
        refine va_iald hx hb hKn.1 hP 1 0 rfl rfl (by unfold vp_in; decide) dX12_soonOn_48 ?_
        refine tp_i (v := z7) e_z7.symm ?_
        refine call_V (As := [.int (u5.1 0), .int x25, .int z7]) (rest := [.ref h0]) (wr := []) FC hKn hZ (k_X12_leftOf l g h0 a1 a2 a3 a4 a6 a14 a15 a19 a20 a23 a24 a25 a26 a27 a28 mthrown mtaped msize mat mfrom mtoken mvalue mfaultKind mfaultPlace mgoal mgoalDays mgoalHearer mleastOrder mwordsMany mworld (u5.1 0) x25 z7 (by omega) (by omega) (by omega) (by omega) (by omega) (by omega) (by omega) (by omega) i_mworld) m_yX12_leftOf b_942 (ci := 12) rfl rfl rfl hP hD hS hA [0, 1] [] rfl (by decide) rfl (by decide) (by decide) rfl hl.1 rfl (Nat.le_of_ble_eq_true rfl) dX12_soonOn_49 ⟨(Nat.le_of_ble_eq_true rfl), (Nat.le_of_ble_eq_true rfl)⟩ ⟨(Nat.le_of_ble_eq_true rfl), (Nat.le_of_ble_eq_true rfl)⟩ (fun u32 H locs q33 hP hD hS => ?_)
        have hP : va_P g.1 vwCl [(h0, .inr (12, [.int mthrown, .ref a1, .ref a2, .ref a3, .ref a4, .int mtaped, .ref a6, .int msize, .int mat, .int mfrom, .int mtoken, .int mvalue, .int mfaultKind, .int mfaultPlace, .ref a14, .ref a15, .int mgoal, .int mgoalDays, .int mgoalHearer, .ref a19, .ref a20, .int mleastOrder, .int mwordsMany, .ref a23, .ref a24, .ref a25, .ref a26, .ref a27, .ref a28])), (a1, .inl (g.2 0, 225, .inl mworld))] H := hP
        have hD : va_D A [(h0, .inr (12, [.int mthrown, .ref a1, .ref a2, .ref a3, .ref a4, .int mtaped, .ref a6, .int msize, .int mat, .int mfrom, .int mtoken, .int mvalue, .int mfaultKind, .int mfaultPlace, .ref a14, .ref a15, .int mgoal, .int mgoalDays, .int mgoalHearer, .ref a19, .ref a20, .int mleastOrder, .int mwordsMany, .ref a23, .ref a24, .ref a25, .ref a26, .ref a27, .ref a28])), (a1, .inl (g.2 0, 225, .inl mworld))] := hD
        refine W.eq (g2 := F0 m 52 ls [.int (u32.1 0), .ref h0]) rfl ?_
        refine lv_iload hx hb dX12_soonOn_52 (lv_at hl 1 rfl) ?_
        refine call_V (As := [.int (u32.1 0), .int x26]) (rest := []) (wr := []) FC hKn hZ (k_X12_mixed l g h0 a1 a2 a3 a4 a6 a14 a15 a19 a20 a23 a24 a25 a26 a27 a28 mthrown mtaped msize mat mfrom mtoken mvalue mfaultKind mfaultPlace mgoal mgoalDays mgoalHearer mleastOrder mwordsMany mworld (u32.1 0) x26 (by omega) (by omega) (by omega) (by omega) (by omega) (by omega) (by omega) (by omega) i_mworld) m_yX12_mixed b_972 (ci := 12) rfl rfl rfl hP hD hS hA [0, 1] [] rfl (by decide) rfl (by decide) (by decide) rfl hl.1 rfl (Nat.le_of_ble_eq_true rfl) dX12_soonOn_54 ⟨(Nat.le_of_ble_eq_true rfl), (Nat.le_of_ble_eq_true rfl)⟩ ⟨(Nat.le_of_ble_eq_true rfl), (Nat.le_of_ble_eq_true rfl)⟩ (fun u34 H locs q35 hP hD hS => ?_)
        have hP : va_P g.1 vwCl [(h0, .inr (12, [.int mthrown, .ref a1, .ref a2, .ref a3, .ref a4, .int mtaped, .ref a6, .int msize, .int mat, .int mfrom, .int mtoken, .int mvalue, .int mfaultKind, .int mfaultPlace, .ref a14, .ref a15, .int mgoal, .int mgoalDays, .int mgoalHearer, .ref a19, .ref a20, .int mleastOrder, .int mwordsMany, .ref a23, .ref a24, .ref a25, .ref a26, .ref a27, .ref a28])), (a1, .inl (g.2 0, 225, .inl mworld))] H := hP
        have hD : va_D A [(h0, .inr (12, [.int mthrown, .ref a1, .ref a2, .ref a3, .ref a4, .int mtaped, .ref a6, .int msize, .int mat, .int mfrom, .int mtoken, .int mvalue, .int mfaultKind, .int mfaultPlace, .ref a14, .ref a15, .int mgoal, .int mgoalDays, .int mgoalHearer, .ref a19, .ref a20, .int mleastOrder, .int mwordsMany, .ref a23, .ref a24, .ref a25, .ref a26, .ref a27, .ref a28])), (a1, .inl (g.2 0, 225, .inl mworld))] := hD
        refine W.eq (g2 := F0 m 57 ls [.int (u34.1 0)]) rfl ?_
        refine lv_istore (lv' := [(4, .int (u34.1 0)), (5, .int x25), (3, .int (u5.1 0)), (0, .ref h0), (1, .int p1), (2, .int p2)]) hx hb dX12_soonOn_57 hl (by decide) rfl (fun ls hl => ?_)
        obtain ⟨z36, e_z36⟩ : ∃ y : Int32, y = x25 + (-1) := ⟨_, rfl⟩
        have t_z36 : z36.toInt = x25.toInt + (-1) := by rw [e_z36]; exact addk (by decide) (by omega) (by omega)
        refine lv_iinc (v := z36) (lv' := [(5, .int z36), (4, .int (u34.1 0)), (3, .int (u5.1 0)), (0, .ref h0), (1, .int p1), (2, .int p2)]) hx hb dX12_soonOn_59 hl (k := 1) rfl (by rw [e_z36]; rfl) (by decide) rfl (fun ls hl => ?_)
        refine lv_goto (tgt := 33) hx hb dX12_soonOn_62 (by decide) ?_
        exact ih28 z36 (u34.1 0) _ _ ls (by omega) (by omega) hP hD hS (lv_sub hl [0, 1, 2, 3, 4, 5] rfl)
  exact lp27 _ z10 (u8.1 0) _ _ ls (by omega) (Nat.lt_succ_self _) hP hD hS (lv_sub hl [0, 1, 2, 3, 4, 5] rfl)
set_option maxRecDepth 100000 in
set_option maxHeartbeats 4000000 in
theorem k_X12_soon (l : Launch) (g : GG) (h0 : Nat) (a1 : Nat) (a2 : Nat) (a3 : Nat) (a4 : Nat) (a6 : Nat) (a14 : Nat) (a15 : Nat) (a19 : Nat) (a20 : Nat) (a23 : Nat) (a24 : Nat) (a25 : Nat) (a26 : Nat) (a27 : Nat) (a28 : Nat) (mthrown : Int32) (mtaped : Int32) (msize : Int32) (mat : Int32) (mfrom : Int32) (mtoken : Int32) (mvalue : Int32) (mfaultKind : Int32) (mfaultPlace : Int32) (mgoal : Int32) (mgoalDays : Int32) (mgoalHearer : Int32) (mleastOrder : Int32) (mwordsMany : Int32) (mworld : Nat → Int32) (p1 : Int32) (p2 : Int32) (i_mtaped : 0 ≤ mtaped.toInt ∧ mtaped.toInt ≤ 900) (i_msize : 0 ≤ msize.toInt ∧ msize.toInt ≤ 900) (i_mat : 0 ≤ mat.toInt ∧ mat.toInt ≤ 900) (i_mfrom : 0 ≤ mfrom.toInt ∧ mfrom.toInt ≤ 900) (i_mtoken : 0 ≤ mtoken.toInt ∧ mtoken.toInt ≤ 4) (i_mvalue : 0 ≤ mvalue.toInt ∧ mvalue.toInt ≤ 99999) (i_mgoalHearer : 0 ≤ mgoalHearer.toInt ∧ mgoalHearer.toInt ≤ 3) (i_mwordsMany : 0 ≤ mwordsMany.toInt ∧ mwordsMany.toInt ≤ 10) (i_mworld : wod mworld) : Ct l g yX12_soon cX12_soon 5 (some .int) { frames := 4, cells := 0, slots := 0, locals := 97 } [.ref h0, .int p1, .int p2] [(h0, .inr (12, [.int mthrown, .ref a1, .ref a2, .ref a3, .ref a4, .int mtaped, .ref a6, .int msize, .int mat, .int mfrom, .int mtoken, .int mvalue, .int mfaultKind, .int mfaultPlace, .ref a14, .ref a15, .int mgoal, .int mgoalDays, .int mgoalHearer, .ref a19, .ref a20, .int mleastOrder, .int mwordsMany, .ref a23, .ref a24, .ref a25, .ref a26, .ref a27, .ref a28])), (a1, .inl (g.2 0, 225, .inl mworld))] (S := (Nat → Int32) × (Nat → Nat → Int32) × (Nat → Nat → Int64)) (fun u => some (.int (u.1 0))) (fun u => True) (fun u => [(h0, .inr (12, [.int mthrown, .ref a1, .ref a2, .ref a3, .ref a4, .int mtaped, .ref a6, .int msize, .int mat, .int mfrom, .int mtoken, .int mvalue, .int mfaultKind, .int mfaultPlace, .ref a14, .ref a15, .int mgoal, .int mgoalDays, .int mgoalHearer, .ref a19, .ref a20, .int mleastOrder, .int mwordsMany, .ref a23, .ref a24, .ref a25, .ref a26, .ref a27, .ref a28])), (a1, .inl (g.2 0, 225, .inl mworld))]) := by
  refine Ct.of (by decide) (Nat.le_of_ble_eq_true rfl) ?_
  intro p e s m below meth c A ls FX hP hD hS hl
  obtain ⟨FC, hr, hlk, hKn, hA, hnm, hZ⟩ := id FX
  have FC : CallFix p m c cX12_soon 5 s _ BIG RX12 := FC
  obtain ⟨hx, hb, hml, hown, hB⟩ := id FC
  have hl : lv_has ls 5 [(0, .ref h0), (1, .int p1), (2, .int p2)] := hl
  refine lv_aload_n hx hb dX12_soon_0 rfl (lv_at hl 0 rfl) ?_
  refine lv_iload_n hx hb dX12_soon_1 rfl (lv_at hl 1 rfl) ?_
  refine call_V (As := [.int p1]) (rest := []) (wr := []) FC hKn hZ (k_X12_isHearer l g h0 a1 a2 a3 a4 a6 a14 a15 a19 a20 a23 a24 a25 a26 a27 a28 mthrown mtaped msize mat mfrom mtoken mvalue mfaultKind mfaultPlace mgoal mgoalDays mgoalHearer mleastOrder mwordsMany mworld p1 (by omega) (by omega) (by omega) (by omega) (by omega) (by omega) (by omega) (by omega) i_mworld) m_yX12_isHearer b_881 (ci := 12) rfl rfl rfl hP hD hS hA [0, 1] [] rfl (by decide) rfl (by decide) (by decide) rfl hl.1 rfl (Nat.le_of_ble_eq_true rfl) dX12_soon_2 ⟨(Nat.le_of_ble_eq_true rfl), (Nat.le_of_ble_eq_true rfl)⟩ ⟨(Nat.le_of_ble_eq_true rfl), (Nat.le_of_ble_eq_true rfl)⟩ (fun u1 H locs q2 hP hD hS => ?_)
  obtain ⟨q2_0, q2_1⟩ := q2
  have hP : va_P g.1 vwCl [(h0, .inr (12, [.int mthrown, .ref a1, .ref a2, .ref a3, .ref a4, .int mtaped, .ref a6, .int msize, .int mat, .int mfrom, .int mtoken, .int mvalue, .int mfaultKind, .int mfaultPlace, .ref a14, .ref a15, .int mgoal, .int mgoalDays, .int mgoalHearer, .ref a19, .ref a20, .int mleastOrder, .int mwordsMany, .ref a23, .ref a24, .ref a25, .ref a26, .ref a27, .ref a28])), (a1, .inl (g.2 0, 225, .inl mworld))] H := hP
  have hD : va_D A [(h0, .inr (12, [.int mthrown, .ref a1, .ref a2, .ref a3, .ref a4, .int mtaped, .ref a6, .int msize, .int mat, .int mfrom, .int mtoken, .int mvalue, .int mfaultKind, .int mfaultPlace, .ref a14, .ref a15, .int mgoal, .int mgoalDays, .int mgoalHearer, .ref a19, .ref a20, .int mleastOrder, .int mwordsMany, .ref a23, .ref a24, .ref a25, .ref a26, .ref a27, .ref a28])), (a1, .inl (g.2 0, 225, .inl mworld))] := hD
  refine W.eq (g2 := F0 m 5 ls [.int (u1.1 0)]) rfl ?_
  rcases (show (u1.1 0).toInt = 0 ∨ (u1.1 0).toInt = 1 by omega) with c3 | c3
  · skip
    refine lv_if_eq (tgt := 18) hx hb dX12_soon_5 (by decide) (fun c4 => ?_) (fun c4 => ?_)
    · have c4 := k_eq (a := (u1.1 0).toInt) (b := 0) rfl (by decide) c4
      refine lv_bipush (v := -2) hx hb dX12_soon_18 (by decide) ?_
      exact rt_i FX ((fun k => match k with | 0 => (-2 : Int32) | _ => 0), (fun _ => fun _ => 0), (fun _ => fun _ => 0)) rfl trivial (hP.sub [0, 1] rfl) (hD.sub [0, 1] (by decide) rfl) hS (Nat.le_of_ble_eq_true rfl) (Nat.le_of_ble_eq_true rfl) dX12_soon_20
    · have c4 := k_ne (a := (u1.1 0).toInt) (b := 0) rfl (by decide) c4
      exfalso; omega
  · have c3_r := q2_1 c3
    refine lv_if_eq (tgt := 18) hx hb dX12_soon_5 (by decide) (fun c5 => ?_) (fun c5 => ?_)
    · have c5 := k_eq (a := (u1.1 0).toInt) (b := 0) rfl (by decide) c5
      exfalso; omega
    · have c5 := k_ne (a := (u1.1 0).toInt) (b := 0) rfl (by decide) c5
      refine lv_iload_n hx hb dX12_soon_8 rfl (lv_at hl 2 rfl) ?_
      refine lv_i2l (v := p2.toInt64) hx hb dX12_soon_9 rfl ?_
      refine lv_topl (fun z6 e_z6 => ?_)
      have t_z6 : z6.toInt = p2.toInt := by rw [e_z6]; exact Int32.toInt_toInt64 _
      refine lv_lconst (v := 0) hx hb dX12_soon_10 (by decide) ?_
      refine lv_lconst (v := 1) hx hb dX12_soon_11 (by decide) ?_
      have kcl0 : (0 : Int64).toInt = 0 := by decide
      have kcl1 : (1 : Int64).toInt = 1 := by decide
      refine call_S (As := [.long z6, .long 0, .long 1]) (rest := []) (wr := [(h0, .inr (12, [.int mthrown, .ref a1, .ref a2, .ref a3, .ref a4, .int mtaped, .ref a6, .int msize, .int mat, .int mfrom, .int mtoken, .int mvalue, .int mfaultKind, .int mfaultPlace, .ref a14, .ref a15, .int mgoal, .int mgoalDays, .int mgoalHearer, .ref a19, .ref a20, .int mleastOrder, .int mwordsMany, .ref a23, .ref a24, .ref a25, .ref a26, .ref a27, .ref a28])), (a1, .inl (g.2 0, 225, .inl mworld))]) FC hKn hZ (k_X12_in l g z6 ((0 : Int64)) ((1 : Int64))) m_yX12_in b_802 hP hD hS hA [] [0, 1] rfl (by decide) rfl (by decide) (by decide) rfl hl.1 rfl (Nat.le_of_ble_eq_true rfl) dX12_soon_12 ⟨(Nat.le_of_ble_eq_true rfl), (Nat.le_of_ble_eq_true rfl)⟩ ⟨(Nat.le_of_ble_eq_true rfl), (Nat.le_of_ble_eq_true rfl)⟩ (fun u7 H locs q8 hP hD hS => ?_)
      obtain ⟨q8_0, q8_1, q8_2⟩ := q8
      have hP : va_P g.1 vwCl [(h0, .inr (12, [.int mthrown, .ref a1, .ref a2, .ref a3, .ref a4, .int mtaped, .ref a6, .int msize, .int mat, .int mfrom, .int mtoken, .int mvalue, .int mfaultKind, .int mfaultPlace, .ref a14, .ref a15, .int mgoal, .int mgoalDays, .int mgoalHearer, .ref a19, .ref a20, .int mleastOrder, .int mwordsMany, .ref a23, .ref a24, .ref a25, .ref a26, .ref a27, .ref a28])), (a1, .inl (g.2 0, 225, .inl mworld))] H := hP
      have hD : va_D A [(h0, .inr (12, [.int mthrown, .ref a1, .ref a2, .ref a3, .ref a4, .int mtaped, .ref a6, .int msize, .int mat, .int mfrom, .int mtoken, .int mvalue, .int mfaultKind, .int mfaultPlace, .ref a14, .ref a15, .int mgoal, .int mgoalDays, .int mgoalHearer, .ref a19, .ref a20, .int mleastOrder, .int mwordsMany, .ref a23, .ref a24, .ref a25, .ref a26, .ref a27, .ref a28])), (a1, .inl (g.2 0, 225, .inl mworld))] := hD
      refine W.eq (g2 := F0 m 15 ls [.int (u7.1 0)]) rfl ?_
      rcases (show (u7.1 0).toInt = 0 ∨ (u7.1 0).toInt = 1 by omega) with c9 | c9
      · skip
        refine lv_if_ne (tgt := 21) hx hb dX12_soon_15 (by decide) (fun c10 => ?_) (fun c10 => ?_)
        · have c10 := k_ne (a := (u7.1 0).toInt) (b := 0) rfl (by decide) c10
          exfalso; omega
        · have c10 := k_eq (a := (u7.1 0).toInt) (b := 0) rfl (by decide) c10
          refine lv_bipush (v := -2) hx hb dX12_soon_18 (by decide) ?_
          exact rt_i FX ((fun k => match k with | 0 => (-2 : Int32) | _ => 0), (fun _ => fun _ => 0), (fun _ => fun _ => 0)) rfl trivial (hP.sub [0, 1] rfl) (hD.sub [0, 1] (by decide) rfl) hS (Nat.le_of_ble_eq_true rfl) (Nat.le_of_ble_eq_true rfl) dX12_soon_20
      · have c9_r := q8_2 c9
        refine lv_if_ne (tgt := 21) hx hb dX12_soon_15 (by decide) (fun c11 => ?_) (fun c11 => ?_)
        · have c11 := k_ne (a := (u7.1 0).toInt) (b := 0) rfl (by decide) c11
          refine lv_iconst (v := 0) hx hb dX12_soon_21 (by decide) ?_
          refine lv_istore_n (lv' := [(3, .int 0), (0, .ref h0), (1, .int p1), (2, .int p2)]) hx hb dX12_soon_22 rfl hl (by decide) rfl (fun ls hl => ?_)
          refine lv_iconst (v := 1) hx hb dX12_soon_23 (by decide) ?_
          refine lv_istore (lv' := [(4, .int 1), (3, .int 0), (0, .ref h0), (1, .int p1), (2, .int p2)]) hx hb dX12_soon_24 hl (by decide) rfl (fun ls hl => ?_)
          have lp38 : ∀ (n40 : Nat) (x36 : Int32) (x37 : Int32) (H : Heap) (locs : List Loc) (ls : Array Slot), 1 ≤ x36.toInt ∧ x36.toInt ≤ 10 → 0 ≤ x37.toInt ∧ x37.toInt ≤ 9 → (10 - x36.toInt).toNat < n40 → va_P g.1 vwCl [(h0, .inr (12, [.int mthrown, .ref a1, .ref a2, .ref a3, .ref a4, .int mtaped, .ref a6, .int msize, .int mat, .int mfrom, .int mtoken, .int mvalue, .int mfaultKind, .int mfaultPlace, .ref a14, .ref a15, .int mgoal, .int mgoalDays, .int mgoalHearer, .ref a19, .ref a20, .int mleastOrder, .int mwordsMany, .ref a23, .ref a24, .ref a25, .ref a26, .ref a27, .ref a28])), (a1, .inl (g.2 0, 225, .inl mworld))] H → va_D A [(h0, .inr (12, [.int mthrown, .ref a1, .ref a2, .ref a3, .ref a4, .int mtaped, .ref a6, .int msize, .int mat, .int mfrom, .int mtoken, .int mvalue, .int mfaultKind, .int mfaultPlace, .ref a14, .ref a15, .int mgoal, .int mgoalDays, .int mgoalHearer, .ref a19, .ref a20, .int mleastOrder, .int mwordsMany, .ref a23, .ref a24, .ref a25, .ref a26, .ref a27, .ref a28])), (a1, .inl (g.2 0, 225, .inl mworld))] → va_S A s.heap H locs → lv_has ls 5 [(4, .int x36), (3, .int x37), (0, .ref h0), (1, .int p1), (2, .int p2)] → W p l e { frames := 4, cells := 0, slots := 0, locals := 97 } s m ([.ref h0, .int p1, .int p2].toArray) below meth c H locs 0 0 (MQ below (QX (S := (Nat → Int32) × (Nat → Nat → Int32) × (Nat → Nat → Int64)) (fun u => some (.int (u.1 0))) (fun u => True) g (fun u => [(h0, .inr (12, [.int mthrown, .ref a1, .ref a2, .ref a3, .ref a4, .int mtaped, .ref a6, .int msize, .int mat, .int mfrom, .int mtoken, .int mvalue, .int mfaultKind, .int mfaultPlace, .ref a14, .ref a15, .int mgoal, .int mgoalDays, .int mgoalHearer, .ref a19, .ref a20, .int mleastOrder, .int mwordsMany, .ref a23, .ref a24, .ref a25, .ref a26, .ref a27, .ref a28])), (a1, .inl (g.2 0, 225, .inl mworld))]) A) ([.ref h0, .int p1, .int p2].toArray) s 0 0 A) (F0 m 26 ls []) := by
            intro n40
            induction n40 with
            | zero =>
              intro x36 x37 H locs ls h_x36 h_x37 hn41
              exact absurd hn41 (Nat.not_lt_zero _)
            | succ n40 ih39 =>
              intro x36 x37 H locs ls h_x36 h_x37 hn41 hP hD hS hl
              refine lv_iload hx hb dX12_soon_26 (lv_at hl 0 rfl) ?_
              refine lv_aload_n hx hb dX12_soon_28 rfl (lv_at hl 2 rfl) ?_
              refine g_get (C := RX12) (T := TX12) (N := 29) (ci := 12) (v := .ref a1) FC hKn hP i_X12 0 rfl rfl 1 (by decide) b_801 rfl dX12_soon_29 ?_
              refine lv_iconst (v := 2) hx hb dX12_soon_32 (by decide) ?_
              refine va_iald hx hb hKn.1 hP 1 0 rfl rfl (by unfold vp_in; decide) dX12_soon_33 ?_
              have kc2 : (2 : Int32).toInt = 2 := by decide
              refine lv_topi (fun z42 e_z42 => ?_)
              have t_z42 : 0 ≤ z42.toInt ∧ z42.toInt ≤ 10 := by rw [e_z42]; exact wk_2 i_mworld.1
              have q_z42 : z42.toInt = (mworld 2).toInt := by rw [e_z42]; rfl
              refine lv_icmp_ge (tgt := 66) hx hb dX12_soon_34 (by decide) (fun c43 => ?_) (fun c43 => ?_)
              · have c43 := k_le (a := z42.toInt) (b := x36.toInt) rfl rfl c43
                refine lv_iload_n hx hb dX12_soon_66 rfl (lv_at hl 4 rfl) ?_
                refine lv_if_ne (tgt := 74) hx hb dX12_soon_67 (by decide) (fun c44 => ?_) (fun c44 => ?_)
                · have c44 := k_ne (a := p2.toInt) (b := 0) rfl (by decide) c44
                  refine lv_aload_n hx hb dX12_soon_74 rfl (lv_at hl 2 rfl) ?_
                  refine lv_iload_n hx hb dX12_soon_75 rfl (lv_at hl 3 rfl) ?_
                  refine lv_iload_n hx hb dX12_soon_76 rfl (lv_at hl 1 rfl) ?_
                  refine call_V (As := [.int p1, .int x37]) (rest := []) (wr := []) FC hKn hZ (k_X12_soonOn l g h0 a1 a2 a3 a4 a6 a14 a15 a19 a20 a23 a24 a25 a26 a27 a28 mthrown mtaped msize mat mfrom mtoken mvalue mfaultKind mfaultPlace mgoal mgoalDays mgoalHearer mleastOrder mwordsMany mworld p1 x37 (by omega) (by omega) (by omega) (by omega) (by omega) (by omega) (by omega) (by omega) i_mworld (by omega) (by omega) (by omega)) m_yX12_soonOn b_1002 (ci := 12) rfl rfl rfl hP hD hS hA [0, 1] [] rfl (by decide) rfl (by decide) (by decide) rfl hl.1 rfl (Nat.le_of_ble_eq_true rfl) dX12_soon_77 ⟨(Nat.le_of_ble_eq_true rfl), (Nat.le_of_ble_eq_true rfl)⟩ ⟨(Nat.le_of_ble_eq_true rfl), (Nat.le_of_ble_eq_true rfl)⟩ (fun u45 H locs q46 hP hD hS => ?_)
                  have hP : va_P g.1 vwCl [(h0, .inr (12, [.int mthrown, .ref a1, .ref a2, .ref a3, .ref a4, .int mtaped, .ref a6, .int msize, .int mat, .int mfrom, .int mtoken, .int mvalue, .int mfaultKind, .int mfaultPlace, .ref a14, .ref a15, .int mgoal, .int mgoalDays, .int mgoalHearer, .ref a19, .ref a20, .int mleastOrder, .int mwordsMany, .ref a23, .ref a24, .ref a25, .ref a26, .ref a27, .ref a28])), (a1, .inl (g.2 0, 225, .inl mworld))] H := hP
                  have hD : va_D A [(h0, .inr (12, [.int mthrown, .ref a1, .ref a2, .ref a3, .ref a4, .int mtaped, .ref a6, .int msize, .int mat, .int mfrom, .int mtoken, .int mvalue, .int mfaultKind, .int mfaultPlace, .ref a14, .ref a15, .int mgoal, .int mgoalDays, .int mgoalHearer, .ref a19, .ref a20, .int mleastOrder, .int mwordsMany, .ref a23, .ref a24, .ref a25, .ref a26, .ref a27, .ref a28])), (a1, .inl (g.2 0, 225, .inl mworld))] := hD
                  refine W.eq (g2 := F0 m 80 ls [.int (u45.1 0)]) rfl ?_
                  exact rt_i FX ((fun k => match k with | 0 => u45.1 0 | _ => 0), (fun _ => fun _ => 0), (fun _ => fun _ => 0)) rfl trivial (hP.sub [0, 1] rfl) (hD.sub [0, 1] (by decide) rfl) hS (Nat.le_of_ble_eq_true rfl) (Nat.le_of_ble_eq_true rfl) dX12_soon_80
                · have c44 := k_eq (a := p2.toInt) (b := 0) rfl (by decide) c44
                  refine lv_iload_n hx hb dX12_soon_70 rfl (lv_at hl 1 rfl) ?_
                  refine lv_goto (tgt := 80) hx hb dX12_soon_71 (by decide) ?_
                  exact rt_i FX ((fun k => match k with | 0 => x37 | _ => 0), (fun _ => fun _ => 0), (fun _ => fun _ => 0)) rfl trivial (hP.sub [0, 1] rfl) (hD.sub [0, 1] (by decide) rfl) hS (Nat.le_of_ble_eq_true rfl) (Nat.le_of_ble_eq_true rfl) dX12_soon_80
              · have c43 := k_nle (a := z42.toInt) (b := x36.toInt) rfl rfl c43
                refine lv_aload_n hx hb dX12_soon_37 rfl (lv_at hl 2 rfl) ?_
                refine lv_iload_n hx hb dX12_soon_38 rfl (lv_at hl 3 rfl) ?_
                refine lv_iload hx hb dX12_soon_39 (lv_at hl 0 rfl) ?_
                refine call_V (As := [.int p1, .int x36]) (rest := []) (wr := []) FC hKn hZ (k_X12_soonOn l g h0 a1 a2 a3 a4 a6 a14 a15 a19 a20 a23 a24 a25 a26 a27 a28 mthrown mtaped msize mat mfrom mtoken mvalue mfaultKind mfaultPlace mgoal mgoalDays mgoalHearer mleastOrder mwordsMany mworld p1 x36 (by omega) (by omega) (by omega) (by omega) (by omega) (by omega) (by omega) (by omega) i_mworld (by omega) (by omega) (by omega)) m_yX12_soonOn b_1002 (ci := 12) rfl rfl rfl hP hD hS hA [0, 1] [] rfl (by decide) rfl (by decide) (by decide) rfl hl.1 rfl (Nat.le_of_ble_eq_true rfl) dX12_soon_41 ⟨(Nat.le_of_ble_eq_true rfl), (Nat.le_of_ble_eq_true rfl)⟩ ⟨(Nat.le_of_ble_eq_true rfl), (Nat.le_of_ble_eq_true rfl)⟩ (fun u47 H locs q48 hP hD hS => ?_)
                have hP : va_P g.1 vwCl [(h0, .inr (12, [.int mthrown, .ref a1, .ref a2, .ref a3, .ref a4, .int mtaped, .ref a6, .int msize, .int mat, .int mfrom, .int mtoken, .int mvalue, .int mfaultKind, .int mfaultPlace, .ref a14, .ref a15, .int mgoal, .int mgoalDays, .int mgoalHearer, .ref a19, .ref a20, .int mleastOrder, .int mwordsMany, .ref a23, .ref a24, .ref a25, .ref a26, .ref a27, .ref a28])), (a1, .inl (g.2 0, 225, .inl mworld))] H := hP
                have hD : va_D A [(h0, .inr (12, [.int mthrown, .ref a1, .ref a2, .ref a3, .ref a4, .int mtaped, .ref a6, .int msize, .int mat, .int mfrom, .int mtoken, .int mvalue, .int mfaultKind, .int mfaultPlace, .ref a14, .ref a15, .int mgoal, .int mgoalDays, .int mgoalHearer, .ref a19, .ref a20, .int mleastOrder, .int mwordsMany, .ref a23, .ref a24, .ref a25, .ref a26, .ref a27, .ref a28])), (a1, .inl (g.2 0, 225, .inl mworld))] := hD
                refine W.eq (g2 := F0 m 44 ls [.int (u47.1 0)]) rfl ?_
                refine lv_aload_n hx hb dX12_soon_44 rfl (lv_at hl 2 rfl) ?_
                refine lv_iload_n hx hb dX12_soon_45 rfl (lv_at hl 3 rfl) ?_
                refine lv_iload_n hx hb dX12_soon_46 rfl (lv_at hl 1 rfl) ?_
                refine call_V (As := [.int p1, .int x37]) (rest := [.int (u47.1 0)]) (wr := []) FC hKn hZ (k_X12_soonOn l g h0 a1 a2 a3 a4 a6 a14 a15 a19 a20 a23 a24 a25 a26 a27 a28 mthrown mtaped msize mat mfrom mtoken mvalue mfaultKind mfaultPlace mgoal mgoalDays mgoalHearer mleastOrder mwordsMany mworld p1 x37 (by omega) (by omega) (by omega) (by omega) (by omega) (by omega) (by omega) (by omega) i_mworld (by omega) (by omega) (by omega)) m_yX12_soonOn b_1002 (ci := 12) rfl rfl rfl hP hD hS hA [0, 1] [] rfl (by decide) rfl (by decide) (by decide) rfl hl.1 rfl (Nat.le_of_ble_eq_true rfl) dX12_soon_47 ⟨(Nat.le_of_ble_eq_true rfl), (Nat.le_of_ble_eq_true rfl)⟩ ⟨(Nat.le_of_ble_eq_true rfl), (Nat.le_of_ble_eq_true rfl)⟩ (fun u49 H locs q50 hP hD hS => ?_)
                have hP : va_P g.1 vwCl [(h0, .inr (12, [.int mthrown, .ref a1, .ref a2, .ref a3, .ref a4, .int mtaped, .ref a6, .int msize, .int mat, .int mfrom, .int mtoken, .int mvalue, .int mfaultKind, .int mfaultPlace, .ref a14, .ref a15, .int mgoal, .int mgoalDays, .int mgoalHearer, .ref a19, .ref a20, .int mleastOrder, .int mwordsMany, .ref a23, .ref a24, .ref a25, .ref a26, .ref a27, .ref a28])), (a1, .inl (g.2 0, 225, .inl mworld))] H := hP
                have hD : va_D A [(h0, .inr (12, [.int mthrown, .ref a1, .ref a2, .ref a3, .ref a4, .int mtaped, .ref a6, .int msize, .int mat, .int mfrom, .int mtoken, .int mvalue, .int mfaultKind, .int mfaultPlace, .ref a14, .ref a15, .int mgoal, .int mgoalDays, .int mgoalHearer, .ref a19, .ref a20, .int mleastOrder, .int mwordsMany, .ref a23, .ref a24, .ref a25, .ref a26, .ref a27, .ref a28])), (a1, .inl (g.2 0, 225, .inl mworld))] := hD
                refine W.eq (g2 := F0 m 50 ls [.int (u49.1 0), .int (u47.1 0)]) rfl ?_
                refine lv_icmp_ge (tgt := 58) hx hb dX12_soon_50 (by decide) (fun c51 => ?_) (fun c51 => ?_)
                · have c51 := k_le (a := (u49.1 0).toInt) (b := (u47.1 0).toInt) rfl rfl c51
                  refine lv_iload_n hx hb dX12_soon_58 rfl (lv_at hl 1 rfl) ?_
                  refine lv_istore_n (lv' := [(3, .int x37), (4, .int x36), (0, .ref h0), (1, .int p1), (2, .int p2)]) hx hb dX12_soon_59 rfl hl (by decide) rfl (fun ls hl => ?_)
                  obtain ⟨z52, e_z52⟩ : ∃ y : Int32, y = x36 + 1 := ⟨_, rfl⟩
                  have t_z52 : z52.toInt = x36.toInt + 1 := by rw [e_z52]; exact addk (by decide) (by omega) (by omega)
                  refine lv_iinc (v := z52) (lv' := [(4, .int z52), (3, .int x37), (0, .ref h0), (1, .int p1), (2, .int p2)]) hx hb dX12_soon_60 hl (k := 1) rfl (by rw [e_z52]; rfl) (by decide) rfl (fun ls hl => ?_)
                  refine lv_goto (tgt := 26) hx hb dX12_soon_63 (by decide) ?_
                  exact ih39 z52 x37 _ _ ls (by omega) (by omega) (by omega) hP hD hS (lv_sub hl [0, 1, 2, 3, 4] rfl)
                · have c51 := k_nle (a := (u49.1 0).toInt) (b := (u47.1 0).toInt) rfl rfl c51
                  refine lv_iload hx hb dX12_soon_53 (lv_at hl 0 rfl) ?_
                  refine lv_goto (tgt := 59) hx hb dX12_soon_55 (by decide) ?_
                  refine lv_istore_n (lv' := [(3, .int x36), (4, .int x36), (0, .ref h0), (1, .int p1), (2, .int p2)]) hx hb dX12_soon_59 rfl hl (by decide) rfl (fun ls hl => ?_)
                  obtain ⟨z53, e_z53⟩ : ∃ y : Int32, y = x36 + 1 := ⟨_, rfl⟩
                  have t_z53 : z53.toInt = x36.toInt + 1 := by rw [e_z53]; exact addk (by decide) (by omega) (by omega)
                  refine lv_iinc (v := z53) (lv' := [(4, .int z53), (3, .int x36), (0, .ref h0), (1, .int p1), (2, .int p2)]) hx hb dX12_soon_60 hl (k := 1) rfl (by rw [e_z53]; rfl) (by decide) rfl (fun ls hl => ?_)
                  refine lv_goto (tgt := 26) hx hb dX12_soon_63 (by decide) ?_
                  exact ih39 z53 x36 _ _ ls (by omega) (by omega) (by omega) hP hD hS (lv_sub hl [0, 1, 2, 3, 4] rfl)
          have kc1 : (1 : Int32).toInt = 1 := by decide
          have kc0 : (0 : Int32).toInt = 0 := by decide
          exact lp38 _ (1 : Int32) (0 : Int32) _ _ ls (by decide) (by decide) (Nat.lt_succ_self _) hP hD hS (lv_sub hl [0, 1, 2, 3, 4] rfl)
        · have c11 := k_eq (a := (u7.1 0).toInt) (b := 0) rfl (by decide) c11
          exfalso; omega
set_option maxRecDepth 100000 in
set_option maxHeartbeats 4000000 in
theorem c_X12_evenOf (l : Launch) (g : GG) (p0 : Int32) (p1 : Int32) (hn : 1 ≤ p1.toInt) : Ct l g yX12_evenOf cX12_evenOf 4 (some .int) { frames := 0, cells := 0, slots := 0, locals := 0 } [.int p0, .int p1] [] (S := Unit) (fun _ => some (.int (evF p0 p1))) (fun _ => True) (fun u => []) := by
  refine Ct.of (by decide) (Nat.le_of_ble_eq_true rfl) ?_
  intro p e s m below meth c A ls FX hP hD hS hl
  obtain ⟨FC, hr, hlk, hKn, hA, hnm, hZ⟩ := id FX
  have FC : CallFix p m c cX12_evenOf 4 s _ BIG RX12 := FC
  obtain ⟨hx, hb, hml, hown, hB⟩ := id FC
  have hl : lv_has ls 4 [(0, .int p0), (1, .int p1)] := hl
  have hne : ¬ p1 = 0 := fun q => by rw [q] at hn; exact absurd hn (by decide)
  refine lv_iload_n hx hb dX12_evenOf_0 rfl (lv_at hl 0 rfl) ?_
  refine lv_iload_n hx hb dX12_evenOf_1 rfl (lv_at hl 1 rfl) ?_
  refine lv_idiv hx hb dX12_evenOf_2 hne ?_
  refine W.eq (g2 := F0 m 3 ls [.int (p0 / p1)]) rfl ?_
  refine lv_istore_n (lv' := [(2, .int (p0 / p1)), (0, .int p0), (1, .int p1)]) hx hb dX12_evenOf_3 rfl hl (by decide) rfl (fun ls hl => ?_)
  refine lv_iload_n hx hb dX12_evenOf_4 rfl (lv_at hl 1 rfl) ?_
  refine lv_iload_n hx hb dX12_evenOf_5 rfl (lv_at hl 2 rfl) ?_
  refine lv_irem hx hb dX12_evenOf_6 hne ?_
  refine W.eq (g2 := F0 m 7 ls [.int (p0 - p0 / p1 * p1)]) rfl ?_
  refine lv_istore_n (lv' := [(3, .int (p0 - p0 / p1 * p1)), (2, .int (p0 / p1)), (0, .int p0), (1, .int p1)]) hx hb dX12_evenOf_7 rfl hl (by decide) rfl (fun ls hl => ?_)
  refine lv_iload_n hx hb dX12_evenOf_8 rfl (lv_at hl 0 rfl) ?_
  refine lv_iload_n hx hb dX12_evenOf_9 rfl (lv_at hl 1 rfl) ?_
  refine lv_iconst (v := 1) hx hb dX12_evenOf_10 (by decide) ?_
  refine lv_iadd hx hb dX12_evenOf_11 ?_
  refine lv_imul hx hb dX12_evenOf_12 ?_
  refine lv_iload_n hx hb dX12_evenOf_13 rfl (lv_at hl 1 rfl) ?_
  refine lv_iconst (v := 1) hx hb dX12_evenOf_14 (by decide) ?_
  refine lv_iadd hx hb dX12_evenOf_15 ?_
  refine lv_imul hx hb dX12_evenOf_16 ?_
  refine lv_iload_n hx hb dX12_evenOf_17 rfl (lv_at hl 3 rfl) ?_
  refine lv_iload_n hx hb dX12_evenOf_18 rfl (lv_at hl 0 rfl) ?_
  refine lv_isub hx hb dX12_evenOf_19 ?_
  refine lv_iload_n hx hb dX12_evenOf_20 rfl (lv_at hl 1 rfl) ?_
  refine lv_imul hx hb dX12_evenOf_21 ?_
  refine lv_iload_n hx hb dX12_evenOf_22 rfl (lv_at hl 1 rfl) ?_
  refine lv_imul hx hb dX12_evenOf_23 ?_
  refine lv_iadd hx hb dX12_evenOf_24 ?_
  exact rt_i FX () (congrArg (fun z => some (Value.int z)) (show ((((p0 - p0 / p1 * p1) * ((p0 / p1) + 1)) * ((p0 / p1) + 1)) + (((p1 - (p0 - p0 / p1 * p1)) * (p0 / p1)) * (p0 / p1)) : Int32) = _ from rfl)) trivial (hP.sub [] rfl) (hD.sub [] (by decide) rfl) hS (Nat.le_of_ble_eq_true rfl) (Nat.le_of_ble_eq_true rfl) dX12_evenOf_25
