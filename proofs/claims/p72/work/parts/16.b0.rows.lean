set_option maxRecDepth 100000 in
set_option maxHeartbeats 4000000 in
theorem k_X2_leftByRow (l : Launch) (g : GG) (h0 : Nat) (er0 : Nat) (er1 : Nat) (er2 : Nat) (d0 : Nat) (dr0 : Nat) (dr1 : Nat) (dr2 : Nat) (dr3 : Nat) (dr4 : Nat) (dr5 : Nat) (dr6 : Nat) (dr7 : Nat) (dr8 : Nat) (dr9 : Nat) (eleast : Int32) (esharedDays : Nat → Int32) (esums : Nat → Int32) (dstates : Int32) (dreally : Int32) (ddays : Int32) (dheal : Int32) (dleak : Int32) (dlines : Int32) (dhearers : Int32) (dwords : Int32) (dplans : Int32) (dnews : Int32) (dtidings : Nat → Int32) (p2 : Int32) (i_esharedDays : ab esharedDays 6 0 3) (i_dstates : 0 ≤ dstates.toInt ∧ dstates.toInt ≤ 8) (i_dreally : 0 ≤ dreally.toInt ∧ dreally.toInt ≤ 7) (i_ddays : 0 ≤ ddays.toInt ∧ ddays.toInt ≤ 10) (i_dhearers : 0 ≤ dhearers.toInt ∧ dhearers.toInt ≤ 4) (i_dwords : 0 ≤ dwords.toInt ∧ dwords.toInt ≤ 8) (i_dplans : 0 ≤ dplans.toInt ∧ dplans.toInt ≤ 4) (i_dnews : 0 ≤ dnews.toInt ∧ dnews.toInt ≤ 6) (i_p2 : 0 ≤ p2.toInt ∧ p2.toInt ≤ 4) : Ct l g yX2_leftByRow cX2_leftByRow 6 (some .int) { frames := 2, cells := 0, slots := 0, locals := 36 } [.ref h0, .ref d0, .int p2] [(h0, .inr (2, [.ref er0, .ref er1, .ref er2, .int eleast])), (er0, .inl (g.2 0, 6, .inl esharedDays)), (er2, .inl (g.2 0, 4, .inl esums)), (d0, .inr (0, [.int dstates, .int dreally, .int ddays, .int dheal, .int dleak, .int dlines, .int dhearers, .int dwords, .int dplans, .int dnews, .ref dr0, .ref dr1, .ref dr2, .ref dr3, .ref dr4, .ref dr5, .ref dr6, .ref dr7, .ref dr8, .ref dr9])), (dr8, .inl (g.2 0, 6, .inl dtidings))] (S := (Nat → Int32) × (Nat → Nat → Int32) × (Nat → Nat → Int64)) (fun u => some (.int (u.1 0))) (fun u => True) (fun u => [(h0, .inr (2, [.ref er0, .ref er1, .ref er2, .int eleast])), (er0, .inl (g.2 0, 6, .inl esharedDays)), (er2, .inl (g.2 0, 4, .inl (u.2.1 0))), (d0, .inr (0, [.int dstates, .int dreally, .int ddays, .int dheal, .int dleak, .int dlines, .int dhearers, .int dwords, .int dplans, .int dnews, .ref dr0, .ref dr1, .ref dr2, .ref dr3, .ref dr4, .ref dr5, .ref dr6, .ref dr7, .ref dr8, .ref dr9])), (dr8, .inl (g.2 0, 6, .inl dtidings))]) := by
  refine Ct.of (by decide) (Nat.le_of_ble_eq_true rfl) ?_
  intro p e s m below meth c A ls FX hP hD hS hl
  obtain ⟨FC, hr, hlk, hKn, hA, hnm, hZ⟩ := id FX
  have FC : CallFix p m c cX2_leftByRow 6 s _ BIG RX2 := FC
  obtain ⟨hx, hb, hml, hown, hB⟩ := id FC
  have hl : lv_has ls 6 [(0, .ref h0), (1, .ref d0), (2, .int p2)] := hl
  refine lv_aload_n hx hb dX2_leftByRow_0 rfl (lv_at hl 0 rfl) ?_
  refine g_get (C := RX2) (T := TX2) (N := 4) (ci := 2) (v := .ref er2) FC hKn hP i_X2 0 rfl rfl 2 (by decide) b_195 rfl dX2_leftByRow_1 ?_
  refine lv_iconst (v := 0) hx hb dX2_leftByRow_4 (by decide) ?_
  have kc0 : (0 : Int32).toInt = 0 := by decide
  refine call_S (As := [.ref er2, .int 0]) (rest := []) (wr := [(h0, .inr (2, [.ref er0, .ref er1, .ref er2, .int eleast])), (er0, .inl (g.2 0, 6, .inl esharedDays)), (d0, .inr (0, [.int dstates, .int dreally, .int ddays, .int dheal, .int dleak, .int dlines, .int dhearers, .int dwords, .int dplans, .int dnews, .ref dr0, .ref dr1, .ref dr2, .ref dr3, .ref dr4, .ref dr5, .ref dr6, .ref dr7, .ref dr8, .ref dr9])), (dr8, .inl (g.2 0, 6, .inl dtidings))]) FC hKn hZ (k_fill_4 l g er2 esums ((0 : Int32))) m_yJ7_fill_53178 b_196 hP hD hS hA [2] [0, 1, 3, 4] rfl (by decide) rfl (by decide) (by decide) rfl hl.1 rfl (Nat.le_of_ble_eq_true rfl) dX2_leftByRow_5 ⟨(Nat.le_of_ble_eq_true rfl), (Nat.le_of_ble_eq_true rfl)⟩ ⟨(Nat.le_of_ble_eq_true rfl), (Nat.le_of_ble_eq_true rfl)⟩ (fun u1 H locs q2 hP hD hS => ?_)
  have hP : va_P g.1 vwCl [(h0, .inr (2, [.ref er0, .ref er1, .ref er2, .int eleast])), (er0, .inl (g.2 0, 6, .inl esharedDays)), (d0, .inr (0, [.int dstates, .int dreally, .int ddays, .int dheal, .int dleak, .int dlines, .int dhearers, .int dwords, .int dplans, .int dnews, .ref dr0, .ref dr1, .ref dr2, .ref dr3, .ref dr4, .ref dr5, .ref dr6, .ref dr7, .ref dr8, .ref dr9])), (dr8, .inl (g.2 0, 6, .inl dtidings)), (er2, .inl (g.2 0, 4, .inl (u1.2.1 0)))] H := hP
  have hD : va_D A [(h0, .inr (2, [.ref er0, .ref er1, .ref er2, .int eleast])), (er0, .inl (g.2 0, 6, .inl esharedDays)), (d0, .inr (0, [.int dstates, .int dreally, .int ddays, .int dheal, .int dleak, .int dlines, .int dhearers, .int dwords, .int dplans, .int dnews, .ref dr0, .ref dr1, .ref dr2, .ref dr3, .ref dr4, .ref dr5, .ref dr6, .ref dr7, .ref dr8, .ref dr9])), (dr8, .inl (g.2 0, 6, .inl dtidings)), (er2, .inl (g.2 0, 4, .inl (u1.2.1 0)))] := hD
  refine W.eq (g2 := F0 m 8 ls []) rfl ?_
  refine lv_iconst (v := 0) hx hb dX2_leftByRow_8 (by decide) ?_
  refine lv_istore_n (lv' := [(3, .int 0), (0, .ref h0), (1, .ref d0), (2, .int p2)]) hx hb dX2_leftByRow_9 rfl hl (by decide) rfl (fun ls hl => ?_)
  have lp658 : ∀ (n660 : Nat) (x656 : Int32) (x657 : Nat → Int32) (H : Heap) (locs : List Loc) (ls : Array Slot), 0 ≤ x656.toInt ∧ x656.toInt ≤ 6 → (6 - x656.toInt).toNat < n660 → va_P g.1 vwCl [(h0, .inr (2, [.ref er0, .ref er1, .ref er2, .int eleast])), (er0, .inl (g.2 0, 6, .inl esharedDays)), (d0, .inr (0, [.int dstates, .int dreally, .int ddays, .int dheal, .int dleak, .int dlines, .int dhearers, .int dwords, .int dplans, .int dnews, .ref dr0, .ref dr1, .ref dr2, .ref dr3, .ref dr4, .ref dr5, .ref dr6, .ref dr7, .ref dr8, .ref dr9])), (dr8, .inl (g.2 0, 6, .inl dtidings)), (er2, .inl (g.2 0, 4, .inl x657))] H → va_D A [(h0, .inr (2, [.ref er0, .ref er1, .ref er2, .int eleast])), (er0, .inl (g.2 0, 6, .inl esharedDays)), (d0, .inr (0, [.int dstates, .int dreally, .int ddays, .int dheal, .int dleak, .int dlines, .int dhearers, .int dwords, .int dplans, .int dnews, .ref dr0, .ref dr1, .ref dr2, .ref dr3, .ref dr4, .ref dr5, .ref dr6, .ref dr7, .ref dr8, .ref dr9])), (dr8, .inl (g.2 0, 6, .inl dtidings)), (er2, .inl (g.2 0, 4, .inl x657))] → va_S A s.heap H locs → lv_has ls 6 [(3, .int x656), (0, .ref h0), (1, .ref d0), (2, .int p2)] → W p l e { frames := 2, cells := 0, slots := 0, locals := 36 } s m ([.ref h0, .ref d0, .int p2].toArray) below meth c H locs 0 0 (MQ below (QX (S := (Nat → Int32) × (Nat → Nat → Int32) × (Nat → Nat → Int64)) (fun u => some (.int (u.1 0))) (fun u => True) g (fun u => [(h0, .inr (2, [.ref er0, .ref er1, .ref er2, .int eleast])), (er0, .inl (g.2 0, 6, .inl esharedDays)), (er2, .inl (g.2 0, 4, .inl (u.2.1 0))), (d0, .inr (0, [.int dstates, .int dreally, .int ddays, .int dheal, .int dleak, .int dlines, .int dhearers, .int dwords, .int dplans, .int dnews, .ref dr0, .ref dr1, .ref dr2, .ref dr3, .ref dr4, .ref dr5, .ref dr6, .ref dr7, .ref dr8, .ref dr9])), (dr8, .inl (g.2 0, 6, .inl dtidings))]) A) ([.ref h0, .ref d0, .int p2].toArray) s 0 0 A) (F0 m 10 ls []) := by
    intro n660
    induction n660 with
    | zero =>
      intro x656 x657 H locs ls h_x656 hn661
      exact absurd hn661 (Nat.not_lt_zero _)
    | succ n660 ih659 =>
      intro x656 x657 H locs ls h_x656 hn661 hP hD hS hl
      refine lv_iload_n hx hb dX2_leftByRow_10 rfl (lv_at hl 0 rfl) ?_
      refine lv_aload_n hx hb dX2_leftByRow_11 rfl (lv_at hl 2 rfl) ?_
      refine g_getN (C := RX0) (T := TX0) (N := 20) (ci := 0) (v := .int dnews) FC hKn hP i_X0 2 rfl rfl 9 (by decide) b_197 rfl dX2_leftByRow_12 ?_
      refine lv_icmp_ge (tgt := 44) hx hb dX2_leftByRow_15 (by decide) (fun c662 => ?_) (fun c662 => ?_)
      · have c662 := k_le (a := dnews.toInt) (b := x656.toInt) rfl rfl c662
        refine lv_iconst (v := 0) hx hb dX2_leftByRow_44 (by decide) ?_
        refine lv_istore_n (lv' := [(3, .int 0), (0, .ref h0), (1, .ref d0), (2, .int p2)]) hx hb dX2_leftByRow_45 rfl hl (by decide) rfl (fun ls hl => ?_)
        refine lv_iconst (v := 0) hx hb dX2_leftByRow_46 (by decide) ?_
        refine lv_istore (lv' := [(4, .int 0), (3, .int 0), (0, .ref h0), (1, .ref d0), (2, .int p2)]) hx hb dX2_leftByRow_47 hl (by decide) rfl (fun ls hl => ?_)
        have lp722 : ∀ (n724 : Nat) (x720 : Int32) (x721 : Int32) (H : Heap) (locs : List Loc) (ls : Array Slot), 0 ≤ x720.toInt ∧ x720.toInt ≤ 4 → (4 - x720.toInt).toNat < n724 → va_P g.1 vwCl [(h0, .inr (2, [.ref er0, .ref er1, .ref er2, .int eleast])), (er0, .inl (g.2 0, 6, .inl esharedDays)), (d0, .inr (0, [.int dstates, .int dreally, .int ddays, .int dheal, .int dleak, .int dlines, .int dhearers, .int dwords, .int dplans, .int dnews, .ref dr0, .ref dr1, .ref dr2, .ref dr3, .ref dr4, .ref dr5, .ref dr6, .ref dr7, .ref dr8, .ref dr9])), (dr8, .inl (g.2 0, 6, .inl dtidings)), (er2, .inl (g.2 0, 4, .inl x657))] H → va_D A [(h0, .inr (2, [.ref er0, .ref er1, .ref er2, .int eleast])), (er0, .inl (g.2 0, 6, .inl esharedDays)), (d0, .inr (0, [.int dstates, .int dreally, .int ddays, .int dheal, .int dleak, .int dlines, .int dhearers, .int dwords, .int dplans, .int dnews, .ref dr0, .ref dr1, .ref dr2, .ref dr3, .ref dr4, .ref dr5, .ref dr6, .ref dr7, .ref dr8, .ref dr9])), (dr8, .inl (g.2 0, 6, .inl dtidings)), (er2, .inl (g.2 0, 4, .inl x657))] → va_S A s.heap H locs → lv_has ls 6 [(4, .int x720), (3, .int x721), (0, .ref h0), (1, .ref d0), (2, .int p2)] → W p l e { frames := 2, cells := 0, slots := 0, locals := 36 } s m ([.ref h0, .ref d0, .int p2].toArray) below meth c H locs 0 0 (MQ below (QX (S := (Nat → Int32) × (Nat → Nat → Int32) × (Nat → Nat → Int64)) (fun u => some (.int (u.1 0))) (fun u => True) g (fun u => [(h0, .inr (2, [.ref er0, .ref er1, .ref er2, .int eleast])), (er0, .inl (g.2 0, 6, .inl esharedDays)), (er2, .inl (g.2 0, 4, .inl (u.2.1 0))), (d0, .inr (0, [.int dstates, .int dreally, .int ddays, .int dheal, .int dleak, .int dlines, .int dhearers, .int dwords, .int dplans, .int dnews, .ref dr0, .ref dr1, .ref dr2, .ref dr3, .ref dr4, .ref dr5, .ref dr6, .ref dr7, .ref dr8, .ref dr9])), (dr8, .inl (g.2 0, 6, .inl dtidings))]) A) ([.ref h0, .ref d0, .int p2].toArray) s 0 0 A) (F0 m 49 ls []) := by
          intro n724
          induction n724 with
          | zero =>
            intro x720 x721 H locs ls h_x720 hn725
            exact absurd hn725 (Nat.not_lt_zero _)
          | succ n724 ih723 =>
            intro x720 x721 H locs ls h_x720 hn725 hP hD hS hl
            refine lv_iload hx hb dX2_leftByRow_49 (lv_at hl 0 rfl) ?_
            refine lv_iload_n hx hb dX2_leftByRow_51 rfl (lv_at hl 4 rfl) ?_
            refine lv_icmp_ge (tgt := 95) hx hb dX2_leftByRow_52 (by decide) (fun c726 => ?_) (fun c726 => ?_)
            · have c726 := k_le (a := p2.toInt) (b := x720.toInt) rfl rfl c726
              refine lv_iload_n hx hb dX2_leftByRow_95 rfl (lv_at hl 1 rfl) ?_
              exact rt_i FX ((fun k => match k with | 0 => x721 | _ => 0), (fun k => match k with | 0 => x657 | _ => fun _ => 0), (fun _ => fun _ => 0)) rfl trivial (hP.sub [0, 1, 4, 2, 3] rfl) (hD.sub [0, 1, 4, 2, 3] (by decide) rfl) hS (Nat.le_of_ble_eq_true rfl) (Nat.le_of_ble_eq_true rfl) dX2_leftByRow_96
            · have c726 := k_nle (a := p2.toInt) (b := x720.toInt) rfl rfl c726
              refine lv_iconst (v := 0) hx hb dX2_leftByRow_55 (by decide) ?_
              refine lv_aload_n hx hb dX2_leftByRow_56 rfl (lv_at hl 2 rfl) ?_
              refine g_get (C := RX2) (T := TX2) (N := 4) (ci := 2) (v := .ref er2) FC hKn hP i_X2 0 rfl rfl 2 (by decide) b_195 rfl dX2_leftByRow_57 ?_
              refine lv_iload hx hb dX2_leftByRow_60 (lv_at hl 0 rfl) ?_
              refine va_iald hx hb hKn.1 hP 4 0 rfl rfl (vp_in_iff.mpr ⟨by omega, by omega⟩) dX2_leftByRow_62 ?_
              refine lv_topi (fun z727 e_z727 => ?_)
              refine va_mmax hx hb (by rw [hml]; exact hl.1.symm) hown (hB _ b_198) (hB _ b_57) (hB _ b_58) (hB _ b_59) (Nat.le_of_ble_eq_true rfl) (Nat.le_of_ble_eq_true rfl) (Nat.le_of_ble_eq_true rfl) (Nat.le_of_ble_eq_true rfl) dX2_leftByRow_63 ?_
              refine lv_topi (fun z728 e_z728 => ?_)
              have t_z728 : (((0 : Int32)).toInt ≤ z728.toInt ∧ z727.toInt ≤ z728.toInt ∧ (z728.toInt = ((0 : Int32)).toInt ∨ z728.toInt = z727.toInt)) := by rw [e_z728]; exact mmax_b _ _
              refine lv_istore (lv' := [(5, .int z728), (4, .int x720), (3, .int x721), (0, .ref h0), (1, .ref d0), (2, .int p2)]) hx hb dX2_leftByRow_66 hl (by decide) rfl (fun ls hl => ?_)
              refine lv_iload_n hx hb dX2_leftByRow_68 rfl (lv_at hl 2 rfl) ?_
              refine lv_aload_n hx hb dX2_leftByRow_69 rfl (lv_at hl 4 rfl) ?_
              refine lv_iload hx hb dX2_leftByRow_70 (lv_at hl 0 rfl) ?_
              refine lv_iload hx hb dX2_leftByRow_72 (lv_at hl 0 rfl) ?_
              refine lv_imul hx hb dX2_leftByRow_74 ?_
              refine lv_topi (fun z729 e_z729 => ?_)
              refine lv_aload_n hx hb dX2_leftByRow_75 rfl (lv_at hl 4 rfl) ?_
              refine g_getN (C := RX0) (T := TX0) (N := 20) (ci := 0) (v := .int ddays) FC hKn hP i_X0 2 rfl rfl 2 (by decide) b_199 rfl dX2_leftByRow_76 ?_
              refine lv_iconst (v := 1) hx hb dX2_leftByRow_79 (by decide) ?_
              refine lv_isub hx hb dX2_leftByRow_80 ?_
              have kc1 : (1 : Int32).toInt = 1 := by decide
              refine lv_topi (fun z730 e_z730 => ?_)
              have t_z730 : z730.toInt = ddays.toInt - ((1 : Int32)).toInt := by rw [e_z730]; exact fb_subI (by omega) (by omega)
              refine lv_iload hx hb dX2_leftByRow_81 (lv_at hl 1 rfl) ?_
              refine lv_isub hx hb dX2_leftByRow_83 ?_
              refine lv_topi (fun z731 e_z731 => ?_)
              have t_z731 : z731.toInt = z730.toInt - x720.toInt := by rw [e_z731]; exact fb_subI (by omega) (by omega)
              refine call_VN (As := [.int z729, .int z731]) (rest := [.int x721]) (wr := [(h0, .inr (2, [.ref er0, .ref er1, .ref er2, .int eleast])), (er0, .inl (g.2 0, 6, .inl esharedDays)), (dr8, .inl (g.2 0, 6, .inl dtidings)), (er2, .inl (g.2 0, 4, .inl x657))]) FC hKn hZ (k_X0_leftOf l g d0 dr0 dr1 dr2 dr3 dr4 dr5 dr6 dr7 dr8 dr9 dstates dreally ddays dheal dleak dlines dhearers dwords dplans dnews z729 z731 (by omega) (by omega) (by omega) (by omega) (by omega) (by omega) (by omega)) m_yX0_leftOf b_200 (ci := 0) rfl rfl rfl hP hD hS hA [2] [0, 1, 3, 4] rfl (by decide) rfl (by decide) (by decide) rfl hl.1 rfl (Nat.le_of_ble_eq_true rfl) dX2_leftByRow_84 ⟨(Nat.le_of_ble_eq_true rfl), (Nat.le_of_ble_eq_true rfl)⟩ ⟨(Nat.le_of_ble_eq_true rfl), (Nat.le_of_ble_eq_true rfl)⟩ (fun u732 H locs q733 hP hD hS => ?_)
              have hP : va_P g.1 vwCl [(h0, .inr (2, [.ref er0, .ref er1, .ref er2, .int eleast])), (er0, .inl (g.2 0, 6, .inl esharedDays)), (dr8, .inl (g.2 0, 6, .inl dtidings)), (er2, .inl (g.2 0, 4, .inl x657)), (d0, .inr (0, [.int dstates, .int dreally, .int ddays, .int dheal, .int dleak, .int dlines, .int dhearers, .int dwords, .int dplans, .int dnews, .ref dr0, .ref dr1, .ref dr2, .ref dr3, .ref dr4, .ref dr5, .ref dr6, .ref dr7, .ref dr8, .ref dr9]))] H := hP
              have hD : va_D A [(h0, .inr (2, [.ref er0, .ref er1, .ref er2, .int eleast])), (er0, .inl (g.2 0, 6, .inl esharedDays)), (dr8, .inl (g.2 0, 6, .inl dtidings)), (er2, .inl (g.2 0, 4, .inl x657)), (d0, .inr (0, [.int dstates, .int dreally, .int ddays, .int dheal, .int dleak, .int dlines, .int dhearers, .int dwords, .int dplans, .int dnews, .ref dr0, .ref dr1, .ref dr2, .ref dr3, .ref dr4, .ref dr5, .ref dr6, .ref dr7, .ref dr8, .ref dr9]))] := hD
              refine W.eq (g2 := F0 m 87 ls [.int (u732.1 0), .int x721]) rfl ?_
              refine lv_iadd hx hb dX2_leftByRow_87 ?_
              refine lv_topi (fun z734 e_z734 => ?_)
              refine lv_istore_n (lv' := [(3, .int z734), (5, .int z728), (4, .int x720), (0, .ref h0), (1, .ref d0), (2, .int p2)]) hx hb dX2_leftByRow_88 rfl hl (by decide) rfl (fun ls hl => ?_)
              obtain ⟨z735, e_z735⟩ : ∃ y : Int32, y = x720 + 1 := ⟨_, rfl⟩
              have t_z735 : z735.toInt = x720.toInt + 1 := by rw [e_z735]; exact addk (by decide) (by omega) (by omega)
              refine lv_iinc (v := z735) (lv' := [(4, .int z735), (3, .int z734), (5, .int z728), (0, .ref h0), (1, .ref d0), (2, .int p2)]) hx hb dX2_leftByRow_89 hl (k := 2) rfl (by rw [e_z735]; rfl) (by decide) rfl (fun ls hl => ?_)
              refine lv_goto (tgt := 49) hx hb dX2_leftByRow_92 (by decide) ?_
              exact ih723 z735 z734 _ _ ls (by omega) (by omega) (hP.sub [0, 1, 4, 2, 3] rfl) (hD.sub [0, 1, 4, 2, 3] (by decide) rfl) hS (lv_sub hl [0, 1, 3, 4, 5] rfl)
        exact lp722 _ (0 : Int32) (0 : Int32) _ _ ls (by decide) (Nat.lt_succ_self _) hP hD hS (lv_sub hl [0, 1, 2, 3, 4] rfl)
      · have c662 := k_nle (a := dnews.toInt) (b := x656.toInt) rfl rfl c662
        refine lv_aload_n hx hb dX2_leftByRow_18 rfl (lv_at hl 1 rfl) ?_
        refine g_get (C := RX2) (T := TX2) (N := 4) (ci := 2) (v := .ref er2) FC hKn hP i_X2 0 rfl rfl 2 (by decide) b_195 rfl dX2_leftByRow_19 ?_
        refine lv_aload_n hx hb dX2_leftByRow_22 rfl (lv_at hl 1 rfl) ?_
        refine g_get (C := RX2) (T := TX2) (N := 4) (ci := 2) (v := .ref er0) FC hKn hP i_X2 0 rfl rfl 0 (by decide) b_201 rfl dX2_leftByRow_23 ?_
        refine lv_iload_n hx hb dX2_leftByRow_26 rfl (lv_at hl 0 rfl) ?_
        refine va_iald hx hb hKn.1 hP 1 0 rfl rfl (vp_in_iff.mpr ⟨by omega, by omega⟩) dX2_leftByRow_27 ?_
        refine lv_topi (fun z736 e_z736 => ?_)
        have t_z736 : 0 ≤ z736.toInt ∧ z736.toInt ≤ 3 := by rw [e_z736]; exact i_esharedDays _ (clt (by omega) (by omega))
        refine lv_dup2_11 hx hb dX2_leftByRow_28 rfl rfl ?_
        refine va_iald hx hb hKn.1 hP 4 0 rfl rfl (vp_in_iff.mpr ⟨by omega, by omega⟩) dX2_leftByRow_29 ?_
        refine lv_topi (fun z737 e_z737 => ?_)
        refine lv_aload_n hx hb dX2_leftByRow_30 rfl (lv_at hl 2 rfl) ?_
        refine g_getN (C := RX0) (T := TX0) (N := 20) (ci := 0) (v := .ref dr8) FC hKn hP i_X0 2 rfl rfl 18 (by decide) b_202 rfl dX2_leftByRow_31 ?_
        refine lv_iload_n hx hb dX2_leftByRow_34 rfl (lv_at hl 0 rfl) ?_
        refine va_iald hx hb hKn.1 hP 3 0 rfl rfl (vp_in_iff.mpr ⟨by omega, by omega⟩) dX2_leftByRow_35 ?_
        refine lv_topi (fun z738 e_z738 => ?_)
        refine lv_isub hx hb dX2_leftByRow_36 ?_
        refine lv_topi (fun z739 e_z739 => ?_)
        refine va_iast hx hb hKn.1 hP hD hS 4 0 rfl rfl (vp_in_iff.mpr ⟨by omega, by omega⟩) dX2_leftByRow_37 (fun H locs hP hD hS => ?_)
        have hP : va_P g.1 vwCl [(h0, .inr (2, [.ref er0, .ref er1, .ref er2, .int eleast])), (er0, .inl (g.2 0, 6, .inl esharedDays)), (d0, .inr (0, [.int dstates, .int dreally, .int ddays, .int dheal, .int dleak, .int dlines, .int dhearers, .int dwords, .int dplans, .int dnews, .ref dr0, .ref dr1, .ref dr2, .ref dr3, .ref dr4, .ref dr5, .ref dr6, .ref dr7, .ref dr8, .ref dr9])), (dr8, .inl (g.2 0, 6, .inl dtidings)), (er2, .inl (g.2 0, 4, .inl (upd x657 (z736.toNatClampNeg) z739)))] H := hP
        have hD : va_D A [(h0, .inr (2, [.ref er0, .ref er1, .ref er2, .int eleast])), (er0, .inl (g.2 0, 6, .inl esharedDays)), (d0, .inr (0, [.int dstates, .int dreally, .int ddays, .int dheal, .int dleak, .int dlines, .int dhearers, .int dwords, .int dplans, .int dnews, .ref dr0, .ref dr1, .ref dr2, .ref dr3, .ref dr4, .ref dr5, .ref dr6, .ref dr7, .ref dr8, .ref dr9])), (dr8, .inl (g.2 0, 6, .inl dtidings)), (er2, .inl (g.2 0, 4, .inl (upd x657 (z736.toNatClampNeg) z739)))] := hD
        generalize (upd x657 (z736.toNatClampNeg) z739 : Nat → Int32) = f740 at hP hD
        obtain ⟨z741, e_z741⟩ : ∃ y : Int32, y = x656 + 1 := ⟨_, rfl⟩
        have t_z741 : z741.toInt = x656.toInt + 1 := by rw [e_z741]; exact addk (by decide) (by omega) (by omega)
        refine lv_iinc (v := z741) (lv' := [(3, .int z741), (0, .ref h0), (1, .ref d0), (2, .int p2)]) hx hb dX2_leftByRow_38 hl (k := 0) rfl (by rw [e_z741]; rfl) (by decide) rfl (fun ls hl => ?_)
        refine lv_goto (tgt := 10) hx hb dX2_leftByRow_41 (by decide) ?_
        exact ih659 z741 f740 _ _ ls (by omega) (by omega) hP hD hS (lv_sub hl [0, 1, 2, 3] rfl)
  exact lp658 _ (0 : Int32) (u1.2.1 0) _ _ ls (by decide) (Nat.lt_succ_self _) hP hD hS (lv_sub hl [0, 1, 2, 3] rfl)
set_option maxRecDepth 100000 in
set_option maxHeartbeats 4000000 in
theorem k_X2_nextRow (l : Launch) (g : GG) (h0 : Nat) (er0 : Nat) (er1 : Nat) (er2 : Nat) (eleast : Int32) (esharedDays : Nat → Int32) (p1 : Int32) (p2 : Int32) (i_esharedDays : ab esharedDays 6 0 3) (i_p1 : 0 ≤ p1.toInt ∧ p1.toInt ≤ 6) (i_p2 : 0 ≤ p2.toInt ∧ p2.toInt ≤ 4) : Ct l g yX2_nextRow cX2_nextRow 4 (some .boolean) { frames := 0, cells := 0, slots := 0, locals := 0 } [.ref h0, .int p1, .int p2] [(h0, .inr (2, [.ref er0, .ref er1, .ref er2, .int eleast])), (er0, .inl (g.2 0, 6, .inl esharedDays))] (S := (Nat → Int32) × (Nat → Nat → Int32) × (Nat → Nat → Int64)) (fun u => some (.int (u.1 0))) (fun u => (0 ≤ (u.1 0).toInt ∧ (u.1 0).toInt ≤ 1) ∧ (ab (u.2.1 0) 6 0 3)) (fun u => [(h0, .inr (2, [.ref er0, .ref er1, .ref er2, .int eleast])), (er0, .inl (g.2 0, 6, .inl (u.2.1 0)))]) := by
  refine Ct.of (by decide) (Nat.le_of_ble_eq_true rfl) ?_
  intro p e s m below meth c A ls FX hP hD hS hl
  obtain ⟨FC, hr, hlk, hKn, hA, hnm, hZ⟩ := id FX
  have FC : CallFix p m c cX2_nextRow 4 s _ BIG RX2 := FC
  obtain ⟨hx, hb, hml, hown, hB⟩ := id FC
  have hl : lv_has ls 4 [(0, .ref h0), (1, .int p1), (2, .int p2)] := hl
  refine lv_iload_n hx hb dX2_nextRow_0 rfl (lv_at hl 1 rfl) ?_
  refine lv_iconst (v := 1) hx hb dX2_nextRow_1 (by decide) ?_
  refine lv_isub hx hb dX2_nextRow_2 ?_
  have kc1 : (1 : Int32).toInt = 1 := by decide
  refine lv_topi (fun z1 e_z1 => ?_)
  have t_z1 : z1.toInt = p1.toInt - ((1 : Int32)).toInt := by rw [e_z1]; exact fb_subI (by omega) (by omega)
  refine lv_istore_n (lv' := [(3, .int z1), (0, .ref h0), (1, .int p1), (2, .int p2)]) hx hb dX2_nextRow_3 rfl hl (by decide) rfl (fun ls hl => ?_)
  have lp22 : ∀ (n24 : Nat) (x20 : Int32) (x21 : Nat → Int32) (H : Heap) (locs : List Loc) (ls : Array Slot), -1 ≤ x20.toInt ∧ x20.toInt ≤ 5 → ab x21 6 0 3 → (x20.toInt - (-1)).toNat < n24 → va_P g.1 vwCl [(h0, .inr (2, [.ref er0, .ref er1, .ref er2, .int eleast])), (er0, .inl (g.2 0, 6, .inl x21))] H → va_D A [(h0, .inr (2, [.ref er0, .ref er1, .ref er2, .int eleast])), (er0, .inl (g.2 0, 6, .inl x21))] → va_S A s.heap H locs → lv_has ls 4 [(3, .int x20), (0, .ref h0), (1, .int p1), (2, .int p2)] → W p l e { frames := 0, cells := 0, slots := 0, locals := 0 } s m ([.ref h0, .int p1, .int p2].toArray) below meth c H locs 0 0 (MQ below (QX (S := (Nat → Int32) × (Nat → Nat → Int32) × (Nat → Nat → Int64)) (fun u => some (.int (u.1 0))) (fun u => (0 ≤ (u.1 0).toInt ∧ (u.1 0).toInt ≤ 1) ∧ (ab (u.2.1 0) 6 0 3)) g (fun u => [(h0, .inr (2, [.ref er0, .ref er1, .ref er2, .int eleast])), (er0, .inl (g.2 0, 6, .inl (u.2.1 0)))]) A) ([.ref h0, .int p1, .int p2].toArray) s 0 0 A) (F0 m 4 ls []) := by
    intro n24
    induction n24 with
    | zero =>
      intro x20 x21 H locs ls h_x20 h_x21 hn25
      exact absurd hn25 (Nat.not_lt_zero _)
    | succ n24 ih23 =>
      intro x20 x21 H locs ls h_x20 h_x21 hn25 hP hD hS hl
      refine lv_iload_n hx hb dX2_nextRow_4 rfl (lv_at hl 0 rfl) ?_
      refine lv_if_lt (tgt := 45) hx hb dX2_nextRow_5 (by decide) (fun c26 => ?_) (fun c26 => ?_)
      · have c26 := k_lt (a := x20.toInt) (b := 0) rfl (by decide) c26
        refine lv_iconst (v := 0) hx hb dX2_nextRow_45 (by decide) ?_
        exact rt_z FX rfl ((fun k => match k with | 0 => (0 : Int32) | _ => 0), (fun k => match k with | 0 => x21 | _ => fun _ => 0), (fun _ => fun _ => 0)) rfl ⟨(show 0 ≤ ((0 : Int32)).toInt ∧ ((0 : Int32)).toInt ≤ 1 by decide), h_x21⟩ (hP.sub [0, 1] rfl) (hD.sub [0, 1] (by decide) rfl) hS (Nat.le_of_ble_eq_true rfl) (Nat.le_of_ble_eq_true rfl) dX2_nextRow_46
      · have c26 := k_nlt (a := x20.toInt) (b := 0) rfl (by decide) c26
        refine lv_aload_n hx hb dX2_nextRow_8 rfl (lv_at hl 1 rfl) ?_
        refine g_get (C := RX2) (T := TX2) (N := 4) (ci := 2) (v := .ref er0) FC hKn hP i_X2 0 rfl rfl 0 (by decide) b_201 rfl dX2_nextRow_9 ?_
        refine lv_iload_n hx hb dX2_nextRow_12 rfl (lv_at hl 0 rfl) ?_
        refine va_iald hx hb hKn.1 hP 1 0 rfl rfl (vp_in_iff.mpr ⟨by omega, by omega⟩) dX2_nextRow_13 ?_
        refine lv_topi (fun z27 e_z27 => ?_)
        have t_z27 : 0 ≤ z27.toInt ∧ z27.toInt ≤ 3 := by rw [e_z27]; exact h_x21 _ (clt (by omega) (by omega))
        refine lv_iload_n hx hb dX2_nextRow_14 rfl (lv_at hl 3 rfl) ?_
        refine lv_iconst (v := 1) hx hb dX2_nextRow_15 (by decide) ?_
        refine lv_isub hx hb dX2_nextRow_16 ?_
        refine lv_topi (fun z28 e_z28 => ?_)
        have t_z28 : z28.toInt = p2.toInt - ((1 : Int32)).toInt := by rw [e_z28]; exact fb_subI (by omega) (by omega)
        refine lv_icmp_ge (tgt := 32) hx hb dX2_nextRow_17 (by decide) (fun c29 => ?_) (fun c29 => ?_)
        · have c29 := k_le (a := z28.toInt) (b := z27.toInt) rfl rfl c29
          refine lv_aload_n hx hb dX2_nextRow_32 rfl (lv_at hl 1 rfl) ?_
          refine g_get (C := RX2) (T := TX2) (N := 4) (ci := 2) (v := .ref er0) FC hKn hP i_X2 0 rfl rfl 0 (by decide) b_201 rfl dX2_nextRow_33 ?_
          refine lv_iload_n hx hb dX2_nextRow_36 rfl (lv_at hl 0 rfl) ?_
          refine lv_iconst (v := 0) hx hb dX2_nextRow_37 (by decide) ?_
          refine va_iast hx hb hKn.1 hP hD hS 1 0 rfl rfl (vp_in_iff.mpr ⟨by omega, by omega⟩) dX2_nextRow_38 (fun H locs hP hD hS => ?_)
          have hP : va_P g.1 vwCl [(h0, .inr (2, [.ref er0, .ref er1, .ref er2, .int eleast])), (er0, .inl (g.2 0, 6, .inl (upd x21 (x20.toNatClampNeg) 0)))] H := hP
          have hD : va_D A [(h0, .inr (2, [.ref er0, .ref er1, .ref er2, .int eleast])), (er0, .inl (g.2 0, 6, .inl (upd x21 (x20.toNatClampNeg) 0)))] := hD
          have kc0 : (0 : Int32).toInt = 0 := by decide
          have a_f30 : ab (upd x21 (x20.toNatClampNeg) 0) 6 0 3 := ab_upd h_x21 (by decide) (by decide)
          generalize (upd x21 (x20.toNatClampNeg) 0 : Nat → Int32) = f30 at hP hD a_f30
          obtain ⟨z31, e_z31⟩ : ∃ y : Int32, y = x20 + (-1) := ⟨_, rfl⟩
          have t_z31 : z31.toInt = x20.toInt + (-1) := by rw [e_z31]; exact addk (by decide) (by omega) (by omega)
          refine lv_iinc (v := z31) (lv' := [(3, .int z31), (0, .ref h0), (1, .int p1), (2, .int p2)]) hx hb dX2_nextRow_39 hl (k := 0) rfl (by rw [e_z31]; rfl) (by decide) rfl (fun ls hl => ?_)
          refine lv_goto (tgt := 4) hx hb dX2_nextRow_42 (by decide) ?_
          exact ih23 z31 f30 _ _ ls (by omega) a_f30 (by omega) hP hD hS (lv_sub hl [0, 1, 2, 3] rfl)
        · have c29 := k_nle (a := z28.toInt) (b := z27.toInt) rfl rfl c29
          refine lv_aload_n hx hb dX2_nextRow_20 rfl (lv_at hl 1 rfl) ?_
          refine g_get (C := RX2) (T := TX2) (N := 4) (ci := 2) (v := .ref er0) FC hKn hP i_X2 0 rfl rfl 0 (by decide) b_201 rfl dX2_nextRow_21 ?_
          refine lv_iload_n hx hb dX2_nextRow_24 rfl (lv_at hl 0 rfl) ?_
          refine lv_dup2_11 hx hb dX2_nextRow_25 rfl rfl ?_
          refine va_iald hx hb hKn.1 hP 1 0 rfl rfl (vp_in_iff.mpr ⟨by omega, by omega⟩) dX2_nextRow_26 ?_
          refine tp_i (v := z27) e_z27.symm ?_
          refine lv_iconst (v := 1) hx hb dX2_nextRow_27 (by decide) ?_
          refine lv_iadd hx hb dX2_nextRow_28 ?_
          refine lv_topi (fun z32 e_z32 => ?_)
          have t_z32 : z32.toInt = z27.toInt + ((1 : Int32)).toInt := by rw [e_z32]; exact fb_addI (by omega) (by omega)
          refine va_iast hx hb hKn.1 hP hD hS 1 0 rfl rfl (vp_in_iff.mpr ⟨by omega, by omega⟩) dX2_nextRow_29 (fun H locs hP hD hS => ?_)
          have hP : va_P g.1 vwCl [(h0, .inr (2, [.ref er0, .ref er1, .ref er2, .int eleast])), (er0, .inl (g.2 0, 6, .inl (upd x21 (x20.toNatClampNeg) z32)))] H := hP
          have hD : va_D A [(h0, .inr (2, [.ref er0, .ref er1, .ref er2, .int eleast])), (er0, .inl (g.2 0, 6, .inl (upd x21 (x20.toNatClampNeg) z32)))] := hD
          have a_f33 : ab (upd x21 (x20.toNatClampNeg) z32) 6 0 3 := ab_upd h_x21 (by omega) (by omega)
          generalize (upd x21 (x20.toNatClampNeg) z32 : Nat → Int32) = f33 at hP hD a_f33
          refine lv_iconst (v := 1) hx hb dX2_nextRow_30 (by decide) ?_
          exact rt_z FX rfl ((fun k => match k with | 0 => (1 : Int32) | _ => 0), (fun k => match k with | 0 => f33 | _ => fun _ => 0), (fun _ => fun _ => 0)) rfl ⟨(show 0 ≤ ((1 : Int32)).toInt ∧ ((1 : Int32)).toInt ≤ 1 by decide), a_f33⟩ (hP.sub [0, 1] rfl) (hD.sub [0, 1] (by decide) rfl) hS (Nat.le_of_ble_eq_true rfl) (Nat.le_of_ble_eq_true rfl) dX2_nextRow_31
  exact lp22 _ z1 esharedDays _ _ ls (by omega) i_esharedDays (Nat.lt_succ_self _) hP hD hS (lv_sub hl [0, 1, 2, 3] rfl)
set_option maxRecDepth 100000 in
set_option maxHeartbeats 4000000 in
theorem k_X2_share (l : Launch) (g : GG) (h0 : Nat) (er0 : Nat) (er1 : Nat) (er2 : Nat) (d0 : Nat) (dr0 : Nat) (dr1 : Nat) (dr2 : Nat) (dr3 : Nat) (dr4 : Nat) (dr5 : Nat) (dr6 : Nat) (dr7 : Nat) (dr8 : Nat) (dr9 : Nat) (eleast : Int32) (esharedDays : Nat → Int32) (ebestDays : Nat → Int32) (esums : Nat → Int32) (dstates : Int32) (dreally : Int32) (ddays : Int32) (dheal : Int32) (dleak : Int32) (dlines : Int32) (dhearers : Int32) (dwords : Int32) (dplans : Int32) (dnews : Int32) (dtidings : Nat → Int32) (p2 : Int32) (i_esharedDays : ab esharedDays 6 0 3) (i_dstates : 0 ≤ dstates.toInt ∧ dstates.toInt ≤ 8) (i_dreally : 0 ≤ dreally.toInt ∧ dreally.toInt ≤ 7) (i_ddays : 0 ≤ ddays.toInt ∧ ddays.toInt ≤ 10) (i_dhearers : 0 ≤ dhearers.toInt ∧ dhearers.toInt ≤ 4) (i_dwords : 0 ≤ dwords.toInt ∧ dwords.toInt ≤ 8) (i_dplans : 0 ≤ dplans.toInt ∧ dplans.toInt ≤ 4) (i_dnews : 0 ≤ dnews.toInt ∧ dnews.toInt ≤ 6) (i_p2 : 1 ≤ p2.toInt ∧ p2.toInt ≤ 4) : Ct l g yX2_share cX2_share 7 none { frames := 3, cells := 0, slots := 0, locals := 61 } [.ref h0, .ref d0, .int p2] [(h0, .inr (2, [.ref er0, .ref er1, .ref er2, .int eleast])), (er0, .inl (g.2 0, 6, .inl esharedDays)), (er1, .inl (g.2 0, 6, .inl ebestDays)), (er2, .inl (g.2 0, 4, .inl esums)), (d0, .inr (0, [.int dstates, .int dreally, .int ddays, .int dheal, .int dleak, .int dlines, .int dhearers, .int dwords, .int dplans, .int dnews, .ref dr0, .ref dr1, .ref dr2, .ref dr3, .ref dr4, .ref dr5, .ref dr6, .ref dr7, .ref dr8, .ref dr9])), (dr8, .inl (g.2 0, 6, .inl dtidings))] (S := (Nat → Int32) × (Nat → Nat → Int32) × (Nat → Nat → Int64)) (fun _ => none) (fun u => (ab (u.2.1 0) 6 0 3)) (fun u => [(h0, .inr (2, [.ref er0, .ref er1, .ref er2, .int (u.1 1)])), (er0, .inl (g.2 0, 6, .inl (u.2.1 0))), (er1, .inl (g.2 0, 6, .inl (u.2.1 1))), (er2, .inl (g.2 0, 4, .inl (u.2.1 2))), (d0, .inr (0, [.int dstates, .int dreally, .int ddays, .int dheal, .int dleak, .int dlines, .int dhearers, .int dwords, .int dplans, .int dnews, .ref dr0, .ref dr1, .ref dr2, .ref dr3, .ref dr4, .ref dr5, .ref dr6, .ref dr7, .ref dr8, .ref dr9])), (dr8, .inl (g.2 0, 6, .inl dtidings))]) := by
  refine Ct.of (by decide) (Nat.le_of_ble_eq_true rfl) ?_
  intro p e s m below meth c A ls FX hP hD hS hl
  obtain ⟨FC, hr, hlk, hKn, hA, hnm, hZ⟩ := id FX
  have FC : CallFix p m c cX2_share 7 s _ BIG RX2 := FC
  obtain ⟨hx, hb, hml, hown, hB⟩ := id FC
  have hl : lv_has ls 7 [(0, .ref h0), (1, .ref d0), (2, .int p2)] := hl
  refine lv_iload_n hx hb dX2_share_0 rfl (lv_at hl 2 rfl) ?_
  refine lv_aload_n hx hb dX2_share_1 rfl (lv_at hl 1 rfl) ?_
  refine g_getN (C := RX0) (T := TX0) (N := 20) (ci := 0) (v := .int ddays) FC hKn hP i_X0 4 rfl rfl 2 (by decide) b_199 rfl dX2_share_2 ?_
  refine va_mmin hx hb (by rw [hml]; exact hl.1.symm) hown (hB _ b_203) (hB _ b_121) (hB _ b_58) (hB _ b_122) (Nat.le_of_ble_eq_true rfl) (Nat.le_of_ble_eq_true rfl) (Nat.le_of_ble_eq_true rfl) (Nat.le_of_ble_eq_true rfl) dX2_share_5 ?_
  refine lv_topi (fun z1 e_z1 => ?_)
  have t_z1 : (z1.toInt ≤ p2.toInt ∧ z1.toInt ≤ ddays.toInt ∧ (z1.toInt = p2.toInt ∨ z1.toInt = ddays.toInt)) := by rw [e_z1]; exact mmin_b _ _
  refine lv_iconst (v := 4) hx hb dX2_share_8 (by decide) ?_
  refine va_mmin hx hb (by rw [hml]; exact hl.1.symm) hown (hB _ b_203) (hB _ b_121) (hB _ b_58) (hB _ b_122) (Nat.le_of_ble_eq_true rfl) (Nat.le_of_ble_eq_true rfl) (Nat.le_of_ble_eq_true rfl) (Nat.le_of_ble_eq_true rfl) dX2_share_9 ?_
  have kc4 : (4 : Int32).toInt = 4 := by decide
  refine lv_topi (fun z2 e_z2 => ?_)
  have t_z2 : (z2.toInt ≤ z1.toInt ∧ z2.toInt ≤ ((4 : Int32)).toInt ∧ (z2.toInt = z1.toInt ∨ z2.toInt = ((4 : Int32)).toInt)) := by rw [e_z2]; exact mmin_b _ _
  refine lv_istore_n (lv' := [(3, .int z2), (0, .ref h0), (1, .ref d0), (2, .int p2)]) hx hb dX2_share_12 rfl hl (by decide) rfl (fun ls hl => ?_)
  refine lv_aload_n hx hb dX2_share_13 rfl (lv_at hl 1 rfl) ?_
  refine g_get (C := RX2) (T := TX2) (N := 4) (ci := 2) (v := .ref er0) FC hKn hP i_X2 0 rfl rfl 0 (by decide) b_201 rfl dX2_share_14 ?_
  refine lv_iconst (v := 0) hx hb dX2_share_17 (by decide) ?_
  have kc0 : (0 : Int32).toInt = 0 := by decide
  refine call_S (As := [.ref er0, .int 0]) (rest := []) (wr := [(h0, .inr (2, [.ref er0, .ref er1, .ref er2, .int eleast])), (er1, .inl (g.2 0, 6, .inl ebestDays)), (er2, .inl (g.2 0, 4, .inl esums)), (d0, .inr (0, [.int dstates, .int dreally, .int ddays, .int dheal, .int dleak, .int dlines, .int dhearers, .int dwords, .int dplans, .int dnews, .ref dr0, .ref dr1, .ref dr2, .ref dr3, .ref dr4, .ref dr5, .ref dr6, .ref dr7, .ref dr8, .ref dr9])), (dr8, .inl (g.2 0, 6, .inl dtidings))]) FC hKn hZ (k_fill_6b l g er0 esharedDays ((0 : Int32)) i_esharedDays (by omega)) m_yJ7_fill_53178 b_196 hP hD hS hA [1] [0, 2, 3, 4, 5] rfl (by decide) rfl (by decide) (by decide) rfl hl.1 rfl (Nat.le_of_ble_eq_true rfl) dX2_share_18 ⟨(Nat.le_of_ble_eq_true rfl), (Nat.le_of_ble_eq_true rfl)⟩ ⟨(Nat.le_of_ble_eq_true rfl), (Nat.le_of_ble_eq_true rfl)⟩ (fun u3 H locs q4 hP hD hS => ?_)
  have q4_0 : ab (u3.2.1 0) 6 0 3 := q4
  have hP : va_P g.1 vwCl [(h0, .inr (2, [.ref er0, .ref er1, .ref er2, .int eleast])), (er1, .inl (g.2 0, 6, .inl ebestDays)), (er2, .inl (g.2 0, 4, .inl esums)), (d0, .inr (0, [.int dstates, .int dreally, .int ddays, .int dheal, .int dleak, .int dlines, .int dhearers, .int dwords, .int dplans, .int dnews, .ref dr0, .ref dr1, .ref dr2, .ref dr3, .ref dr4, .ref dr5, .ref dr6, .ref dr7, .ref dr8, .ref dr9])), (dr8, .inl (g.2 0, 6, .inl dtidings)), (er0, .inl (g.2 0, 6, .inl (u3.2.1 0)))] H := hP
  have hD : va_D A [(h0, .inr (2, [.ref er0, .ref er1, .ref er2, .int eleast])), (er1, .inl (g.2 0, 6, .inl ebestDays)), (er2, .inl (g.2 0, 4, .inl esums)), (d0, .inr (0, [.int dstates, .int dreally, .int ddays, .int dheal, .int dleak, .int dlines, .int dhearers, .int dwords, .int dplans, .int dnews, .ref dr0, .ref dr1, .ref dr2, .ref dr3, .ref dr4, .ref dr5, .ref dr6, .ref dr7, .ref dr8, .ref dr9])), (dr8, .inl (g.2 0, 6, .inl dtidings)), (er0, .inl (g.2 0, 6, .inl (u3.2.1 0)))] := hD
  refine W.eq (g2 := F0 m 21 ls []) rfl ?_
  refine lv_aload_n hx hb dX2_share_21 rfl (lv_at hl 1 rfl) ?_
  refine lv_ldc hx hb hown (hB _ b_204) dX2_share_22 ?_
  refine g_put (C := RX2) (T := TX2) (N := 4) (ci := 2) (v := .int 1000000000) FC hKn hP hD hS i_X2 tyX2 tyX2_ok nmX2 0 rfl rfl 3 (by decide) b_205 rfl rfl rfl (Nat.le_of_ble_eq_true rfl) dX2_share_24 (fun H locs hP hD hS => ?_)
  have hP : va_P g.1 vwCl [(h0, .inr (2, [.ref er0, .ref er1, .ref er2, .int 1000000000])), (er1, .inl (g.2 0, 6, .inl ebestDays)), (er2, .inl (g.2 0, 4, .inl esums)), (d0, .inr (0, [.int dstates, .int dreally, .int ddays, .int dheal, .int dleak, .int dlines, .int dhearers, .int dwords, .int dplans, .int dnews, .ref dr0, .ref dr1, .ref dr2, .ref dr3, .ref dr4, .ref dr5, .ref dr6, .ref dr7, .ref dr8, .ref dr9])), (dr8, .inl (g.2 0, 6, .inl dtidings)), (er0, .inl (g.2 0, 6, .inl (u3.2.1 0)))] H := hP
  have hD : va_D A [(h0, .inr (2, [.ref er0, .ref er1, .ref er2, .int 1000000000])), (er1, .inl (g.2 0, 6, .inl ebestDays)), (er2, .inl (g.2 0, 4, .inl esums)), (d0, .inr (0, [.int dstates, .int dreally, .int ddays, .int dheal, .int dleak, .int dlines, .int dhearers, .int dwords, .int dplans, .int dnews, .ref dr0, .ref dr1, .ref dr2, .ref dr3, .ref dr4, .ref dr5, .ref dr6, .ref dr7, .ref dr8, .ref dr9])), (dr8, .inl (g.2 0, 6, .inl dtidings)), (er0, .inl (g.2 0, 6, .inl (u3.2.1 0)))] := hD
  refine lv_iconst (v := 1) hx hb dX2_share_27 (by decide) ?_
  refine lv_istore (lv' := [(4, .int 1), (3, .int z2), (0, .ref h0), (1, .ref d0), (2, .int p2)]) hx hb dX2_share_28 hl (by decide) rfl (fun ls hl => ?_)
  refine lv_iconst (v := 0) hx hb dX2_share_30 (by decide) ?_
  refine lv_istore (lv' := [(5, .int 0), (4, .int 1), (3, .int z2), (0, .ref h0), (1, .ref d0), (2, .int p2)]) hx hb dX2_share_31 hl (by decide) rfl (fun ls hl => ?_)
  have lp145 : ∀ (n147 : Nat) (x139 : Int32) (x140 : Int32) (x141 : Int32) (x142 : Nat → Int32) (x143 : Nat → Int32) (x144 : Nat → Int32) (H : Heap) (locs : List Loc) (ls : Array Slot), 0 ≤ x139.toInt ∧ x139.toInt ≤ 4096 → 0 ≤ x140.toInt ∧ x140.toInt ≤ 1 → x141.toInt ≤ 1000000000 → ab x144 6 0 3 → (4096 - x139.toInt).toNat < n147 → va_P g.1 vwCl [(h0, .inr (2, [.ref er0, .ref er1, .ref er2, .int x141])), (er1, .inl (g.2 0, 6, .inl x142)), (er2, .inl (g.2 0, 4, .inl x143)), (d0, .inr (0, [.int dstates, .int dreally, .int ddays, .int dheal, .int dleak, .int dlines, .int dhearers, .int dwords, .int dplans, .int dnews, .ref dr0, .ref dr1, .ref dr2, .ref dr3, .ref dr4, .ref dr5, .ref dr6, .ref dr7, .ref dr8, .ref dr9])), (dr8, .inl (g.2 0, 6, .inl dtidings)), (er0, .inl (g.2 0, 6, .inl x144))] H → va_D A [(h0, .inr (2, [.ref er0, .ref er1, .ref er2, .int x141])), (er1, .inl (g.2 0, 6, .inl x142)), (er2, .inl (g.2 0, 4, .inl x143)), (d0, .inr (0, [.int dstates, .int dreally, .int ddays, .int dheal, .int dleak, .int dlines, .int dhearers, .int dwords, .int dplans, .int dnews, .ref dr0, .ref dr1, .ref dr2, .ref dr3, .ref dr4, .ref dr5, .ref dr6, .ref dr7, .ref dr8, .ref dr9])), (dr8, .inl (g.2 0, 6, .inl dtidings)), (er0, .inl (g.2 0, 6, .inl x144))] → va_S A s.heap H locs → lv_has ls 7 [(5, .int x139), (4, .int x140), (3, .int z2), (0, .ref h0), (1, .ref d0), (2, .int p2)] → W p l e { frames := 3, cells := 0, slots := 0, locals := 61 } s m ([.ref h0, .ref d0, .int p2].toArray) below meth c H locs 0 0 (MQ below (QX (S := (Nat → Int32) × (Nat → Nat → Int32) × (Nat → Nat → Int64)) (fun _ => none) (fun u => (ab (u.2.1 0) 6 0 3)) g (fun u => [(h0, .inr (2, [.ref er0, .ref er1, .ref er2, .int (u.1 1)])), (er0, .inl (g.2 0, 6, .inl (u.2.1 0))), (er1, .inl (g.2 0, 6, .inl (u.2.1 1))), (er2, .inl (g.2 0, 4, .inl (u.2.1 2))), (d0, .inr (0, [.int dstates, .int dreally, .int ddays, .int dheal, .int dleak, .int dlines, .int dhearers, .int dwords, .int dplans, .int dnews, .ref dr0, .ref dr1, .ref dr2, .ref dr3, .ref dr4, .ref dr5, .ref dr6, .ref dr7, .ref dr8, .ref dr9])), (dr8, .inl (g.2 0, 6, .inl dtidings))]) A) ([.ref h0, .ref d0, .int p2].toArray) s 0 0 A) (F0 m 33 ls []) := by
    intro n147
    induction n147 with
    | zero =>
      intro x139 x140 x141 x142 x143 x144 H locs ls h_x139 h_x140 h_x141 h_x144 hn148
      exact absurd hn148 (Nat.not_lt_zero _)
    | succ n147 ih146 =>
      intro x139 x140 x141 x142 x143 x144 H locs ls h_x139 h_x140 h_x141 h_x144 hn148 hP hD hS hl
      refine lv_iload hx hb dX2_share_33 (lv_at hl 0 rfl) ?_
      refine lv_sipush (v := 4096) hx hb dX2_share_35 (by decide) ?_
      refine lv_icmp_ge (tgt := 101) hx hb dX2_share_38 (by decide) (fun c149 => ?_) (fun c149 => ?_)
      · have c149 := k_le (a := 4096) (b := x139.toInt) (by decide) rfl c149
        exact rt_v FX ((fun k => match k with | 0 => 0 | 1 => x141 | _ => 0), (fun k => match k with | 0 => x144 | 1 => x142 | 2 => x143 | _ => fun _ => 0), (fun _ => fun _ => 0)) rfl h_x144 (hP.sub [0, 5, 1, 2, 3, 4] rfl) (hD.sub [0, 5, 1, 2, 3, 4] (by decide) rfl) hS (Nat.le_of_ble_eq_true rfl) (Nat.le_of_ble_eq_true rfl) dX2_share_101
      · have c149 := k_nle (a := 4096) (b := x139.toInt) (by decide) rfl c149
        refine lv_iload hx hb dX2_share_41 (lv_at hl 1 rfl) ?_
        refine lv_if_eq (tgt := 101) hx hb dX2_share_43 (by decide) (fun c150 => ?_) (fun c150 => ?_)
        · have c150 := k_eq (a := x140.toInt) (b := 0) rfl (by decide) c150
          exact rt_v FX ((fun k => match k with | 0 => 0 | 1 => x141 | _ => 0), (fun k => match k with | 0 => x144 | 1 => x142 | 2 => x143 | _ => fun _ => 0), (fun _ => fun _ => 0)) rfl h_x144 (hP.sub [0, 5, 1, 2, 3, 4] rfl) (hD.sub [0, 5, 1, 2, 3, 4] (by decide) rfl) hS (Nat.le_of_ble_eq_true rfl) (Nat.le_of_ble_eq_true rfl) dX2_share_101
        · have c150 := k_ne (a := x140.toInt) (b := 0) rfl (by decide) c150
          refine lv_aload_n hx hb dX2_share_46 rfl (lv_at hl 3 rfl) ?_
          refine lv_aload_n hx hb dX2_share_47 rfl (lv_at hl 4 rfl) ?_
          refine lv_iload_n hx hb dX2_share_48 rfl (lv_at hl 2 rfl) ?_
          refine call_V (As := [.ref d0, .int z2]) (rest := []) (wr := [(er1, .inl (g.2 0, 6, .inl x142))]) FC hKn hZ (k_X2_leftByRow l g h0 er0 er1 er2 d0 dr0 dr1 dr2 dr3 dr4 dr5 dr6 dr7 dr8 dr9 x141 x144 x143 dstates dreally ddays dheal dleak dlines dhearers dwords dplans dnews dtidings z2 h_x144 (by omega) (by omega) (by omega) (by omega) (by omega) (by omega) (by omega) (by omega)) m_yX2_leftByRow b_206 (ci := 2) rfl rfl rfl hP hD hS hA [0, 5, 2, 3, 4] [1] rfl (by decide) rfl (by decide) (by decide) rfl hl.1 rfl (Nat.le_of_ble_eq_true rfl) dX2_share_49 ⟨(Nat.le_of_ble_eq_true rfl), (Nat.le_of_ble_eq_true rfl)⟩ ⟨(Nat.le_of_ble_eq_true rfl), (Nat.le_of_ble_eq_true rfl)⟩ (fun u151 H locs q152 hP hD hS => ?_)
          have hP : va_P g.1 vwCl [(er1, .inl (g.2 0, 6, .inl x142)), (h0, .inr (2, [.ref er0, .ref er1, .ref er2, .int x141])), (er0, .inl (g.2 0, 6, .inl x144)), (er2, .inl (g.2 0, 4, .inl (u151.2.1 0))), (d0, .inr (0, [.int dstates, .int dreally, .int ddays, .int dheal, .int dleak, .int dlines, .int dhearers, .int dwords, .int dplans, .int dnews, .ref dr0, .ref dr1, .ref dr2, .ref dr3, .ref dr4, .ref dr5, .ref dr6, .ref dr7, .ref dr8, .ref dr9])), (dr8, .inl (g.2 0, 6, .inl dtidings))] H := hP
          have hD : va_D A [(er1, .inl (g.2 0, 6, .inl x142)), (h0, .inr (2, [.ref er0, .ref er1, .ref er2, .int x141])), (er0, .inl (g.2 0, 6, .inl x144)), (er2, .inl (g.2 0, 4, .inl (u151.2.1 0))), (d0, .inr (0, [.int dstates, .int dreally, .int ddays, .int dheal, .int dleak, .int dlines, .int dhearers, .int dwords, .int dplans, .int dnews, .ref dr0, .ref dr1, .ref dr2, .ref dr3, .ref dr4, .ref dr5, .ref dr6, .ref dr7, .ref dr8, .ref dr9])), (dr8, .inl (g.2 0, 6, .inl dtidings))] := hD
          refine W.eq (g2 := F0 m 52 ls [.int (u151.1 0)]) rfl ?_
          refine lv_istore (lv' := [(6, .int (u151.1 0)), (5, .int x139), (4, .int x140), (3, .int z2), (0, .ref h0), (1, .ref d0), (2, .int p2)]) hx hb dX2_share_52 hl (by decide) rfl (fun ls hl => ?_)
          refine lv_iload hx hb dX2_share_54 (lv_at hl 0 rfl) ?_
          refine lv_aload_n hx hb dX2_share_56 rfl (lv_at hl 4 rfl) ?_
          refine g_get (C := RX2) (T := TX2) (N := 4) (ci := 2) (v := .int x141) FC hKn hP i_X2 1 rfl rfl 3 (by decide) b_205 rfl dX2_share_57 ?_
          refine lv_icmp_ge (tgt := 84) hx hb dX2_share_60 (by decide) (fun c153 => ?_) (fun c153 => ?_)
          · have c153 := k_le (a := x141.toInt) (b := (u151.1 0).toInt) rfl rfl c153
            refine lv_aload_n hx hb dX2_share_84 rfl (lv_at hl 4 rfl) ?_
            refine lv_aload_n hx hb dX2_share_85 rfl (lv_at hl 5 rfl) ?_
            refine g_getN (C := RX0) (T := TX0) (N := 20) (ci := 0) (v := .int dnews) FC hKn hP i_X0 4 rfl rfl 9 (by decide) b_197 rfl dX2_share_86 ?_
            refine lv_iload_n hx hb dX2_share_89 rfl (lv_at hl 3 rfl) ?_
            refine call_V (As := [.int dnews, .int z2]) (rest := []) (wr := [(er1, .inl (g.2 0, 6, .inl x142)), (er2, .inl (g.2 0, 4, .inl (u151.2.1 0))), (d0, .inr (0, [.int dstates, .int dreally, .int ddays, .int dheal, .int dleak, .int dlines, .int dhearers, .int dwords, .int dplans, .int dnews, .ref dr0, .ref dr1, .ref dr2, .ref dr3, .ref dr4, .ref dr5, .ref dr6, .ref dr7, .ref dr8, .ref dr9])), (dr8, .inl (g.2 0, 6, .inl dtidings))]) FC hKn hZ (k_X2_nextRow l g h0 er0 er1 er2 x141 x144 dnews z2 h_x144 (by omega) (by omega)) m_yX2_nextRow b_207 (ci := 2) rfl rfl rfl hP hD hS hA [1, 2] [0, 3, 4, 5] rfl (by decide) rfl (by decide) (by decide) rfl hl.1 rfl (Nat.le_of_ble_eq_true rfl) dX2_share_90 ⟨(Nat.le_of_ble_eq_true rfl), (Nat.le_of_ble_eq_true rfl)⟩ ⟨(Nat.le_of_ble_eq_true rfl), (Nat.le_of_ble_eq_true rfl)⟩ (fun u154 H locs q155 hP hD hS => ?_)
            obtain ⟨q155_0, q155_1⟩ := q155
            have hP : va_P g.1 vwCl [(er1, .inl (g.2 0, 6, .inl x142)), (er2, .inl (g.2 0, 4, .inl (u151.2.1 0))), (d0, .inr (0, [.int dstates, .int dreally, .int ddays, .int dheal, .int dleak, .int dlines, .int dhearers, .int dwords, .int dplans, .int dnews, .ref dr0, .ref dr1, .ref dr2, .ref dr3, .ref dr4, .ref dr5, .ref dr6, .ref dr7, .ref dr8, .ref dr9])), (dr8, .inl (g.2 0, 6, .inl dtidings)), (h0, .inr (2, [.ref er0, .ref er1, .ref er2, .int x141])), (er0, .inl (g.2 0, 6, .inl (u154.2.1 0)))] H := hP
            have hD : va_D A [(er1, .inl (g.2 0, 6, .inl x142)), (er2, .inl (g.2 0, 4, .inl (u151.2.1 0))), (d0, .inr (0, [.int dstates, .int dreally, .int ddays, .int dheal, .int dleak, .int dlines, .int dhearers, .int dwords, .int dplans, .int dnews, .ref dr0, .ref dr1, .ref dr2, .ref dr3, .ref dr4, .ref dr5, .ref dr6, .ref dr7, .ref dr8, .ref dr9])), (dr8, .inl (g.2 0, 6, .inl dtidings)), (h0, .inr (2, [.ref er0, .ref er1, .ref er2, .int x141])), (er0, .inl (g.2 0, 6, .inl (u154.2.1 0)))] := hD
            refine W.eq (g2 := F0 m 93 ls [.int (u154.1 0)]) rfl ?_
            refine lv_istore (lv' := [(4, .int (u154.1 0)), (6, .int (u151.1 0)), (5, .int x139), (3, .int z2), (0, .ref h0), (1, .ref d0), (2, .int p2)]) hx hb dX2_share_93 hl (by decide) rfl (fun ls hl => ?_)
            obtain ⟨z156, e_z156⟩ : ∃ y : Int32, y = x139 + 1 := ⟨_, rfl⟩
            have t_z156 : z156.toInt = x139.toInt + 1 := by rw [e_z156]; exact addk (by decide) (by omega) (by omega)
            refine lv_iinc (v := z156) (lv' := [(5, .int z156), (4, .int (u154.1 0)), (6, .int (u151.1 0)), (3, .int z2), (0, .ref h0), (1, .ref d0), (2, .int p2)]) hx hb dX2_share_95 hl (k := 2) rfl (by rw [e_z156]; rfl) (by decide) rfl (fun ls hl => ?_)
            refine lv_goto (tgt := 33) hx hb dX2_share_98 (by decide) ?_
            exact ih146 z156 (u154.1 0) x141 x142 (u151.2.1 0) (u154.2.1 0) _ _ ls (by omega) (by omega) (by omega) q155_1 (by omega) (hP.sub [4, 0, 1, 2, 3, 5] rfl) (hD.sub [4, 0, 1, 2, 3, 5] (by decide) rfl) hS (lv_sub hl [0, 1, 3, 4, 5, 6] rfl)
          · have c153 := k_nle (a := x141.toInt) (b := (u151.1 0).toInt) rfl rfl c153
            refine lv_aload_n hx hb dX2_share_63 rfl (lv_at hl 4 rfl) ?_
            refine lv_iload hx hb dX2_share_64 (lv_at hl 0 rfl) ?_
            refine g_put (C := RX2) (T := TX2) (N := 4) (ci := 2) (v := .int (u151.1 0)) FC hKn hP hD hS i_X2 tyX2 tyX2_ok nmX2 1 rfl rfl 3 (by decide) b_205 rfl rfl rfl (Nat.le_of_ble_eq_true rfl) dX2_share_66 (fun H locs hP hD hS => ?_)
            have hP : va_P g.1 vwCl [(er1, .inl (g.2 0, 6, .inl x142)), (h0, .inr (2, [.ref er0, .ref er1, .ref er2, .int (u151.1 0)])), (er0, .inl (g.2 0, 6, .inl x144)), (er2, .inl (g.2 0, 4, .inl (u151.2.1 0))), (d0, .inr (0, [.int dstates, .int dreally, .int ddays, .int dheal, .int dleak, .int dlines, .int dhearers, .int dwords, .int dplans, .int dnews, .ref dr0, .ref dr1, .ref dr2, .ref dr3, .ref dr4, .ref dr5, .ref dr6, .ref dr7, .ref dr8, .ref dr9])), (dr8, .inl (g.2 0, 6, .inl dtidings))] H := hP
            have hD : va_D A [(er1, .inl (g.2 0, 6, .inl x142)), (h0, .inr (2, [.ref er0, .ref er1, .ref er2, .int (u151.1 0)])), (er0, .inl (g.2 0, 6, .inl x144)), (er2, .inl (g.2 0, 4, .inl (u151.2.1 0))), (d0, .inr (0, [.int dstates, .int dreally, .int ddays, .int dheal, .int dleak, .int dlines, .int dhearers, .int dwords, .int dplans, .int dnews, .ref dr0, .ref dr1, .ref dr2, .ref dr3, .ref dr4, .ref dr5, .ref dr6, .ref dr7, .ref dr8, .ref dr9])), (dr8, .inl (g.2 0, 6, .inl dtidings))] := hD
            refine lv_aload_n hx hb dX2_share_69 rfl (lv_at hl 4 rfl) ?_
            refine g_get (C := RX2) (T := TX2) (N := 4) (ci := 2) (v := .ref er0) FC hKn hP i_X2 1 rfl rfl 0 (by decide) b_201 rfl dX2_share_70 ?_
            refine lv_iconst (v := 0) hx hb dX2_share_73 (by decide) ?_
            refine lv_aload_n hx hb dX2_share_74 rfl (lv_at hl 4 rfl) ?_
            refine g_get (C := RX2) (T := TX2) (N := 4) (ci := 2) (v := .ref er1) FC hKn hP i_X2 1 rfl rfl 1 (by decide) b_208 rfl dX2_share_75 ?_
            refine lv_iconst (v := 0) hx hb dX2_share_78 (by decide) ?_
            refine lv_bipush (v := 6) hx hb dX2_share_79 (by decide) ?_
            refine va_copyi hx hb (by rw [hml]; exact hl.1.symm) hown (hB _ b_209) (hB _ b_145) (hB _ b_146) (hB _ b_147) hKn.1 hP hD hS 2 0 0 0 rfl rfl rfl rfl rfl (by decide) (by decide) (by decide) (by decide) (by decide) (fun _ _ => rfl) (Nat.le_of_ble_eq_true rfl) (Nat.le_of_ble_eq_true rfl) dX2_share_81 (fun H locs hP hD hS => ?_)
            have hP : va_P g.1 vwCl [(er1, .inl (g.2 0, 6, .inl (va_cpy x144 x142 (0 : Int32).toNatClampNeg (0 : Int32).toNatClampNeg (6 : Int32).toNatClampNeg))), (h0, .inr (2, [.ref er0, .ref er1, .ref er2, .int (u151.1 0)])), (er0, .inl (g.2 0, 6, .inl x144)), (er2, .inl (g.2 0, 4, .inl (u151.2.1 0))), (d0, .inr (0, [.int dstates, .int dreally, .int ddays, .int dheal, .int dleak, .int dlines, .int dhearers, .int dwords, .int dplans, .int dnews, .ref dr0, .ref dr1, .ref dr2, .ref dr3, .ref dr4, .ref dr5, .ref dr6, .ref dr7, .ref dr8, .ref dr9])), (dr8, .inl (g.2 0, 6, .inl dtidings))] H := hP
            have hD : va_D A [(er1, .inl (g.2 0, 6, .inl (va_cpy x144 x142 (0 : Int32).toNatClampNeg (0 : Int32).toNatClampNeg (6 : Int32).toNatClampNeg))), (h0, .inr (2, [.ref er0, .ref er1, .ref er2, .int (u151.1 0)])), (er0, .inl (g.2 0, 6, .inl x144)), (er2, .inl (g.2 0, 4, .inl (u151.2.1 0))), (d0, .inr (0, [.int dstates, .int dreally, .int ddays, .int dheal, .int dleak, .int dlines, .int dhearers, .int dwords, .int dplans, .int dnews, .ref dr0, .ref dr1, .ref dr2, .ref dr3, .ref dr4, .ref dr5, .ref dr6, .ref dr7, .ref dr8, .ref dr9])), (dr8, .inl (g.2 0, 6, .inl dtidings))] := hD
            generalize (va_cpy x144 x142 (0 : Int32).toNatClampNeg (0 : Int32).toNatClampNeg (6 : Int32).toNatClampNeg : Nat → Int32) = f157 at hP hD
            refine lv_aload_n hx hb dX2_share_84 rfl (lv_at hl 4 rfl) ?_
            refine lv_aload_n hx hb dX2_share_85 rfl (lv_at hl 5 rfl) ?_
            refine g_getN (C := RX0) (T := TX0) (N := 20) (ci := 0) (v := .int dnews) FC hKn hP i_X0 4 rfl rfl 9 (by decide) b_197 rfl dX2_share_86 ?_
            refine lv_iload_n hx hb dX2_share_89 rfl (lv_at hl 3 rfl) ?_
            refine call_V (As := [.int dnews, .int z2]) (rest := []) (wr := [(er1, .inl (g.2 0, 6, .inl f157)), (er2, .inl (g.2 0, 4, .inl (u151.2.1 0))), (d0, .inr (0, [.int dstates, .int dreally, .int ddays, .int dheal, .int dleak, .int dlines, .int dhearers, .int dwords, .int dplans, .int dnews, .ref dr0, .ref dr1, .ref dr2, .ref dr3, .ref dr4, .ref dr5, .ref dr6, .ref dr7, .ref dr8, .ref dr9])), (dr8, .inl (g.2 0, 6, .inl dtidings))]) FC hKn hZ (k_X2_nextRow l g h0 er0 er1 er2 (u151.1 0) x144 dnews z2 h_x144 (by omega) (by omega)) m_yX2_nextRow b_207 (ci := 2) rfl rfl rfl hP hD hS hA [1, 2] [0, 3, 4, 5] rfl (by decide) rfl (by decide) (by decide) rfl hl.1 rfl (Nat.le_of_ble_eq_true rfl) dX2_share_90 ⟨(Nat.le_of_ble_eq_true rfl), (Nat.le_of_ble_eq_true rfl)⟩ ⟨(Nat.le_of_ble_eq_true rfl), (Nat.le_of_ble_eq_true rfl)⟩ (fun u158 H locs q159 hP hD hS => ?_)
            obtain ⟨q159_0, q159_1⟩ := q159
            have hP : va_P g.1 vwCl [(er1, .inl (g.2 0, 6, .inl f157)), (er2, .inl (g.2 0, 4, .inl (u151.2.1 0))), (d0, .inr (0, [.int dstates, .int dreally, .int ddays, .int dheal, .int dleak, .int dlines, .int dhearers, .int dwords, .int dplans, .int dnews, .ref dr0, .ref dr1, .ref dr2, .ref dr3, .ref dr4, .ref dr5, .ref dr6, .ref dr7, .ref dr8, .ref dr9])), (dr8, .inl (g.2 0, 6, .inl dtidings)), (h0, .inr (2, [.ref er0, .ref er1, .ref er2, .int (u151.1 0)])), (er0, .inl (g.2 0, 6, .inl (u158.2.1 0)))] H := hP
            have hD : va_D A [(er1, .inl (g.2 0, 6, .inl f157)), (er2, .inl (g.2 0, 4, .inl (u151.2.1 0))), (d0, .inr (0, [.int dstates, .int dreally, .int ddays, .int dheal, .int dleak, .int dlines, .int dhearers, .int dwords, .int dplans, .int dnews, .ref dr0, .ref dr1, .ref dr2, .ref dr3, .ref dr4, .ref dr5, .ref dr6, .ref dr7, .ref dr8, .ref dr9])), (dr8, .inl (g.2 0, 6, .inl dtidings)), (h0, .inr (2, [.ref er0, .ref er1, .ref er2, .int (u151.1 0)])), (er0, .inl (g.2 0, 6, .inl (u158.2.1 0)))] := hD
            refine W.eq (g2 := F0 m 93 ls [.int (u158.1 0)]) rfl ?_
            refine lv_istore (lv' := [(4, .int (u158.1 0)), (6, .int (u151.1 0)), (5, .int x139), (3, .int z2), (0, .ref h0), (1, .ref d0), (2, .int p2)]) hx hb dX2_share_93 hl (by decide) rfl (fun ls hl => ?_)
            obtain ⟨z160, e_z160⟩ : ∃ y : Int32, y = x139 + 1 := ⟨_, rfl⟩
            have t_z160 : z160.toInt = x139.toInt + 1 := by rw [e_z160]; exact addk (by decide) (by omega) (by omega)
            refine lv_iinc (v := z160) (lv' := [(5, .int z160), (4, .int (u158.1 0)), (6, .int (u151.1 0)), (3, .int z2), (0, .ref h0), (1, .ref d0), (2, .int p2)]) hx hb dX2_share_95 hl (k := 2) rfl (by rw [e_z160]; rfl) (by decide) rfl (fun ls hl => ?_)
            refine lv_goto (tgt := 33) hx hb dX2_share_98 (by decide) ?_
            exact ih146 z160 (u158.1 0) (u151.1 0) f157 (u151.2.1 0) (u158.2.1 0) _ _ ls (by omega) (by omega) (by omega) q159_1 (by omega) (hP.sub [4, 0, 1, 2, 3, 5] rfl) (hD.sub [4, 0, 1, 2, 3, 5] (by decide) rfl) hS (lv_sub hl [0, 1, 3, 4, 5, 6] rfl)
  have kc1 : (1 : Int32).toInt = 1 := by decide
  have kc1000000000 : (1000000000 : Int32).toInt = 1000000000 := by decide
  exact lp145 _ (0 : Int32) (1 : Int32) (1000000000 : Int32) ebestDays esums (u3.2.1 0) _ _ ls (by decide) (by decide) (by decide) q4_0 (Nat.lt_succ_self _) hP hD hS (lv_sub hl [0, 1, 2, 3, 4, 5] rfl)
set_option maxRecDepth 100000 in
set_option maxHeartbeats 4000000 in
theorem k_X10_believe (l : Launch) (g : GG) (h0 : Nat) (wr0 : Nat) (wr1 : Nat) (wr2 : Nat) (wr3 : Nat) (wr4 : Nat) (d0 : Nat) (dr0 : Nat) (dr1 : Nat) (dr2 : Nat) (dr3 : Nat) (dr4 : Nat) (dr5 : Nat) (dr6 : Nat) (dr7 : Nat) (dr8 : Nat) (dr9 : Nat) (wsize : Int32) (wleastOrdered : Int32) (wfitting : Int32) (wknowingDay : Int32) (wknowingPlan : Int32) (wwords : Nat → Int32) (wbeliefs : Nat → Int32) (dstates : Int32) (dreally : Int32) (ddays : Int32) (dheal : Int32) (dleak : Int32) (dlines : Int32) (dhearers : Int32) (dwords : Int32) (dplans : Int32) (dnews : Int32) (dmeanings : Nat → Int32) (i_wsize : 0 ≤ wsize.toInt ∧ wsize.toInt ≤ 10) (i_wknowingDay : -1 ≤ wknowingDay.toInt ∧ wknowingDay.toInt ≤ 9) (i_wknowingPlan : -1 ≤ wknowingPlan.toInt ∧ wknowingPlan.toInt ≤ 31) (i_wwords : ab wwords 10 0 8) (i_wbeliefs : ab wbeliefs 10 0 255) (i_dstates : 0 ≤ dstates.toInt ∧ dstates.toInt ≤ 8) (i_dreally : 0 ≤ dreally.toInt ∧ dreally.toInt ≤ 7) (i_ddays : 0 ≤ ddays.toInt ∧ ddays.toInt ≤ 10) (i_dhearers : 0 ≤ dhearers.toInt ∧ dhearers.toInt ≤ 4) (i_dwords : 0 ≤ dwords.toInt ∧ dwords.toInt ≤ 8) (i_dplans : 0 ≤ dplans.toInt ∧ dplans.toInt ≤ 4) (i_dnews : 0 ≤ dnews.toInt ∧ dnews.toInt ≤ 6) (i_dmeanings : ab dmeanings 8 0 255) : Ct l g yX10_believe cX10_believe 4 none { frames := 2, cells := 0, slots := 0, locals := 44 } [.ref h0, .ref d0] [(h0, .inr (10, [.ref wr0, .ref wr1, .ref wr2, .ref wr3, .ref wr4, .int wsize, .int wleastOrdered, .int wfitting, .int wknowingDay, .int wknowingPlan])), (wr0, .inl (g.2 0, 10, .inl wwords)), (wr1, .inl (g.2 0, 10, .inl wbeliefs)), (d0, .inr (0, [.int dstates, .int dreally, .int ddays, .int dheal, .int dleak, .int dlines, .int dhearers, .int dwords, .int dplans, .int dnews, .ref dr0, .ref dr1, .ref dr2, .ref dr3, .ref dr4, .ref dr5, .ref dr6, .ref dr7, .ref dr8, .ref dr9])), (dr5, .inl (g.2 0, 8, .inl dmeanings))] (S := (Nat → Int32) × (Nat → Nat → Int32) × (Nat → Nat → Int64)) (fun _ => none) (fun u => (ab (u.2.1 0) 10 0 255)) (fun u => [(h0, .inr (10, [.ref wr0, .ref wr1, .ref wr2, .ref wr3, .ref wr4, .int wsize, .int wleastOrdered, .int wfitting, .int wknowingDay, .int wknowingPlan])), (wr0, .inl (g.2 0, 10, .inl wwords)), (wr1, .inl (g.2 0, 10, .inl (u.2.1 0))), (d0, .inr (0, [.int dstates, .int dreally, .int ddays, .int dheal, .int dleak, .int dlines, .int dhearers, .int dwords, .int dplans, .int dnews, .ref dr0, .ref dr1, .ref dr2, .ref dr3, .ref dr4, .ref dr5, .ref dr6, .ref dr7, .ref dr8, .ref dr9])), (dr5, .inl (g.2 0, 8, .inl dmeanings))]) := by
  refine Ct.of (by decide) (Nat.le_of_ble_eq_true rfl) ?_
  intro p e s m below meth c A ls FX hP hD hS hl
  obtain ⟨FC, hr, hlk, hKn, hA, hnm, hZ⟩ := id FX
  have FC : CallFix p m c cX10_believe 4 s _ BIG RX10 := FC
  obtain ⟨hx, hb, hml, hown, hB⟩ := id FC
  have hl : lv_has ls 4 [(0, .ref h0), (1, .ref d0)] := hl
  refine lv_aload_n hx hb dX10_believe_0 rfl (lv_at hl 1 rfl) ?_
  refine call_VN (As := []) (rest := []) (wr := [(h0, .inr (10, [.ref wr0, .ref wr1, .ref wr2, .ref wr3, .ref wr4, .int wsize, .int wleastOrdered, .int wfitting, .int wknowingDay, .int wknowingPlan])), (wr0, .inl (g.2 0, 10, .inl wwords)), (wr1, .inl (g.2 0, 10, .inl wbeliefs)), (dr5, .inl (g.2 0, 8, .inl dmeanings))]) FC hKn hZ (k_X0_everything l g d0 dr0 dr1 dr2 dr3 dr4 dr5 dr6 dr7 dr8 dr9 dstates dreally ddays dheal dleak dlines dhearers dwords dplans dnews (by omega) (by omega) (by omega) (by omega) (by omega) (by omega) (by omega)) m_yX0_everything b_210 (ci := 0) rfl rfl rfl hP hD hS hA [3] [0, 1, 2, 4] rfl (by decide) rfl (by decide) (by decide) rfl hl.1 rfl (Nat.le_of_ble_eq_true rfl) dX10_believe_1 ⟨(Nat.le_of_ble_eq_true rfl), (Nat.le_of_ble_eq_true rfl)⟩ ⟨(Nat.le_of_ble_eq_true rfl), (Nat.le_of_ble_eq_true rfl)⟩ (fun u1 H locs q2 hP hD hS => ?_)
  have q2_0 : 0 ≤ (u1.1 0).toInt ∧ (u1.1 0).toInt ≤ 255 := q2
  have hP : va_P g.1 vwCl [(h0, .inr (10, [.ref wr0, .ref wr1, .ref wr2, .ref wr3, .ref wr4, .int wsize, .int wleastOrdered, .int wfitting, .int wknowingDay, .int wknowingPlan])), (wr0, .inl (g.2 0, 10, .inl wwords)), (wr1, .inl (g.2 0, 10, .inl wbeliefs)), (dr5, .inl (g.2 0, 8, .inl dmeanings)), (d0, .inr (0, [.int dstates, .int dreally, .int ddays, .int dheal, .int dleak, .int dlines, .int dhearers, .int dwords, .int dplans, .int dnews, .ref dr0, .ref dr1, .ref dr2, .ref dr3, .ref dr4, .ref dr5, .ref dr6, .ref dr7, .ref dr8, .ref dr9]))] H := hP
  have hD : va_D A [(h0, .inr (10, [.ref wr0, .ref wr1, .ref wr2, .ref wr3, .ref wr4, .int wsize, .int wleastOrdered, .int wfitting, .int wknowingDay, .int wknowingPlan])), (wr0, .inl (g.2 0, 10, .inl wwords)), (wr1, .inl (g.2 0, 10, .inl wbeliefs)), (dr5, .inl (g.2 0, 8, .inl dmeanings)), (d0, .inr (0, [.int dstates, .int dreally, .int ddays, .int dheal, .int dleak, .int dlines, .int dhearers, .int dwords, .int dplans, .int dnews, .ref dr0, .ref dr1, .ref dr2, .ref dr3, .ref dr4, .ref dr5, .ref dr6, .ref dr7, .ref dr8, .ref dr9]))] := hD
  refine W.eq (g2 := F0 m 4 ls [.int (u1.1 0)]) rfl ?_
  refine lv_istore_n (lv' := [(2, .int (u1.1 0)), (0, .ref h0), (1, .ref d0)]) hx hb dX10_believe_4 rfl hl (by decide) rfl (fun ls hl => ?_)
  refine lv_iconst (v := 0) hx hb dX10_believe_5 (by decide) ?_
  refine lv_istore_n (lv' := [(3, .int 0), (2, .int (u1.1 0)), (0, .ref h0), (1, .ref d0)]) hx hb dX10_believe_6 rfl hl (by decide) rfl (fun ls hl => ?_)
  have lp74 : ∀ (n76 : Nat) (x71 : Int32) (x72 : Int32) (x73 : Nat → Int32) (H : Heap) (locs : List Loc) (ls : Array Slot), 0 ≤ x71.toInt ∧ x71.toInt ≤ 10 → 0 ≤ x72.toInt ∧ x72.toInt ≤ 255 → ab x73 10 0 255 → (10 - x71.toInt).toNat < n76 → va_P g.1 vwCl [(h0, .inr (10, [.ref wr0, .ref wr1, .ref wr2, .ref wr3, .ref wr4, .int wsize, .int wleastOrdered, .int wfitting, .int wknowingDay, .int wknowingPlan])), (wr0, .inl (g.2 0, 10, .inl wwords)), (wr1, .inl (g.2 0, 10, .inl x73)), (dr5, .inl (g.2 0, 8, .inl dmeanings)), (d0, .inr (0, [.int dstates, .int dreally, .int ddays, .int dheal, .int dleak, .int dlines, .int dhearers, .int dwords, .int dplans, .int dnews, .ref dr0, .ref dr1, .ref dr2, .ref dr3, .ref dr4, .ref dr5, .ref dr6, .ref dr7, .ref dr8, .ref dr9]))] H → va_D A [(h0, .inr (10, [.ref wr0, .ref wr1, .ref wr2, .ref wr3, .ref wr4, .int wsize, .int wleastOrdered, .int wfitting, .int wknowingDay, .int wknowingPlan])), (wr0, .inl (g.2 0, 10, .inl wwords)), (wr1, .inl (g.2 0, 10, .inl x73)), (dr5, .inl (g.2 0, 8, .inl dmeanings)), (d0, .inr (0, [.int dstates, .int dreally, .int ddays, .int dheal, .int dleak, .int dlines, .int dhearers, .int dwords, .int dplans, .int dnews, .ref dr0, .ref dr1, .ref dr2, .ref dr3, .ref dr4, .ref dr5, .ref dr6, .ref dr7, .ref dr8, .ref dr9]))] → va_S A s.heap H locs → lv_has ls 4 [(3, .int x71), (2, .int x72), (0, .ref h0), (1, .ref d0)] → W p l e { frames := 2, cells := 0, slots := 0, locals := 44 } s m ([.ref h0, .ref d0].toArray) below meth c H locs 0 0 (MQ below (QX (S := (Nat → Int32) × (Nat → Nat → Int32) × (Nat → Nat → Int64)) (fun _ => none) (fun u => (ab (u.2.1 0) 10 0 255)) g (fun u => [(h0, .inr (10, [.ref wr0, .ref wr1, .ref wr2, .ref wr3, .ref wr4, .int wsize, .int wleastOrdered, .int wfitting, .int wknowingDay, .int wknowingPlan])), (wr0, .inl (g.2 0, 10, .inl wwords)), (wr1, .inl (g.2 0, 10, .inl (u.2.1 0))), (d0, .inr (0, [.int dstates, .int dreally, .int ddays, .int dheal, .int dleak, .int dlines, .int dhearers, .int dwords, .int dplans, .int dnews, .ref dr0, .ref dr1, .ref dr2, .ref dr3, .ref dr4, .ref dr5, .ref dr6, .ref dr7, .ref dr8, .ref dr9])), (dr5, .inl (g.2 0, 8, .inl dmeanings))]) A) ([.ref h0, .ref d0].toArray) s 0 0 A) (F0 m 7 ls []) := by
    intro n76
    induction n76 with
    | zero =>
      intro x71 x72 x73 H locs ls h_x71 h_x72 h_x73 hn77
      exact absurd hn77 (Nat.not_lt_zero _)
    | succ n76 ih75 =>
      intro x71 x72 x73 H locs ls h_x71 h_x72 h_x73 hn77 hP hD hS hl
      refine lv_iload_n hx hb dX10_believe_7 rfl (lv_at hl 0 rfl) ?_
      refine lv_aload_n hx hb dX10_believe_8 rfl (lv_at hl 2 rfl) ?_
      refine g_get (C := RX10) (T := TX10) (N := 10) (ci := 10) (v := .int wsize) FC hKn hP i_X10 0 rfl rfl 5 (by decide) b_211 rfl dX10_believe_9 ?_
      refine lv_icmp_ge (tgt := 40) hx hb dX10_believe_12 (by decide) (fun c78 => ?_) (fun c78 => ?_)
      · have c78 := k_le (a := wsize.toInt) (b := x71.toInt) rfl rfl c78
        exact rt_v FX ((fun k => match k with | 0 => 0 | _ => 0), (fun k => match k with | 0 => x73 | _ => fun _ => 0), (fun _ => fun _ => 0)) rfl h_x73 (hP.sub [0, 1, 2, 4, 3] rfl) (hD.sub [0, 1, 2, 4, 3] (by decide) rfl) hS (Nat.le_of_ble_eq_true rfl) (Nat.le_of_ble_eq_true rfl) dX10_believe_40
      · have c78 := k_nle (a := wsize.toInt) (b := x71.toInt) rfl rfl c78
        refine lv_aload_n hx hb dX10_believe_15 rfl (lv_at hl 3 rfl) ?_
        refine lv_iload_n hx hb dX10_believe_16 rfl (lv_at hl 1 rfl) ?_
        refine lv_aload_n hx hb dX10_believe_17 rfl (lv_at hl 2 rfl) ?_
        refine g_get (C := RX10) (T := TX10) (N := 10) (ci := 10) (v := .ref wr0) FC hKn hP i_X10 0 rfl rfl 0 (by decide) b_212 rfl dX10_believe_18 ?_
        refine lv_iload_n hx hb dX10_believe_21 rfl (lv_at hl 0 rfl) ?_
        refine va_iald hx hb hKn.1 hP 1 0 rfl rfl (vp_in_iff.mpr ⟨by omega, by omega⟩) dX10_believe_22 ?_
        refine lv_topi (fun z79 e_z79 => ?_)
        have t_z79 : 0 ≤ z79.toInt ∧ z79.toInt ≤ 8 := by rw [e_z79]; exact i_wwords _ (clt (by omega) (by omega))
        refine call_VN (As := [.int x72, .int z79]) (rest := []) (wr := [(h0, .inr (10, [.ref wr0, .ref wr1, .ref wr2, .ref wr3, .ref wr4, .int wsize, .int wleastOrdered, .int wfitting, .int wknowingDay, .int wknowingPlan])), (wr0, .inl (g.2 0, 10, .inl wwords)), (wr1, .inl (g.2 0, 10, .inl x73))]) FC hKn hZ (k_X0_nextBelief l g d0 dr0 dr1 dr2 dr3 dr4 dr5 dr6 dr7 dr8 dr9 dstates dreally ddays dheal dleak dlines dhearers dwords dplans dnews dmeanings x72 z79 (by omega) (by omega) (by omega) (by omega) (by omega) (by omega) (by omega) i_dmeanings (by omega)) m_yX0_nextBelief b_213 (ci := 0) rfl rfl rfl hP hD hS hA [4, 3] [0, 1, 2] rfl (by decide) rfl (by decide) (by decide) rfl hl.1 rfl (Nat.le_of_ble_eq_true rfl) dX10_believe_23 ⟨(Nat.le_of_ble_eq_true rfl), (Nat.le_of_ble_eq_true rfl)⟩ ⟨(Nat.le_of_ble_eq_true rfl), (Nat.le_of_ble_eq_true rfl)⟩ (fun u80 H locs q81 hP hD hS => ?_)
        have q81_0 : 0 ≤ (u80.1 0).toInt ∧ (u80.1 0).toInt ≤ 255 := q81
        have hP : va_P g.1 vwCl [(h0, .inr (10, [.ref wr0, .ref wr1, .ref wr2, .ref wr3, .ref wr4, .int wsize, .int wleastOrdered, .int wfitting, .int wknowingDay, .int wknowingPlan])), (wr0, .inl (g.2 0, 10, .inl wwords)), (wr1, .inl (g.2 0, 10, .inl x73)), (d0, .inr (0, [.int dstates, .int dreally, .int ddays, .int dheal, .int dleak, .int dlines, .int dhearers, .int dwords, .int dplans, .int dnews, .ref dr0, .ref dr1, .ref dr2, .ref dr3, .ref dr4, .ref dr5, .ref dr6, .ref dr7, .ref dr8, .ref dr9])), (dr5, .inl (g.2 0, 8, .inl dmeanings))] H := hP
        have hD : va_D A [(h0, .inr (10, [.ref wr0, .ref wr1, .ref wr2, .ref wr3, .ref wr4, .int wsize, .int wleastOrdered, .int wfitting, .int wknowingDay, .int wknowingPlan])), (wr0, .inl (g.2 0, 10, .inl wwords)), (wr1, .inl (g.2 0, 10, .inl x73)), (d0, .inr (0, [.int dstates, .int dreally, .int ddays, .int dheal, .int dleak, .int dlines, .int dhearers, .int dwords, .int dplans, .int dnews, .ref dr0, .ref dr1, .ref dr2, .ref dr3, .ref dr4, .ref dr5, .ref dr6, .ref dr7, .ref dr8, .ref dr9])), (dr5, .inl (g.2 0, 8, .inl dmeanings))] := hD
        refine W.eq (g2 := F0 m 26 ls [.int (u80.1 0)]) rfl ?_
        refine lv_istore_n (lv' := [(2, .int (u80.1 0)), (3, .int x71), (0, .ref h0), (1, .ref d0)]) hx hb dX10_believe_26 rfl hl (by decide) rfl (fun ls hl => ?_)
        refine lv_aload_n hx hb dX10_believe_27 rfl (lv_at hl 2 rfl) ?_
        refine g_get (C := RX10) (T := TX10) (N := 10) (ci := 10) (v := .ref wr1) FC hKn hP i_X10 0 rfl rfl 1 (by decide) b_214 rfl dX10_believe_28 ?_
        refine lv_iload_n hx hb dX10_believe_31 rfl (lv_at hl 1 rfl) ?_
        refine lv_iload_n hx hb dX10_believe_32 rfl (lv_at hl 0 rfl) ?_
        refine va_iast hx hb hKn.1 hP hD hS 2 0 rfl rfl (vp_in_iff.mpr ⟨by omega, by omega⟩) dX10_believe_33 (fun H locs hP hD hS => ?_)
        have hP : va_P g.1 vwCl [(h0, .inr (10, [.ref wr0, .ref wr1, .ref wr2, .ref wr3, .ref wr4, .int wsize, .int wleastOrdered, .int wfitting, .int wknowingDay, .int wknowingPlan])), (wr0, .inl (g.2 0, 10, .inl wwords)), (wr1, .inl (g.2 0, 10, .inl (upd x73 (x71.toNatClampNeg) (u80.1 0)))), (d0, .inr (0, [.int dstates, .int dreally, .int ddays, .int dheal, .int dleak, .int dlines, .int dhearers, .int dwords, .int dplans, .int dnews, .ref dr0, .ref dr1, .ref dr2, .ref dr3, .ref dr4, .ref dr5, .ref dr6, .ref dr7, .ref dr8, .ref dr9])), (dr5, .inl (g.2 0, 8, .inl dmeanings))] H := hP
        have hD : va_D A [(h0, .inr (10, [.ref wr0, .ref wr1, .ref wr2, .ref wr3, .ref wr4, .int wsize, .int wleastOrdered, .int wfitting, .int wknowingDay, .int wknowingPlan])), (wr0, .inl (g.2 0, 10, .inl wwords)), (wr1, .inl (g.2 0, 10, .inl (upd x73 (x71.toNatClampNeg) (u80.1 0)))), (d0, .inr (0, [.int dstates, .int dreally, .int ddays, .int dheal, .int dleak, .int dlines, .int dhearers, .int dwords, .int dplans, .int dnews, .ref dr0, .ref dr1, .ref dr2, .ref dr3, .ref dr4, .ref dr5, .ref dr6, .ref dr7, .ref dr8, .ref dr9])), (dr5, .inl (g.2 0, 8, .inl dmeanings))] := hD
        have a_f82 : ab (upd x73 (x71.toNatClampNeg) (u80.1 0)) 10 0 255 := ab_upd h_x73 (by omega) (by omega)
        generalize (upd x73 (x71.toNatClampNeg) (u80.1 0) : Nat → Int32) = f82 at hP hD a_f82
        obtain ⟨z83, e_z83⟩ : ∃ y : Int32, y = x71 + 1 := ⟨_, rfl⟩
        have t_z83 : z83.toInt = x71.toInt + 1 := by rw [e_z83]; exact addk (by decide) (by omega) (by omega)
        refine lv_iinc (v := z83) (lv' := [(3, .int z83), (2, .int (u80.1 0)), (0, .ref h0), (1, .ref d0)]) hx hb dX10_believe_34 hl (k := 1) rfl (by rw [e_z83]; rfl) (by decide) rfl (fun ls hl => ?_)
        refine lv_goto (tgt := 7) hx hb dX10_believe_37 (by decide) ?_
        exact ih75 z83 (u80.1 0) f82 _ _ ls (by omega) (by omega) a_f82 (by omega) (hP.sub [0, 1, 2, 4, 3] rfl) (hD.sub [0, 1, 2, 4, 3] (by decide) rfl) hS (lv_sub hl [0, 1, 2, 3] rfl)
  have kc0 : (0 : Int32).toInt = 0 := by decide
  exact lp74 _ (0 : Int32) (u1.1 0) wbeliefs _ _ ls (by decide) (by omega) i_wbeliefs (Nat.lt_succ_self _) hP hD hS (lv_sub hl [0, 1, 2, 3] rfl)
set_option maxRecDepth 100000 in
set_option maxHeartbeats 4000000 in
theorem k_X10_lastBelief (l : Launch) (g : GG) (h0 : Nat) (wr0 : Nat) (wr1 : Nat) (wr2 : Nat) (wr3 : Nat) (wr4 : Nat) (d0 : Nat) (dr0 : Nat) (dr1 : Nat) (dr2 : Nat) (dr3 : Nat) (dr4 : Nat) (dr5 : Nat) (dr6 : Nat) (dr7 : Nat) (dr8 : Nat) (dr9 : Nat) (wsize : Int32) (wleastOrdered : Int32) (wfitting : Int32) (wknowingDay : Int32) (wknowingPlan : Int32) (wbeliefs : Nat → Int32) (dstates : Int32) (dreally : Int32) (ddays : Int32) (dheal : Int32) (dleak : Int32) (dlines : Int32) (dhearers : Int32) (dwords : Int32) (dplans : Int32) (dnews : Int32) (i_wsize : 0 ≤ wsize.toInt ∧ wsize.toInt ≤ 10) (i_wknowingDay : -1 ≤ wknowingDay.toInt ∧ wknowingDay.toInt ≤ 9) (i_wknowingPlan : -1 ≤ wknowingPlan.toInt ∧ wknowingPlan.toInt ≤ 31) (i_wbeliefs : ab wbeliefs 10 0 255) (i_dstates : 0 ≤ dstates.toInt ∧ dstates.toInt ≤ 8) (i_dreally : 0 ≤ dreally.toInt ∧ dreally.toInt ≤ 7) (i_ddays : 0 ≤ ddays.toInt ∧ ddays.toInt ≤ 10) (i_dhearers : 0 ≤ dhearers.toInt ∧ dhearers.toInt ≤ 4) (i_dwords : 0 ≤ dwords.toInt ∧ dwords.toInt ≤ 8) (i_dplans : 0 ≤ dplans.toInt ∧ dplans.toInt ≤ 4) (i_dnews : 0 ≤ dnews.toInt ∧ dnews.toInt ≤ 6) : Ct l g yX10_lastBelief cX10_lastBelief 2 (some .int) { frames := 1, cells := 0, slots := 0, locals := 20 } [.ref h0, .ref d0] [(h0, .inr (10, [.ref wr0, .ref wr1, .ref wr2, .ref wr3, .ref wr4, .int wsize, .int wleastOrdered, .int wfitting, .int wknowingDay, .int wknowingPlan])), (wr1, .inl (g.2 0, 10, .inl wbeliefs)), (d0, .inr (0, [.int dstates, .int dreally, .int ddays, .int dheal, .int dleak, .int dlines, .int dhearers, .int dwords, .int dplans, .int dnews, .ref dr0, .ref dr1, .ref dr2, .ref dr3, .ref dr4, .ref dr5, .ref dr6, .ref dr7, .ref dr8, .ref dr9]))] (S := (Nat → Int32) × (Nat → Nat → Int32) × (Nat → Nat → Int64)) (fun u => some (.int (u.1 0))) (fun u => (0 ≤ (u.1 0).toInt ∧ (u.1 0).toInt ≤ 255)) (fun u => [(h0, .inr (10, [.ref wr0, .ref wr1, .ref wr2, .ref wr3, .ref wr4, .int wsize, .int wleastOrdered, .int wfitting, .int wknowingDay, .int wknowingPlan])), (wr1, .inl (g.2 0, 10, .inl wbeliefs)), (d0, .inr (0, [.int dstates, .int dreally, .int ddays, .int dheal, .int dleak, .int dlines, .int dhearers, .int dwords, .int dplans, .int dnews, .ref dr0, .ref dr1, .ref dr2, .ref dr3, .ref dr4, .ref dr5, .ref dr6, .ref dr7, .ref dr8, .ref dr9]))]) := by
  refine Ct.of (by decide) (Nat.le_of_ble_eq_true rfl) ?_
  intro p e s m below meth c A ls FX hP hD hS hl
  obtain ⟨FC, hr, hlk, hKn, hA, hnm, hZ⟩ := id FX
  have FC : CallFix p m c cX10_lastBelief 2 s _ BIG RX10 := FC
  obtain ⟨hx, hb, hml, hown, hB⟩ := id FC
  have hl : lv_has ls 2 [(0, .ref h0), (1, .ref d0)] := hl
  refine lv_aload_n hx hb dX10_lastBelief_0 rfl (lv_at hl 0 rfl) ?_
  refine g_get (C := RX10) (T := TX10) (N := 10) (ci := 10) (v := .int wsize) FC hKn hP i_X10 0 rfl rfl 5 (by decide) b_211 rfl dX10_lastBelief_1 ?_
  refine lv_if_le (tgt := 21) hx hb dX10_lastBelief_4 (by decide) (fun c1 => ?_) (fun c1 => ?_)
  · have c1 := k_le (a := wsize.toInt) (b := 0) rfl (by decide) c1
    refine lv_aload_n hx hb dX10_lastBelief_21 rfl (lv_at hl 1 rfl) ?_
    refine call_VN (As := []) (rest := []) (wr := [(h0, .inr (10, [.ref wr0, .ref wr1, .ref wr2, .ref wr3, .ref wr4, .int wsize, .int wleastOrdered, .int wfitting, .int wknowingDay, .int wknowingPlan])), (wr1, .inl (g.2 0, 10, .inl wbeliefs))]) FC hKn hZ (k_X0_everything l g d0 dr0 dr1 dr2 dr3 dr4 dr5 dr6 dr7 dr8 dr9 dstates dreally ddays dheal dleak dlines dhearers dwords dplans dnews (by omega) (by omega) (by omega) (by omega) (by omega) (by omega) (by omega)) m_yX0_everything b_210 (ci := 0) rfl rfl rfl hP hD hS hA [2] [0, 1] rfl (by decide) rfl (by decide) (by decide) rfl hl.1 rfl (Nat.le_of_ble_eq_true rfl) dX10_lastBelief_22 ⟨(Nat.le_of_ble_eq_true rfl), (Nat.le_of_ble_eq_true rfl)⟩ ⟨(Nat.le_of_ble_eq_true rfl), (Nat.le_of_ble_eq_true rfl)⟩ (fun u2 H locs q3 hP hD hS => ?_)
    have q3_0 : 0 ≤ (u2.1 0).toInt ∧ (u2.1 0).toInt ≤ 255 := q3
    have hP : va_P g.1 vwCl [(h0, .inr (10, [.ref wr0, .ref wr1, .ref wr2, .ref wr3, .ref wr4, .int wsize, .int wleastOrdered, .int wfitting, .int wknowingDay, .int wknowingPlan])), (wr1, .inl (g.2 0, 10, .inl wbeliefs)), (d0, .inr (0, [.int dstates, .int dreally, .int ddays, .int dheal, .int dleak, .int dlines, .int dhearers, .int dwords, .int dplans, .int dnews, .ref dr0, .ref dr1, .ref dr2, .ref dr3, .ref dr4, .ref dr5, .ref dr6, .ref dr7, .ref dr8, .ref dr9]))] H := hP
    have hD : va_D A [(h0, .inr (10, [.ref wr0, .ref wr1, .ref wr2, .ref wr3, .ref wr4, .int wsize, .int wleastOrdered, .int wfitting, .int wknowingDay, .int wknowingPlan])), (wr1, .inl (g.2 0, 10, .inl wbeliefs)), (d0, .inr (0, [.int dstates, .int dreally, .int ddays, .int dheal, .int dleak, .int dlines, .int dhearers, .int dwords, .int dplans, .int dnews, .ref dr0, .ref dr1, .ref dr2, .ref dr3, .ref dr4, .ref dr5, .ref dr6, .ref dr7, .ref dr8, .ref dr9]))] := hD
    refine W.eq (g2 := F0 m 25 ls [.int (u2.1 0)]) rfl ?_
    exact rt_i FX ((fun k => match k with | 0 => u2.1 0 | _ => 0), (fun _ => fun _ => 0), (fun _ => fun _ => 0)) rfl (show 0 ≤ (u2.1 0).toInt ∧ (u2.1 0).toInt ≤ 255 by omega) (hP.sub [0, 1, 2] rfl) (hD.sub [0, 1, 2] (by decide) rfl) hS (Nat.le_of_ble_eq_true rfl) (Nat.le_of_ble_eq_true rfl) dX10_lastBelief_25
  · have c1 := k_nle (a := wsize.toInt) (b := 0) rfl (by decide) c1
    refine lv_aload_n hx hb dX10_lastBelief_7 rfl (lv_at hl 0 rfl) ?_
    refine g_get (C := RX10) (T := TX10) (N := 10) (ci := 10) (v := .ref wr1) FC hKn hP i_X10 0 rfl rfl 1 (by decide) b_214 rfl dX10_lastBelief_8 ?_
    refine lv_aload_n hx hb dX10_lastBelief_11 rfl (lv_at hl 0 rfl) ?_
    refine g_get (C := RX10) (T := TX10) (N := 10) (ci := 10) (v := .int wsize) FC hKn hP i_X10 0 rfl rfl 5 (by decide) b_211 rfl dX10_lastBelief_12 ?_
    refine lv_iconst (v := 1) hx hb dX10_lastBelief_15 (by decide) ?_
    refine lv_isub hx hb dX10_lastBelief_16 ?_
    have kc1 : (1 : Int32).toInt = 1 := by decide
    refine lv_topi (fun z4 e_z4 => ?_)
    have t_z4 : z4.toInt = wsize.toInt - ((1 : Int32)).toInt := by rw [e_z4]; exact fb_subI (by omega) (by omega)
    refine va_iald hx hb hKn.1 hP 1 0 rfl rfl (vp_in_iff.mpr ⟨by omega, by omega⟩) dX10_lastBelief_17 ?_
    refine lv_topi (fun z5 e_z5 => ?_)
    have t_z5 : 0 ≤ z5.toInt ∧ z5.toInt ≤ 255 := by rw [e_z5]; exact i_wbeliefs _ (clt (by omega) (by omega))
    refine lv_goto (tgt := 25) hx hb dX10_lastBelief_18 (by decide) ?_
    exact rt_i FX ((fun k => match k with | 0 => z5 | _ => 0), (fun _ => fun _ => 0), (fun _ => fun _ => 0)) rfl (show 0 ≤ z5.toInt ∧ z5.toInt ≤ 255 by omega) (hP.sub [0, 1, 2] rfl) (hD.sub [0, 1, 2] (by decide) rfl) hS (Nat.le_of_ble_eq_true rfl) (Nat.le_of_ble_eq_true rfl) dX10_lastBelief_25
set_option maxRecDepth 100000 in
set_option maxHeartbeats 4000000 in
theorem k_X10_overrule (l : Launch) (g : GG) (h0 : Nat) (wr0 : Nat) (wr1 : Nat) (wr2 : Nat) (wr3 : Nat) (wr4 : Nat) (wsize : Int32) (wleastOrdered : Int32) (wfitting : Int32) (wknowingDay : Int32) (wknowingPlan : Int32) (wbeliefs : Nat → Int32) (p1 : Int32) (p2 : Int32) (i_wsize : 0 ≤ wsize.toInt ∧ wsize.toInt ≤ 10) (i_wknowingDay : -1 ≤ wknowingDay.toInt ∧ wknowingDay.toInt ≤ 9) (i_wknowingPlan : -1 ≤ wknowingPlan.toInt ∧ wknowingPlan.toInt ≤ 31) (i_wbeliefs : ab wbeliefs 10 0 255) (i_p2 : 0 ≤ p2.toInt ∧ p2.toInt ≤ 255) : Ct l g yX10_overrule cX10_overrule 4 none { frames := 1, cells := 0, slots := 0, locals := 13 } [.ref h0, .int p1, .int p2] [(h0, .inr (10, [.ref wr0, .ref wr1, .ref wr2, .ref wr3, .ref wr4, .int wsize, .int wleastOrdered, .int wfitting, .int wknowingDay, .int wknowingPlan])), (wr1, .inl (g.2 0, 10, .inl wbeliefs))] (S := (Nat → Int32) × (Nat → Nat → Int32) × (Nat → Nat → Int64)) (fun _ => none) (fun u => (ab (u.2.1 0) 10 0 255)) (fun u => [(h0, .inr (10, [.ref wr0, .ref wr1, .ref wr2, .ref wr3, .ref wr4, .int wsize, .int wleastOrdered, .int wfitting, .int wknowingDay, .int wknowingPlan])), (wr1, .inl (g.2 0, 10, .inl (u.2.1 0)))]) := by
  refine Ct.of (by decide) (Nat.le_of_ble_eq_true rfl) ?_
  intro p e s m below meth c A ls FX hP hD hS hl
  obtain ⟨FC, hr, hlk, hKn, hA, hnm, hZ⟩ := id FX
  have FC : CallFix p m c cX10_overrule 4 s _ BIG RX10 := FC
  obtain ⟨hx, hb, hml, hown, hB⟩ := id FC
  have hl : lv_has ls 4 [(0, .ref h0), (1, .int p1), (2, .int p2)] := hl
  refine lv_iconst (v := 0) hx hb dX10_overrule_0 (by decide) ?_
  refine lv_iload_n hx hb dX10_overrule_1 rfl (lv_at hl 1 rfl) ?_
  refine va_mmax hx hb (by rw [hml]; exact hl.1.symm) hown (hB _ b_215) (hB _ b_57) (hB _ b_58) (hB _ b_59) (Nat.le_of_ble_eq_true rfl) (Nat.le_of_ble_eq_true rfl) (Nat.le_of_ble_eq_true rfl) (Nat.le_of_ble_eq_true rfl) dX10_overrule_2 ?_
  have kc0 : (0 : Int32).toInt = 0 := by decide
  refine lv_topi (fun z1 e_z1 => ?_)
  have t_z1 : (((0 : Int32)).toInt ≤ z1.toInt ∧ p1.toInt ≤ z1.toInt ∧ (z1.toInt = ((0 : Int32)).toInt ∨ z1.toInt = p1.toInt)) := by rw [e_z1]; exact mmax_b _ _
  refine lv_istore_n (lv' := [(3, .int z1), (0, .ref h0), (1, .int p1), (2, .int p2)]) hx hb dX10_overrule_5 rfl hl (by decide) rfl (fun ls hl => ?_)
  have lp12 : ∀ (n14 : Nat) (x10 : Int32) (x11 : Nat → Int32) (H : Heap) (locs : List Loc) (ls : Array Slot), 0 ≤ x10.toInt → ab x11 10 0 255 → (10 - x10.toInt).toNat < n14 → va_P g.1 vwCl [(h0, .inr (10, [.ref wr0, .ref wr1, .ref wr2, .ref wr3, .ref wr4, .int wsize, .int wleastOrdered, .int wfitting, .int wknowingDay, .int wknowingPlan])), (wr1, .inl (g.2 0, 10, .inl x11))] H → va_D A [(h0, .inr (10, [.ref wr0, .ref wr1, .ref wr2, .ref wr3, .ref wr4, .int wsize, .int wleastOrdered, .int wfitting, .int wknowingDay, .int wknowingPlan])), (wr1, .inl (g.2 0, 10, .inl x11))] → va_S A s.heap H locs → lv_has ls 4 [(3, .int x10), (0, .ref h0), (1, .int p1), (2, .int p2)] → W p l e { frames := 1, cells := 0, slots := 0, locals := 13 } s m ([.ref h0, .int p1, .int p2].toArray) below meth c H locs 0 0 (MQ below (QX (S := (Nat → Int32) × (Nat → Nat → Int32) × (Nat → Nat → Int64)) (fun _ => none) (fun u => (ab (u.2.1 0) 10 0 255)) g (fun u => [(h0, .inr (10, [.ref wr0, .ref wr1, .ref wr2, .ref wr3, .ref wr4, .int wsize, .int wleastOrdered, .int wfitting, .int wknowingDay, .int wknowingPlan])), (wr1, .inl (g.2 0, 10, .inl (u.2.1 0)))]) A) ([.ref h0, .int p1, .int p2].toArray) s 0 0 A) (F0 m 6 ls []) := by
    intro n14
    induction n14 with
    | zero =>
      intro x10 x11 H locs ls h_x10 h_x11 hn15
      exact absurd hn15 (Nat.not_lt_zero _)
    | succ n14 ih13 =>
      intro x10 x11 H locs ls h_x10 h_x11 hn15 hP hD hS hl
      refine lv_iload_n hx hb dX10_overrule_6 rfl (lv_at hl 0 rfl) ?_
      refine lv_aload_n hx hb dX10_overrule_7 rfl (lv_at hl 1 rfl) ?_
      refine g_get (C := RX10) (T := TX10) (N := 10) (ci := 10) (v := .int wsize) FC hKn hP i_X10 0 rfl rfl 5 (by decide) b_211 rfl dX10_overrule_8 ?_
      refine lv_icmp_ge (tgt := 27) hx hb dX10_overrule_11 (by decide) (fun c16 => ?_) (fun c16 => ?_)
      · have c16 := k_le (a := wsize.toInt) (b := x10.toInt) rfl rfl c16
        exact rt_v FX ((fun k => match k with | 0 => 0 | _ => 0), (fun k => match k with | 0 => x11 | _ => fun _ => 0), (fun _ => fun _ => 0)) rfl h_x11 (hP.sub [0, 1] rfl) (hD.sub [0, 1] (by decide) rfl) hS (Nat.le_of_ble_eq_true rfl) (Nat.le_of_ble_eq_true rfl) dX10_overrule_27
      · have c16 := k_nle (a := wsize.toInt) (b := x10.toInt) rfl rfl c16
        refine lv_aload_n hx hb dX10_overrule_14 rfl (lv_at hl 1 rfl) ?_
        refine g_get (C := RX10) (T := TX10) (N := 10) (ci := 10) (v := .ref wr1) FC hKn hP i_X10 0 rfl rfl 1 (by decide) b_214 rfl dX10_overrule_15 ?_
        refine lv_iload_n hx hb dX10_overrule_18 rfl (lv_at hl 0 rfl) ?_
        refine lv_iload_n hx hb dX10_overrule_19 rfl (lv_at hl 3 rfl) ?_
        refine va_iast hx hb hKn.1 hP hD hS 1 0 rfl rfl (vp_in_iff.mpr ⟨by omega, by omega⟩) dX10_overrule_20 (fun H locs hP hD hS => ?_)
        have hP : va_P g.1 vwCl [(h0, .inr (10, [.ref wr0, .ref wr1, .ref wr2, .ref wr3, .ref wr4, .int wsize, .int wleastOrdered, .int wfitting, .int wknowingDay, .int wknowingPlan])), (wr1, .inl (g.2 0, 10, .inl (upd x11 (x10.toNatClampNeg) p2)))] H := hP
        have hD : va_D A [(h0, .inr (10, [.ref wr0, .ref wr1, .ref wr2, .ref wr3, .ref wr4, .int wsize, .int wleastOrdered, .int wfitting, .int wknowingDay, .int wknowingPlan])), (wr1, .inl (g.2 0, 10, .inl (upd x11 (x10.toNatClampNeg) p2)))] := hD
        have a_f17 : ab (upd x11 (x10.toNatClampNeg) p2) 10 0 255 := ab_upd h_x11 (by omega) (by omega)
        generalize (upd x11 (x10.toNatClampNeg) p2 : Nat → Int32) = f17 at hP hD a_f17
        obtain ⟨z18, e_z18⟩ : ∃ y : Int32, y = x10 + 1 := ⟨_, rfl⟩
        have t_z18 : z18.toInt = x10.toInt + 1 := by rw [e_z18]; exact addk (by decide) (by omega) (by omega)
        refine lv_iinc (v := z18) (lv' := [(3, .int z18), (0, .ref h0), (1, .int p1), (2, .int p2)]) hx hb dX10_overrule_21 hl (k := 0) rfl (by rw [e_z18]; rfl) (by decide) rfl (fun ls hl => ?_)
        refine lv_goto (tgt := 6) hx hb dX10_overrule_24 (by decide) ?_
        exact ih13 z18 f17 _ _ ls (by omega) a_f17 (by omega) hP hD hS (lv_sub hl [0, 1, 2, 3] rfl)
  exact lp12 _ z1 wbeliefs _ _ ls (by omega) i_wbeliefs (Nat.lt_succ_self _) hP hD hS (lv_sub hl [0, 1, 2, 3] rfl)
set_option maxRecDepth 100000 in
set_option maxHeartbeats 4000000 in
theorem k_X10_feel (l : Launch) (g : GG) (h0 : Nat) (wr0 : Nat) (wr1 : Nat) (wr2 : Nat) (wr3 : Nat) (wr4 : Nat) (d0 : Nat) (dr0 : Nat) (dr1 : Nat) (dr2 : Nat) (dr3 : Nat) (dr4 : Nat) (dr5 : Nat) (dr6 : Nat) (dr7 : Nat) (dr8 : Nat) (dr9 : Nat) (wsize : Int32) (wleastOrdered : Int32) (wfitting : Int32) (wknowingDay : Int32) (wknowingPlan : Int32) (wbeliefs : Nat → Int32) (wpains : Nat → Int32) (dstates : Int32) (dreally : Int32) (ddays : Int32) (dheal : Int32) (dleak : Int32) (dlines : Int32) (dhearers : Int32) (dwords : Int32) (dplans : Int32) (dnews : Int32) (dthoughts : Nat → Int32) (dgrades : Nat → Int32) (p2 : Int32) (i_wsize : 0 ≤ wsize.toInt ∧ wsize.toInt ≤ 10) (i_wknowingDay : -1 ≤ wknowingDay.toInt ∧ wknowingDay.toInt ≤ 9) (i_wknowingPlan : -1 ≤ wknowingPlan.toInt ∧ wknowingPlan.toInt ≤ 31) (i_wbeliefs : ab wbeliefs 10 0 255) (i_dstates : 0 ≤ dstates.toInt ∧ dstates.toInt ≤ 8) (i_dreally : 0 ≤ dreally.toInt ∧ dreally.toInt ≤ 7) (i_ddays : 0 ≤ ddays.toInt ∧ ddays.toInt ≤ 10) (i_dhearers : 0 ≤ dhearers.toInt ∧ dhearers.toInt ≤ 4) (i_dwords : 0 ≤ dwords.toInt ∧ dwords.toInt ≤ 8) (i_dplans : 0 ≤ dplans.toInt ∧ dplans.toInt ≤ 4) (i_dnews : 0 ≤ dnews.toInt ∧ dnews.toInt ≤ 6) (i_p2 : 0 ≤ p2.toInt ∧ p2.toInt ≤ 3) : Ct l g yX10_feel cX10_feel 5 none { frames := 3, cells := 0, slots := 0, locals := 73 } [.ref h0, .ref d0, .int p2] [(h0, .inr (10, [.ref wr0, .ref wr1, .ref wr2, .ref wr3, .ref wr4, .int wsize, .int wleastOrdered, .int wfitting, .int wknowingDay, .int wknowingPlan])), (wr1, .inl (g.2 0, 10, .inl wbeliefs)), (wr2, .inl (g.2 0, 10, .inl wpains)), (d0, .inr (0, [.int dstates, .int dreally, .int ddays, .int dheal, .int dleak, .int dlines, .int dhearers, .int dwords, .int dplans, .int dnews, .ref dr0, .ref dr1, .ref dr2, .ref dr3, .ref dr4, .ref dr5, .ref dr6, .ref dr7, .ref dr8, .ref dr9])), (dr1, .inl (g.2 0, 32, .inl dthoughts)), (dr0, .inl (g.2 0, 8, .inl dgrades))] (S := (Nat → Int32) × (Nat → Nat → Int32) × (Nat → Nat → Int64)) (fun _ => none) (fun u => True) (fun u => [(h0, .inr (10, [.ref wr0, .ref wr1, .ref wr2, .ref wr3, .ref wr4, .int wsize, .int wleastOrdered, .int wfitting, .int wknowingDay, .int wknowingPlan])), (wr1, .inl (g.2 0, 10, .inl wbeliefs)), (wr2, .inl (g.2 0, 10, .inl (u.2.1 0))), (d0, .inr (0, [.int dstates, .int dreally, .int ddays, .int dheal, .int dleak, .int dlines, .int dhearers, .int dwords, .int dplans, .int dnews, .ref dr0, .ref dr1, .ref dr2, .ref dr3, .ref dr4, .ref dr5, .ref dr6, .ref dr7, .ref dr8, .ref dr9])), (dr1, .inl (g.2 0, 32, .inl dthoughts)), (dr0, .inl (g.2 0, 8, .inl dgrades))]) := by
  refine Ct.of (by decide) (Nat.le_of_ble_eq_true rfl) ?_
  intro p e s m below meth c A ls FX hP hD hS hl
  obtain ⟨FC, hr, hlk, hKn, hA, hnm, hZ⟩ := id FX
  have FC : CallFix p m c cX10_feel 5 s _ BIG RX10 := FC
  obtain ⟨hx, hb, hml, hown, hB⟩ := id FC
  have hl : lv_has ls 5 [(0, .ref h0), (1, .ref d0), (2, .int p2)] := hl
  refine lv_aload_n hx hb dX10_feel_0 rfl (lv_at hl 1 rfl) ?_
  refine call_VN (As := []) (rest := []) (wr := [(h0, .inr (10, [.ref wr0, .ref wr1, .ref wr2, .ref wr3, .ref wr4, .int wsize, .int wleastOrdered, .int wfitting, .int wknowingDay, .int wknowingPlan])), (wr1, .inl (g.2 0, 10, .inl wbeliefs)), (wr2, .inl (g.2 0, 10, .inl wpains)), (dr1, .inl (g.2 0, 32, .inl dthoughts)), (dr0, .inl (g.2 0, 8, .inl dgrades))]) FC hKn hZ (k_X0_everything l g d0 dr0 dr1 dr2 dr3 dr4 dr5 dr6 dr7 dr8 dr9 dstates dreally ddays dheal dleak dlines dhearers dwords dplans dnews (by omega) (by omega) (by omega) (by omega) (by omega) (by omega) (by omega)) m_yX0_everything b_210 (ci := 0) rfl rfl rfl hP hD hS hA [3] [0, 1, 2, 4, 5] rfl (by decide) rfl (by decide) (by decide) rfl hl.1 rfl (Nat.le_of_ble_eq_true rfl) dX10_feel_1 ⟨(Nat.le_of_ble_eq_true rfl), (Nat.le_of_ble_eq_true rfl)⟩ ⟨(Nat.le_of_ble_eq_true rfl), (Nat.le_of_ble_eq_true rfl)⟩ (fun u1 H locs q2 hP hD hS => ?_)
  have q2_0 : 0 ≤ (u1.1 0).toInt ∧ (u1.1 0).toInt ≤ 255 := q2
  have hP : va_P g.1 vwCl [(h0, .inr (10, [.ref wr0, .ref wr1, .ref wr2, .ref wr3, .ref wr4, .int wsize, .int wleastOrdered, .int wfitting, .int wknowingDay, .int wknowingPlan])), (wr1, .inl (g.2 0, 10, .inl wbeliefs)), (wr2, .inl (g.2 0, 10, .inl wpains)), (dr1, .inl (g.2 0, 32, .inl dthoughts)), (dr0, .inl (g.2 0, 8, .inl dgrades)), (d0, .inr (0, [.int dstates, .int dreally, .int ddays, .int dheal, .int dleak, .int dlines, .int dhearers, .int dwords, .int dplans, .int dnews, .ref dr0, .ref dr1, .ref dr2, .ref dr3, .ref dr4, .ref dr5, .ref dr6, .ref dr7, .ref dr8, .ref dr9]))] H := hP
  have hD : va_D A [(h0, .inr (10, [.ref wr0, .ref wr1, .ref wr2, .ref wr3, .ref wr4, .int wsize, .int wleastOrdered, .int wfitting, .int wknowingDay, .int wknowingPlan])), (wr1, .inl (g.2 0, 10, .inl wbeliefs)), (wr2, .inl (g.2 0, 10, .inl wpains)), (dr1, .inl (g.2 0, 32, .inl dthoughts)), (dr0, .inl (g.2 0, 8, .inl dgrades)), (d0, .inr (0, [.int dstates, .int dreally, .int ddays, .int dheal, .int dleak, .int dlines, .int dhearers, .int dwords, .int dplans, .int dnews, .ref dr0, .ref dr1, .ref dr2, .ref dr3, .ref dr4, .ref dr5, .ref dr6, .ref dr7, .ref dr8, .ref dr9]))] := hD
  refine W.eq (g2 := F0 m 4 ls [.int (u1.1 0)]) rfl ?_
  refine lv_istore_n (lv' := [(3, .int (u1.1 0)), (0, .ref h0), (1, .ref d0), (2, .int p2)]) hx hb dX10_feel_4 rfl hl (by decide) rfl (fun ls hl => ?_)
  refine lv_iconst (v := 0) hx hb dX10_feel_5 (by decide) ?_
  refine lv_istore (lv' := [(4, .int 0), (3, .int (u1.1 0)), (0, .ref h0), (1, .ref d0), (2, .int p2)]) hx hb dX10_feel_6 hl (by decide) rfl (fun ls hl => ?_)
  have lp74 : ∀ (n76 : Nat) (x71 : Int32) (x72 : Int32) (x73 : Nat → Int32) (H : Heap) (locs : List Loc) (ls : Array Slot), 0 ≤ x71.toInt ∧ x71.toInt ≤ 10 → 0 ≤ x72.toInt ∧ x72.toInt ≤ 255 → (10 - x71.toInt).toNat < n76 → va_P g.1 vwCl [(h0, .inr (10, [.ref wr0, .ref wr1, .ref wr2, .ref wr3, .ref wr4, .int wsize, .int wleastOrdered, .int wfitting, .int wknowingDay, .int wknowingPlan])), (wr1, .inl (g.2 0, 10, .inl wbeliefs)), (wr2, .inl (g.2 0, 10, .inl x73)), (dr1, .inl (g.2 0, 32, .inl dthoughts)), (dr0, .inl (g.2 0, 8, .inl dgrades)), (d0, .inr (0, [.int dstates, .int dreally, .int ddays, .int dheal, .int dleak, .int dlines, .int dhearers, .int dwords, .int dplans, .int dnews, .ref dr0, .ref dr1, .ref dr2, .ref dr3, .ref dr4, .ref dr5, .ref dr6, .ref dr7, .ref dr8, .ref dr9]))] H → va_D A [(h0, .inr (10, [.ref wr0, .ref wr1, .ref wr2, .ref wr3, .ref wr4, .int wsize, .int wleastOrdered, .int wfitting, .int wknowingDay, .int wknowingPlan])), (wr1, .inl (g.2 0, 10, .inl wbeliefs)), (wr2, .inl (g.2 0, 10, .inl x73)), (dr1, .inl (g.2 0, 32, .inl dthoughts)), (dr0, .inl (g.2 0, 8, .inl dgrades)), (d0, .inr (0, [.int dstates, .int dreally, .int ddays, .int dheal, .int dleak, .int dlines, .int dhearers, .int dwords, .int dplans, .int dnews, .ref dr0, .ref dr1, .ref dr2, .ref dr3, .ref dr4, .ref dr5, .ref dr6, .ref dr7, .ref dr8, .ref dr9]))] → va_S A s.heap H locs → lv_has ls 5 [(4, .int x71), (3, .int x72), (0, .ref h0), (1, .ref d0), (2, .int p2)] → W p l e { frames := 3, cells := 0, slots := 0, locals := 73 } s m ([.ref h0, .ref d0, .int p2].toArray) below meth c H locs 0 0 (MQ below (QX (S := (Nat → Int32) × (Nat → Nat → Int32) × (Nat → Nat → Int64)) (fun _ => none) (fun u => True) g (fun u => [(h0, .inr (10, [.ref wr0, .ref wr1, .ref wr2, .ref wr3, .ref wr4, .int wsize, .int wleastOrdered, .int wfitting, .int wknowingDay, .int wknowingPlan])), (wr1, .inl (g.2 0, 10, .inl wbeliefs)), (wr2, .inl (g.2 0, 10, .inl (u.2.1 0))), (d0, .inr (0, [.int dstates, .int dreally, .int ddays, .int dheal, .int dleak, .int dlines, .int dhearers, .int dwords, .int dplans, .int dnews, .ref dr0, .ref dr1, .ref dr2, .ref dr3, .ref dr4, .ref dr5, .ref dr6, .ref dr7, .ref dr8, .ref dr9])), (dr1, .inl (g.2 0, 32, .inl dthoughts)), (dr0, .inl (g.2 0, 8, .inl dgrades))]) A) ([.ref h0, .ref d0, .int p2].toArray) s 0 0 A) (F0 m 8 ls []) := by
    intro n76
    induction n76 with
    | zero =>
      intro x71 x72 x73 H locs ls h_x71 h_x72 hn77
      exact absurd hn77 (Nat.not_lt_zero _)
    | succ n76 ih75 =>
      intro x71 x72 x73 H locs ls h_x71 h_x72 hn77 hP hD hS hl
      refine lv_iload hx hb dX10_feel_8 (lv_at hl 0 rfl) ?_
      refine lv_aload_n hx hb dX10_feel_10 rfl (lv_at hl 2 rfl) ?_
      refine g_get (C := RX10) (T := TX10) (N := 10) (ci := 10) (v := .int wsize) FC hKn hP i_X10 0 rfl rfl 5 (by decide) b_211 rfl dX10_feel_11 ?_
      refine lv_icmp_ge (tgt := 51) hx hb dX10_feel_14 (by decide) (fun c78 => ?_) (fun c78 => ?_)
      · have c78 := k_le (a := wsize.toInt) (b := x71.toInt) rfl rfl c78
        exact rt_v FX ((fun k => match k with | 0 => 0 | _ => 0), (fun k => match k with | 0 => x73 | _ => fun _ => 0), (fun _ => fun _ => 0)) rfl trivial (hP.sub [0, 1, 2, 5, 3, 4] rfl) (hD.sub [0, 1, 2, 5, 3, 4] (by decide) rfl) hS (Nat.le_of_ble_eq_true rfl) (Nat.le_of_ble_eq_true rfl) dX10_feel_51
      · have c78 := k_nle (a := wsize.toInt) (b := x71.toInt) rfl rfl c78
        refine lv_aload_n hx hb dX10_feel_17 rfl (lv_at hl 2 rfl) ?_
        refine g_get (C := RX10) (T := TX10) (N := 10) (ci := 10) (v := .ref wr2) FC hKn hP i_X10 0 rfl rfl 2 (by decide) b_216 rfl dX10_feel_18 ?_
        refine lv_iload hx hb dX10_feel_21 (lv_at hl 0 rfl) ?_
        refine lv_aload_n hx hb dX10_feel_23 rfl (lv_at hl 3 rfl) ?_
        refine lv_iload_n hx hb dX10_feel_24 rfl (lv_at hl 4 rfl) ?_
        refine lv_iload_n hx hb dX10_feel_25 rfl (lv_at hl 1 rfl) ?_
        refine lv_aload_n hx hb dX10_feel_26 rfl (lv_at hl 2 rfl) ?_
        refine g_get (C := RX10) (T := TX10) (N := 10) (ci := 10) (v := .ref wr1) FC hKn hP i_X10 0 rfl rfl 1 (by decide) b_214 rfl dX10_feel_27 ?_
        refine lv_iload hx hb dX10_feel_30 (lv_at hl 0 rfl) ?_
        refine va_iald hx hb hKn.1 hP 1 0 rfl rfl (vp_in_iff.mpr ⟨by omega, by omega⟩) dX10_feel_32 ?_
        refine lv_topi (fun z79 e_z79 => ?_)
        have t_z79 : 0 ≤ z79.toInt ∧ z79.toInt ≤ 255 := by rw [e_z79]; exact i_wbeliefs _ (clt (by omega) (by omega))
        refine call_VN (As := [.int p2, .int x72, .int z79]) (rest := [.int x71, .ref wr2]) (wr := [(h0, .inr (10, [.ref wr0, .ref wr1, .ref wr2, .ref wr3, .ref wr4, .int wsize, .int wleastOrdered, .int wfitting, .int wknowingDay, .int wknowingPlan])), (wr1, .inl (g.2 0, 10, .inl wbeliefs)), (wr2, .inl (g.2 0, 10, .inl x73))]) FC hKn hZ (k_X0_hurtBetween l g d0 dr0 dr1 dr2 dr3 dr4 dr5 dr6 dr7 dr8 dr9 dstates dreally ddays dheal dleak dlines dhearers dwords dplans dnews dthoughts dgrades p2 x72 z79 (by omega) (by omega) (by omega) (by omega) (by omega) (by omega) (by omega) (by omega)) m_yX0_hurtBetween b_217 (ci := 0) rfl rfl rfl hP hD hS hA [5, 3, 4] [0, 1, 2] rfl (by decide) rfl (by decide) (by decide) rfl hl.1 rfl (Nat.le_of_ble_eq_true rfl) dX10_feel_33 ⟨(Nat.le_of_ble_eq_true rfl), (Nat.le_of_ble_eq_true rfl)⟩ ⟨(Nat.le_of_ble_eq_true rfl), (Nat.le_of_ble_eq_true rfl)⟩ (fun u80 H locs q81 hP hD hS => ?_)
        have hP : va_P g.1 vwCl [(h0, .inr (10, [.ref wr0, .ref wr1, .ref wr2, .ref wr3, .ref wr4, .int wsize, .int wleastOrdered, .int wfitting, .int wknowingDay, .int wknowingPlan])), (wr1, .inl (g.2 0, 10, .inl wbeliefs)), (wr2, .inl (g.2 0, 10, .inl x73)), (d0, .inr (0, [.int dstates, .int dreally, .int ddays, .int dheal, .int dleak, .int dlines, .int dhearers, .int dwords, .int dplans, .int dnews, .ref dr0, .ref dr1, .ref dr2, .ref dr3, .ref dr4, .ref dr5, .ref dr6, .ref dr7, .ref dr8, .ref dr9])), (dr1, .inl (g.2 0, 32, .inl dthoughts)), (dr0, .inl (g.2 0, 8, .inl dgrades))] H := hP
        have hD : va_D A [(h0, .inr (10, [.ref wr0, .ref wr1, .ref wr2, .ref wr3, .ref wr4, .int wsize, .int wleastOrdered, .int wfitting, .int wknowingDay, .int wknowingPlan])), (wr1, .inl (g.2 0, 10, .inl wbeliefs)), (wr2, .inl (g.2 0, 10, .inl x73)), (d0, .inr (0, [.int dstates, .int dreally, .int ddays, .int dheal, .int dleak, .int dlines, .int dhearers, .int dwords, .int dplans, .int dnews, .ref dr0, .ref dr1, .ref dr2, .ref dr3, .ref dr4, .ref dr5, .ref dr6, .ref dr7, .ref dr8, .ref dr9])), (dr1, .inl (g.2 0, 32, .inl dthoughts)), (dr0, .inl (g.2 0, 8, .inl dgrades))] := hD
        refine W.eq (g2 := F0 m 36 ls [.int (u80.1 0), .int x71, .ref wr2]) rfl ?_
        refine va_iast hx hb hKn.1 hP hD hS 2 0 rfl rfl (vp_in_iff.mpr ⟨by omega, by omega⟩) dX10_feel_36 (fun H locs hP hD hS => ?_)
        have hP : va_P g.1 vwCl [(h0, .inr (10, [.ref wr0, .ref wr1, .ref wr2, .ref wr3, .ref wr4, .int wsize, .int wleastOrdered, .int wfitting, .int wknowingDay, .int wknowingPlan])), (wr1, .inl (g.2 0, 10, .inl wbeliefs)), (wr2, .inl (g.2 0, 10, .inl (upd x73 (x71.toNatClampNeg) (u80.1 0)))), (d0, .inr (0, [.int dstates, .int dreally, .int ddays, .int dheal, .int dleak, .int dlines, .int dhearers, .int dwords, .int dplans, .int dnews, .ref dr0, .ref dr1, .ref dr2, .ref dr3, .ref dr4, .ref dr5, .ref dr6, .ref dr7, .ref dr8, .ref dr9])), (dr1, .inl (g.2 0, 32, .inl dthoughts)), (dr0, .inl (g.2 0, 8, .inl dgrades))] H := hP
        have hD : va_D A [(h0, .inr (10, [.ref wr0, .ref wr1, .ref wr2, .ref wr3, .ref wr4, .int wsize, .int wleastOrdered, .int wfitting, .int wknowingDay, .int wknowingPlan])), (wr1, .inl (g.2 0, 10, .inl wbeliefs)), (wr2, .inl (g.2 0, 10, .inl (upd x73 (x71.toNatClampNeg) (u80.1 0)))), (d0, .inr (0, [.int dstates, .int dreally, .int ddays, .int dheal, .int dleak, .int dlines, .int dhearers, .int dwords, .int dplans, .int dnews, .ref dr0, .ref dr1, .ref dr2, .ref dr3, .ref dr4, .ref dr5, .ref dr6, .ref dr7, .ref dr8, .ref dr9])), (dr1, .inl (g.2 0, 32, .inl dthoughts)), (dr0, .inl (g.2 0, 8, .inl dgrades))] := hD
        generalize (upd x73 (x71.toNatClampNeg) (u80.1 0) : Nat → Int32) = f82 at hP hD
        refine lv_aload_n hx hb dX10_feel_37 rfl (lv_at hl 2 rfl) ?_
        refine g_get (C := RX10) (T := TX10) (N := 10) (ci := 10) (v := .ref wr1) FC hKn hP i_X10 0 rfl rfl 1 (by decide) b_214 rfl dX10_feel_38 ?_
        refine lv_iload hx hb dX10_feel_41 (lv_at hl 0 rfl) ?_
        refine va_iald hx hb hKn.1 hP 1 0 rfl rfl (vp_in_iff.mpr ⟨by omega, by omega⟩) dX10_feel_43 ?_
        refine tp_i (v := z79) e_z79.symm ?_
        refine lv_istore_n (lv' := [(3, .int z79), (4, .int x71), (0, .ref h0), (1, .ref d0), (2, .int p2)]) hx hb dX10_feel_44 rfl hl (by decide) rfl (fun ls hl => ?_)
        obtain ⟨z83, e_z83⟩ : ∃ y : Int32, y = x71 + 1 := ⟨_, rfl⟩
        have t_z83 : z83.toInt = x71.toInt + 1 := by rw [e_z83]; exact addk (by decide) (by omega) (by omega)
        refine lv_iinc (v := z83) (lv' := [(4, .int z83), (3, .int z79), (0, .ref h0), (1, .ref d0), (2, .int p2)]) hx hb dX10_feel_45 hl (k := 1) rfl (by rw [e_z83]; rfl) (by decide) rfl (fun ls hl => ?_)
        refine lv_goto (tgt := 8) hx hb dX10_feel_48 (by decide) ?_
        exact ih75 z83 z79 f82 _ _ ls (by omega) (by omega) (by omega) (hP.sub [0, 1, 2, 4, 5, 3] rfl) (hD.sub [0, 1, 2, 4, 5, 3] (by decide) rfl) hS (lv_sub hl [0, 1, 2, 3, 4] rfl)
  have kc0 : (0 : Int32).toInt = 0 := by decide
  exact lp74 _ (0 : Int32) (u1.1 0) wpains _ _ ls (by decide) (by omega) (Nat.lt_succ_self _) hP hD hS (lv_sub hl [0, 1, 2, 3, 4] rfl)
set_option maxRecDepth 100000 in
set_option maxHeartbeats 4000000 in
theorem k_X10_sumOfHurts (l : Launch) (g : GG) (h0 : Nat) (wr0 : Nat) (wr1 : Nat) (wr2 : Nat) (wr3 : Nat) (wr4 : Nat) (wsize : Int32) (wleastOrdered : Int32) (wfitting : Int32) (wknowingDay : Int32) (wknowingPlan : Int32) (wpains : Nat → Int32) (i_wsize : 0 ≤ wsize.toInt ∧ wsize.toInt ≤ 10) (i_wknowingDay : -1 ≤ wknowingDay.toInt ∧ wknowingDay.toInt ≤ 9) (i_wknowingPlan : -1 ≤ wknowingPlan.toInt ∧ wknowingPlan.toInt ≤ 31) : Ct l g yX10_sumOfHurts cX10_sumOfHurts 3 (some .int) { frames := 0, cells := 0, slots := 0, locals := 0 } [.ref h0] [(h0, .inr (10, [.ref wr0, .ref wr1, .ref wr2, .ref wr3, .ref wr4, .int wsize, .int wleastOrdered, .int wfitting, .int wknowingDay, .int wknowingPlan])), (wr2, .inl (g.2 0, 10, .inl wpains))] (S := (Nat → Int32) × (Nat → Nat → Int32) × (Nat → Nat → Int64)) (fun u => some (.int (u.1 0))) (fun u => True) (fun u => [(h0, .inr (10, [.ref wr0, .ref wr1, .ref wr2, .ref wr3, .ref wr4, .int wsize, .int wleastOrdered, .int wfitting, .int wknowingDay, .int wknowingPlan])), (wr2, .inl (g.2 0, 10, .inl wpains))]) := by
  refine Ct.of (by decide) (Nat.le_of_ble_eq_true rfl) ?_
  intro p e s m below meth c A ls FX hP hD hS hl
  obtain ⟨FC, hr, hlk, hKn, hA, hnm, hZ⟩ := id FX
  have FC : CallFix p m c cX10_sumOfHurts 3 s _ BIG RX10 := FC
  obtain ⟨hx, hb, hml, hown, hB⟩ := id FC
  have hl : lv_has ls 3 [(0, .ref h0)] := hl
  refine lv_iconst (v := 0) hx hb dX10_sumOfHurts_0 (by decide) ?_
  refine lv_istore_n (lv' := [(1, .int 0), (0, .ref h0)]) hx hb dX10_sumOfHurts_1 rfl hl (by decide) rfl (fun ls hl => ?_)
  refine lv_iconst (v := 0) hx hb dX10_sumOfHurts_2 (by decide) ?_
  refine lv_istore_n (lv' := [(2, .int 0), (1, .int 0), (0, .ref h0)]) hx hb dX10_sumOfHurts_3 rfl hl (by decide) rfl (fun ls hl => ?_)
  have lp48 : ∀ (n50 : Nat) (x46 : Int32) (x47 : Int32) (H : Heap) (locs : List Loc) (ls : Array Slot), 0 ≤ x46.toInt ∧ x46.toInt ≤ 10 → (10 - x46.toInt).toNat < n50 → va_P g.1 vwCl [(h0, .inr (10, [.ref wr0, .ref wr1, .ref wr2, .ref wr3, .ref wr4, .int wsize, .int wleastOrdered, .int wfitting, .int wknowingDay, .int wknowingPlan])), (wr2, .inl (g.2 0, 10, .inl wpains))] H → va_D A [(h0, .inr (10, [.ref wr0, .ref wr1, .ref wr2, .ref wr3, .ref wr4, .int wsize, .int wleastOrdered, .int wfitting, .int wknowingDay, .int wknowingPlan])), (wr2, .inl (g.2 0, 10, .inl wpains))] → va_S A s.heap H locs → lv_has ls 3 [(2, .int x46), (1, .int x47), (0, .ref h0)] → W p l e { frames := 0, cells := 0, slots := 0, locals := 0 } s m ([.ref h0].toArray) below meth c H locs 0 0 (MQ below (QX (S := (Nat → Int32) × (Nat → Nat → Int32) × (Nat → Nat → Int64)) (fun u => some (.int (u.1 0))) (fun u => True) g (fun u => [(h0, .inr (10, [.ref wr0, .ref wr1, .ref wr2, .ref wr3, .ref wr4, .int wsize, .int wleastOrdered, .int wfitting, .int wknowingDay, .int wknowingPlan])), (wr2, .inl (g.2 0, 10, .inl wpains))]) A) ([.ref h0].toArray) s 0 0 A) (F0 m 4 ls []) := by
    intro n50
    induction n50 with
    | zero =>
      intro x46 x47 H locs ls h_x46 hn51
      exact absurd hn51 (Nat.not_lt_zero _)
    | succ n50 ih49 =>
      intro x46 x47 H locs ls h_x46 hn51 hP hD hS hl
      refine lv_iload_n hx hb dX10_sumOfHurts_4 rfl (lv_at hl 0 rfl) ?_
      refine lv_aload_n hx hb dX10_sumOfHurts_5 rfl (lv_at hl 2 rfl) ?_
      refine g_get (C := RX10) (T := TX10) (N := 10) (ci := 10) (v := .int wsize) FC hKn hP i_X10 0 rfl rfl 5 (by decide) b_211 rfl dX10_sumOfHurts_6 ?_
      refine lv_icmp_ge (tgt := 27) hx hb dX10_sumOfHurts_9 (by decide) (fun c52 => ?_) (fun c52 => ?_)
      · have c52 := k_le (a := wsize.toInt) (b := x46.toInt) rfl rfl c52
        refine lv_iload_n hx hb dX10_sumOfHurts_27 rfl (lv_at hl 1 rfl) ?_
        exact rt_i FX ((fun k => match k with | 0 => x47 | _ => 0), (fun _ => fun _ => 0), (fun _ => fun _ => 0)) rfl trivial (hP.sub [0, 1] rfl) (hD.sub [0, 1] (by decide) rfl) hS (Nat.le_of_ble_eq_true rfl) (Nat.le_of_ble_eq_true rfl) dX10_sumOfHurts_28
      · have c52 := k_nle (a := wsize.toInt) (b := x46.toInt) rfl rfl c52
        refine lv_iload_n hx hb dX10_sumOfHurts_12 rfl (lv_at hl 1 rfl) ?_
        refine lv_aload_n hx hb dX10_sumOfHurts_13 rfl (lv_at hl 2 rfl) ?_
        refine g_get (C := RX10) (T := TX10) (N := 10) (ci := 10) (v := .ref wr2) FC hKn hP i_X10 0 rfl rfl 2 (by decide) b_216 rfl dX10_sumOfHurts_14 ?_
        refine lv_iload_n hx hb dX10_sumOfHurts_17 rfl (lv_at hl 0 rfl) ?_
        refine va_iald hx hb hKn.1 hP 1 0 rfl rfl (vp_in_iff.mpr ⟨by omega, by omega⟩) dX10_sumOfHurts_18 ?_
        refine lv_topi (fun z53 e_z53 => ?_)
        refine lv_iadd hx hb dX10_sumOfHurts_19 ?_
        refine lv_topi (fun z54 e_z54 => ?_)
        refine lv_istore_n (lv' := [(1, .int z54), (2, .int x46), (0, .ref h0)]) hx hb dX10_sumOfHurts_20 rfl hl (by decide) rfl (fun ls hl => ?_)
        obtain ⟨z55, e_z55⟩ : ∃ y : Int32, y = x46 + 1 := ⟨_, rfl⟩
        have t_z55 : z55.toInt = x46.toInt + 1 := by rw [e_z55]; exact addk (by decide) (by omega) (by omega)
        refine lv_iinc (v := z55) (lv' := [(2, .int z55), (1, .int z54), (0, .ref h0)]) hx hb dX10_sumOfHurts_21 hl (k := 1) rfl (by rw [e_z55]; rfl) (by decide) rfl (fun ls hl => ?_)
        refine lv_goto (tgt := 4) hx hb dX10_sumOfHurts_24 (by decide) ?_
        exact ih49 z55 z54 _ _ ls (by omega) (by omega) hP hD hS (lv_sub hl [0, 1, 2] rfl)
  have kc0 : (0 : Int32).toInt = 0 := by decide
  exact lp48 _ (0 : Int32) (0 : Int32) _ _ ls (by decide) (Nat.lt_succ_self _) hP hD hS (lv_sub hl [0, 1, 2] rfl)
set_option maxRecDepth 100000 in
set_option maxHeartbeats 4000000 in
theorem k_X10_greatestHurt (l : Launch) (g : GG) (h0 : Nat) (wr0 : Nat) (wr1 : Nat) (wr2 : Nat) (wr3 : Nat) (wr4 : Nat) (wsize : Int32) (wleastOrdered : Int32) (wfitting : Int32) (wknowingDay : Int32) (wknowingPlan : Int32) (wpains : Nat → Int32) (i_wsize : 0 ≤ wsize.toInt ∧ wsize.toInt ≤ 10) (i_wknowingDay : -1 ≤ wknowingDay.toInt ∧ wknowingDay.toInt ≤ 9) (i_wknowingPlan : -1 ≤ wknowingPlan.toInt ∧ wknowingPlan.toInt ≤ 31) : Ct l g yX10_greatestHurt cX10_greatestHurt 3 (some .int) { frames := 1, cells := 0, slots := 0, locals := 13 } [.ref h0] [(h0, .inr (10, [.ref wr0, .ref wr1, .ref wr2, .ref wr3, .ref wr4, .int wsize, .int wleastOrdered, .int wfitting, .int wknowingDay, .int wknowingPlan])), (wr2, .inl (g.2 0, 10, .inl wpains))] (S := (Nat → Int32) × (Nat → Nat → Int32) × (Nat → Nat → Int64)) (fun u => some (.int (u.1 0))) (fun u => True) (fun u => [(h0, .inr (10, [.ref wr0, .ref wr1, .ref wr2, .ref wr3, .ref wr4, .int wsize, .int wleastOrdered, .int wfitting, .int wknowingDay, .int wknowingPlan])), (wr2, .inl (g.2 0, 10, .inl wpains))]) := by
  refine Ct.of (by decide) (Nat.le_of_ble_eq_true rfl) ?_
  intro p e s m below meth c A ls FX hP hD hS hl
  obtain ⟨FC, hr, hlk, hKn, hA, hnm, hZ⟩ := id FX
  have FC : CallFix p m c cX10_greatestHurt 3 s _ BIG RX10 := FC
  obtain ⟨hx, hb, hml, hown, hB⟩ := id FC
  have hl : lv_has ls 3 [(0, .ref h0)] := hl
  refine lv_iconst (v := 0) hx hb dX10_greatestHurt_0 (by decide) ?_
  refine lv_istore_n (lv' := [(1, .int 0), (0, .ref h0)]) hx hb dX10_greatestHurt_1 rfl hl (by decide) rfl (fun ls hl => ?_)
  refine lv_iconst (v := 0) hx hb dX10_greatestHurt_2 (by decide) ?_
  refine lv_istore_n (lv' := [(2, .int 0), (1, .int 0), (0, .ref h0)]) hx hb dX10_greatestHurt_3 rfl hl (by decide) rfl (fun ls hl => ?_)
  have lp48 : ∀ (n50 : Nat) (x46 : Int32) (x47 : Int32) (H : Heap) (locs : List Loc) (ls : Array Slot), 0 ≤ x46.toInt ∧ x46.toInt ≤ 10 → 0 ≤ x47.toInt → (10 - x46.toInt).toNat < n50 → va_P g.1 vwCl [(h0, .inr (10, [.ref wr0, .ref wr1, .ref wr2, .ref wr3, .ref wr4, .int wsize, .int wleastOrdered, .int wfitting, .int wknowingDay, .int wknowingPlan])), (wr2, .inl (g.2 0, 10, .inl wpains))] H → va_D A [(h0, .inr (10, [.ref wr0, .ref wr1, .ref wr2, .ref wr3, .ref wr4, .int wsize, .int wleastOrdered, .int wfitting, .int wknowingDay, .int wknowingPlan])), (wr2, .inl (g.2 0, 10, .inl wpains))] → va_S A s.heap H locs → lv_has ls 3 [(2, .int x46), (1, .int x47), (0, .ref h0)] → W p l e { frames := 1, cells := 0, slots := 0, locals := 13 } s m ([.ref h0].toArray) below meth c H locs 0 0 (MQ below (QX (S := (Nat → Int32) × (Nat → Nat → Int32) × (Nat → Nat → Int64)) (fun u => some (.int (u.1 0))) (fun u => True) g (fun u => [(h0, .inr (10, [.ref wr0, .ref wr1, .ref wr2, .ref wr3, .ref wr4, .int wsize, .int wleastOrdered, .int wfitting, .int wknowingDay, .int wknowingPlan])), (wr2, .inl (g.2 0, 10, .inl wpains))]) A) ([.ref h0].toArray) s 0 0 A) (F0 m 4 ls []) := by
    intro n50
    induction n50 with
    | zero =>
      intro x46 x47 H locs ls h_x46 h_x47 hn51
      exact absurd hn51 (Nat.not_lt_zero _)
    | succ n50 ih49 =>
      intro x46 x47 H locs ls h_x46 h_x47 hn51 hP hD hS hl
      refine lv_iload_n hx hb dX10_greatestHurt_4 rfl (lv_at hl 0 rfl) ?_
      refine lv_aload_n hx hb dX10_greatestHurt_5 rfl (lv_at hl 2 rfl) ?_
      refine g_get (C := RX10) (T := TX10) (N := 10) (ci := 10) (v := .int wsize) FC hKn hP i_X10 0 rfl rfl 5 (by decide) b_211 rfl dX10_greatestHurt_6 ?_
      refine lv_icmp_ge (tgt := 29) hx hb dX10_greatestHurt_9 (by decide) (fun c52 => ?_) (fun c52 => ?_)
      · have c52 := k_le (a := wsize.toInt) (b := x46.toInt) rfl rfl c52
        refine lv_iload_n hx hb dX10_greatestHurt_29 rfl (lv_at hl 1 rfl) ?_
        exact rt_i FX ((fun k => match k with | 0 => x47 | _ => 0), (fun _ => fun _ => 0), (fun _ => fun _ => 0)) rfl trivial (hP.sub [0, 1] rfl) (hD.sub [0, 1] (by decide) rfl) hS (Nat.le_of_ble_eq_true rfl) (Nat.le_of_ble_eq_true rfl) dX10_greatestHurt_30
      · have c52 := k_nle (a := wsize.toInt) (b := x46.toInt) rfl rfl c52
        refine lv_iload_n hx hb dX10_greatestHurt_12 rfl (lv_at hl 1 rfl) ?_
        refine lv_aload_n hx hb dX10_greatestHurt_13 rfl (lv_at hl 2 rfl) ?_
        refine g_get (C := RX10) (T := TX10) (N := 10) (ci := 10) (v := .ref wr2) FC hKn hP i_X10 0 rfl rfl 2 (by decide) b_216 rfl dX10_greatestHurt_14 ?_
        refine lv_iload_n hx hb dX10_greatestHurt_17 rfl (lv_at hl 0 rfl) ?_
        refine va_iald hx hb hKn.1 hP 1 0 rfl rfl (vp_in_iff.mpr ⟨by omega, by omega⟩) dX10_greatestHurt_18 ?_
        refine lv_topi (fun z53 e_z53 => ?_)
        refine va_mmax hx hb (by rw [hml]; exact hl.1.symm) hown (hB _ b_215) (hB _ b_57) (hB _ b_58) (hB _ b_59) (Nat.le_of_ble_eq_true rfl) (Nat.le_of_ble_eq_true rfl) (Nat.le_of_ble_eq_true rfl) (Nat.le_of_ble_eq_true rfl) dX10_greatestHurt_19 ?_
        refine lv_topi (fun z54 e_z54 => ?_)
        have t_z54 : (x47.toInt ≤ z54.toInt ∧ z53.toInt ≤ z54.toInt ∧ (z54.toInt = x47.toInt ∨ z54.toInt = z53.toInt)) := by rw [e_z54]; exact mmax_b _ _
        refine lv_istore_n (lv' := [(1, .int z54), (2, .int x46), (0, .ref h0)]) hx hb dX10_greatestHurt_22 rfl hl (by decide) rfl (fun ls hl => ?_)
        obtain ⟨z55, e_z55⟩ : ∃ y : Int32, y = x46 + 1 := ⟨_, rfl⟩
        have t_z55 : z55.toInt = x46.toInt + 1 := by rw [e_z55]; exact addk (by decide) (by omega) (by omega)
        refine lv_iinc (v := z55) (lv' := [(2, .int z55), (1, .int z54), (0, .ref h0)]) hx hb dX10_greatestHurt_23 hl (k := 1) rfl (by rw [e_z55]; rfl) (by decide) rfl (fun ls hl => ?_)
        refine lv_goto (tgt := 4) hx hb dX10_greatestHurt_26 (by decide) ?_
        exact ih49 z55 z54 _ _ ls (by omega) (by omega) (by omega) hP hD hS (lv_sub hl [0, 1, 2] rfl)
  have kc0 : (0 : Int32).toInt = 0 := by decide
  exact lp48 _ (0 : Int32) (0 : Int32) _ _ ls (by decide) (by decide) (Nat.lt_succ_self _) hP hD hS (lv_sub hl [0, 1, 2] rfl)
set_option maxRecDepth 100000 in
set_option maxHeartbeats 4000000 in
theorem k_X10_sumLeft (l : Launch) (g : GG) (h0 : Nat) (wr0 : Nat) (wr1 : Nat) (wr2 : Nat) (wr3 : Nat) (wr4 : Nat) (d0 : Nat) (dr0 : Nat) (dr1 : Nat) (dr2 : Nat) (dr3 : Nat) (dr4 : Nat) (dr5 : Nat) (dr6 : Nat) (dr7 : Nat) (dr8 : Nat) (dr9 : Nat) (wsize : Int32) (wleastOrdered : Int32) (wfitting : Int32) (wknowingDay : Int32) (wknowingPlan : Int32) (wpains : Nat → Int32) (dstates : Int32) (dreally : Int32) (ddays : Int32) (dheal : Int32) (dleak : Int32) (dlines : Int32) (dhearers : Int32) (dwords : Int32) (dplans : Int32) (dnews : Int32) (i_wsize : 0 ≤ wsize.toInt ∧ wsize.toInt ≤ 10) (i_wknowingDay : -1 ≤ wknowingDay.toInt ∧ wknowingDay.toInt ≤ 9) (i_wknowingPlan : -1 ≤ wknowingPlan.toInt ∧ wknowingPlan.toInt ≤ 31) (i_dstates : 0 ≤ dstates.toInt ∧ dstates.toInt ≤ 8) (i_dreally : 0 ≤ dreally.toInt ∧ dreally.toInt ≤ 7) (i_ddays : 0 ≤ ddays.toInt ∧ ddays.toInt ≤ 10) (i_dhearers : 0 ≤ dhearers.toInt ∧ dhearers.toInt ≤ 4) (i_dwords : 0 ≤ dwords.toInt ∧ dwords.toInt ≤ 8) (i_dplans : 0 ≤ dplans.toInt ∧ dplans.toInt ≤ 4) (i_dnews : 0 ≤ dnews.toInt ∧ dnews.toInt ≤ 6) : Ct l g yX10_sumLeft cX10_sumLeft 4 (some .int) { frames := 2, cells := 0, slots := 0, locals := 36 } [.ref h0, .ref d0] [(h0, .inr (10, [.ref wr0, .ref wr1, .ref wr2, .ref wr3, .ref wr4, .int wsize, .int wleastOrdered, .int wfitting, .int wknowingDay, .int wknowingPlan])), (wr2, .inl (g.2 0, 10, .inl wpains)), (d0, .inr (0, [.int dstates, .int dreally, .int ddays, .int dheal, .int dleak, .int dlines, .int dhearers, .int dwords, .int dplans, .int dnews, .ref dr0, .ref dr1, .ref dr2, .ref dr3, .ref dr4, .ref dr5, .ref dr6, .ref dr7, .ref dr8, .ref dr9]))] (S := (Nat → Int32) × (Nat → Nat → Int32) × (Nat → Nat → Int64)) (fun u => some (.int (u.1 0))) (fun u => True) (fun u => [(h0, .inr (10, [.ref wr0, .ref wr1, .ref wr2, .ref wr3, .ref wr4, .int wsize, .int wleastOrdered, .int wfitting, .int wknowingDay, .int wknowingPlan])), (wr2, .inl (g.2 0, 10, .inl wpains)), (d0, .inr (0, [.int dstates, .int dreally, .int ddays, .int dheal, .int dleak, .int dlines, .int dhearers, .int dwords, .int dplans, .int dnews, .ref dr0, .ref dr1, .ref dr2, .ref dr3, .ref dr4, .ref dr5, .ref dr6, .ref dr7, .ref dr8, .ref dr9]))]) := by
  refine Ct.of (by decide) (Nat.le_of_ble_eq_true rfl) ?_
  intro p e s m below meth c A ls FX hP hD hS hl
  obtain ⟨FC, hr, hlk, hKn, hA, hnm, hZ⟩ := id FX
  have FC : CallFix p m c cX10_sumLeft 4 s _ BIG RX10 := FC
  obtain ⟨hx, hb, hml, hown, hB⟩ := id FC
  have hl : lv_has ls 4 [(0, .ref h0), (1, .ref d0)] := hl
  refine lv_iconst (v := 0) hx hb dX10_sumLeft_0 (by decide) ?_
  refine lv_istore_n (lv' := [(2, .int 0), (0, .ref h0), (1, .ref d0)]) hx hb dX10_sumLeft_1 rfl hl (by decide) rfl (fun ls hl => ?_)
  refine lv_iconst (v := 0) hx hb dX10_sumLeft_2 (by decide) ?_
  refine lv_istore_n (lv' := [(3, .int 0), (2, .int 0), (0, .ref h0), (1, .ref d0)]) hx hb dX10_sumLeft_3 rfl hl (by decide) rfl (fun ls hl => ?_)
  have lp80 : ∀ (n82 : Nat) (x78 : Int32) (x79 : Int32) (H : Heap) (locs : List Loc) (ls : Array Slot), 0 ≤ x78.toInt ∧ x78.toInt ≤ 10 → (10 - x78.toInt).toNat < n82 → va_P g.1 vwCl [(h0, .inr (10, [.ref wr0, .ref wr1, .ref wr2, .ref wr3, .ref wr4, .int wsize, .int wleastOrdered, .int wfitting, .int wknowingDay, .int wknowingPlan])), (wr2, .inl (g.2 0, 10, .inl wpains)), (d0, .inr (0, [.int dstates, .int dreally, .int ddays, .int dheal, .int dleak, .int dlines, .int dhearers, .int dwords, .int dplans, .int dnews, .ref dr0, .ref dr1, .ref dr2, .ref dr3, .ref dr4, .ref dr5, .ref dr6, .ref dr7, .ref dr8, .ref dr9]))] H → va_D A [(h0, .inr (10, [.ref wr0, .ref wr1, .ref wr2, .ref wr3, .ref wr4, .int wsize, .int wleastOrdered, .int wfitting, .int wknowingDay, .int wknowingPlan])), (wr2, .inl (g.2 0, 10, .inl wpains)), (d0, .inr (0, [.int dstates, .int dreally, .int ddays, .int dheal, .int dleak, .int dlines, .int dhearers, .int dwords, .int dplans, .int dnews, .ref dr0, .ref dr1, .ref dr2, .ref dr3, .ref dr4, .ref dr5, .ref dr6, .ref dr7, .ref dr8, .ref dr9]))] → va_S A s.heap H locs → lv_has ls 4 [(3, .int x78), (2, .int x79), (0, .ref h0), (1, .ref d0)] → W p l e { frames := 2, cells := 0, slots := 0, locals := 36 } s m ([.ref h0, .ref d0].toArray) below meth c H locs 0 0 (MQ below (QX (S := (Nat → Int32) × (Nat → Nat → Int32) × (Nat → Nat → Int64)) (fun u => some (.int (u.1 0))) (fun u => True) g (fun u => [(h0, .inr (10, [.ref wr0, .ref wr1, .ref wr2, .ref wr3, .ref wr4, .int wsize, .int wleastOrdered, .int wfitting, .int wknowingDay, .int wknowingPlan])), (wr2, .inl (g.2 0, 10, .inl wpains)), (d0, .inr (0, [.int dstates, .int dreally, .int ddays, .int dheal, .int dleak, .int dlines, .int dhearers, .int dwords, .int dplans, .int dnews, .ref dr0, .ref dr1, .ref dr2, .ref dr3, .ref dr4, .ref dr5, .ref dr6, .ref dr7, .ref dr8, .ref dr9]))]) A) ([.ref h0, .ref d0].toArray) s 0 0 A) (F0 m 4 ls []) := by
    intro n82
    induction n82 with
    | zero =>
      intro x78 x79 H locs ls h_x78 hn83
      exact absurd hn83 (Nat.not_lt_zero _)
    | succ n82 ih81 =>
      intro x78 x79 H locs ls h_x78 hn83 hP hD hS hl
      refine lv_iload_n hx hb dX10_sumLeft_4 rfl (lv_at hl 0 rfl) ?_
      refine lv_aload_n hx hb dX10_sumLeft_5 rfl (lv_at hl 2 rfl) ?_
      refine g_get (C := RX10) (T := TX10) (N := 10) (ci := 10) (v := .int wsize) FC hKn hP i_X10 0 rfl rfl 5 (by decide) b_211 rfl dX10_sumLeft_6 ?_
      refine lv_icmp_ge (tgt := 39) hx hb dX10_sumLeft_9 (by decide) (fun c84 => ?_) (fun c84 => ?_)
      · have c84 := k_le (a := wsize.toInt) (b := x78.toInt) rfl rfl c84
        refine lv_iload_n hx hb dX10_sumLeft_39 rfl (lv_at hl 1 rfl) ?_
        exact rt_i FX ((fun k => match k with | 0 => x79 | _ => 0), (fun _ => fun _ => 0), (fun _ => fun _ => 0)) rfl trivial (hP.sub [0, 1, 2] rfl) (hD.sub [0, 1, 2] (by decide) rfl) hS (Nat.le_of_ble_eq_true rfl) (Nat.le_of_ble_eq_true rfl) dX10_sumLeft_40
      · have c84 := k_nle (a := wsize.toInt) (b := x78.toInt) rfl rfl c84
        refine lv_iload_n hx hb dX10_sumLeft_12 rfl (lv_at hl 1 rfl) ?_
        refine lv_aload_n hx hb dX10_sumLeft_13 rfl (lv_at hl 3 rfl) ?_
        refine lv_aload_n hx hb dX10_sumLeft_14 rfl (lv_at hl 2 rfl) ?_
        refine g_get (C := RX10) (T := TX10) (N := 10) (ci := 10) (v := .ref wr2) FC hKn hP i_X10 0 rfl rfl 2 (by decide) b_216 rfl dX10_sumLeft_15 ?_
        refine lv_iload_n hx hb dX10_sumLeft_18 rfl (lv_at hl 0 rfl) ?_
        refine va_iald hx hb hKn.1 hP 1 0 rfl rfl (vp_in_iff.mpr ⟨by omega, by omega⟩) dX10_sumLeft_19 ?_
        refine lv_topi (fun z85 e_z85 => ?_)
        refine lv_aload_n hx hb dX10_sumLeft_20 rfl (lv_at hl 3 rfl) ?_
        refine g_getN (C := RX0) (T := TX0) (N := 20) (ci := 0) (v := .int ddays) FC hKn hP i_X0 2 rfl rfl 2 (by decide) b_218 rfl dX10_sumLeft_21 ?_
        refine lv_iconst (v := 1) hx hb dX10_sumLeft_24 (by decide) ?_
        refine lv_isub hx hb dX10_sumLeft_25 ?_
        have kc1 : (1 : Int32).toInt = 1 := by decide
        refine lv_topi (fun z86 e_z86 => ?_)
        have t_z86 : z86.toInt = ddays.toInt - ((1 : Int32)).toInt := by rw [e_z86]; exact fb_subI (by omega) (by omega)
        refine lv_iload_n hx hb dX10_sumLeft_26 rfl (lv_at hl 0 rfl) ?_
        refine lv_isub hx hb dX10_sumLeft_27 ?_
        refine lv_topi (fun z87 e_z87 => ?_)
        have t_z87 : z87.toInt = z86.toInt - x78.toInt := by rw [e_z87]; exact fb_subI (by omega) (by omega)
        refine call_VN (As := [.int z85, .int z87]) (rest := [.int x79]) (wr := [(h0, .inr (10, [.ref wr0, .ref wr1, .ref wr2, .ref wr3, .ref wr4, .int wsize, .int wleastOrdered, .int wfitting, .int wknowingDay, .int wknowingPlan])), (wr2, .inl (g.2 0, 10, .inl wpains))]) FC hKn hZ (k_X0_leftOf l g d0 dr0 dr1 dr2 dr3 dr4 dr5 dr6 dr7 dr8 dr9 dstates dreally ddays dheal dleak dlines dhearers dwords dplans dnews z85 z87 (by omega) (by omega) (by omega) (by omega) (by omega) (by omega) (by omega)) m_yX0_leftOf b_219 (ci := 0) rfl rfl rfl hP hD hS hA [2] [0, 1] rfl (by decide) rfl (by decide) (by decide) rfl hl.1 rfl (Nat.le_of_ble_eq_true rfl) dX10_sumLeft_28 ⟨(Nat.le_of_ble_eq_true rfl), (Nat.le_of_ble_eq_true rfl)⟩ ⟨(Nat.le_of_ble_eq_true rfl), (Nat.le_of_ble_eq_true rfl)⟩ (fun u88 H locs q89 hP hD hS => ?_)
        have hP : va_P g.1 vwCl [(h0, .inr (10, [.ref wr0, .ref wr1, .ref wr2, .ref wr3, .ref wr4, .int wsize, .int wleastOrdered, .int wfitting, .int wknowingDay, .int wknowingPlan])), (wr2, .inl (g.2 0, 10, .inl wpains)), (d0, .inr (0, [.int dstates, .int dreally, .int ddays, .int dheal, .int dleak, .int dlines, .int dhearers, .int dwords, .int dplans, .int dnews, .ref dr0, .ref dr1, .ref dr2, .ref dr3, .ref dr4, .ref dr5, .ref dr6, .ref dr7, .ref dr8, .ref dr9]))] H := hP
        have hD : va_D A [(h0, .inr (10, [.ref wr0, .ref wr1, .ref wr2, .ref wr3, .ref wr4, .int wsize, .int wleastOrdered, .int wfitting, .int wknowingDay, .int wknowingPlan])), (wr2, .inl (g.2 0, 10, .inl wpains)), (d0, .inr (0, [.int dstates, .int dreally, .int ddays, .int dheal, .int dleak, .int dlines, .int dhearers, .int dwords, .int dplans, .int dnews, .ref dr0, .ref dr1, .ref dr2, .ref dr3, .ref dr4, .ref dr5, .ref dr6, .ref dr7, .ref dr8, .ref dr9]))] := hD
        refine W.eq (g2 := F0 m 31 ls [.int (u88.1 0), .int x79]) rfl ?_
        refine lv_iadd hx hb dX10_sumLeft_31 ?_
        refine lv_topi (fun z90 e_z90 => ?_)
        refine lv_istore_n (lv' := [(2, .int z90), (3, .int x78), (0, .ref h0), (1, .ref d0)]) hx hb dX10_sumLeft_32 rfl hl (by decide) rfl (fun ls hl => ?_)
        obtain ⟨z91, e_z91⟩ : ∃ y : Int32, y = x78 + 1 := ⟨_, rfl⟩
        have t_z91 : z91.toInt = x78.toInt + 1 := by rw [e_z91]; exact addk (by decide) (by omega) (by omega)
        refine lv_iinc (v := z91) (lv' := [(3, .int z91), (2, .int z90), (0, .ref h0), (1, .ref d0)]) hx hb dX10_sumLeft_33 hl (k := 1) rfl (by rw [e_z91]; rfl) (by decide) rfl (fun ls hl => ?_)
        refine lv_goto (tgt := 4) hx hb dX10_sumLeft_36 (by decide) ?_
        exact ih81 z91 z90 _ _ ls (by omega) (by omega) hP hD hS (lv_sub hl [0, 1, 2, 3] rfl)
  have kc0 : (0 : Int32).toInt = 0 := by decide
  exact lp80 _ (0 : Int32) (0 : Int32) _ _ ls (by decide) (Nat.lt_succ_self _) hP hD hS (lv_sub hl [0, 1, 2, 3] rfl)
set_option maxRecDepth 100000 in
set_option maxHeartbeats 4000000 in
theorem k_X10_firstLie (l : Launch) (g : GG) (h0 : Nat) (wr0 : Nat) (wr1 : Nat) (wr2 : Nat) (wr3 : Nat) (wr4 : Nat) (d0 : Nat) (dr0 : Nat) (dr1 : Nat) (dr2 : Nat) (dr3 : Nat) (dr4 : Nat) (dr5 : Nat) (dr6 : Nat) (dr7 : Nat) (dr8 : Nat) (dr9 : Nat) (wsize : Int32) (wleastOrdered : Int32) (wfitting : Int32) (wknowingDay : Int32) (wknowingPlan : Int32) (wwords : Nat → Int32) (dstates : Int32) (dreally : Int32) (ddays : Int32) (dheal : Int32) (dleak : Int32) (dlines : Int32) (dhearers : Int32) (dwords : Int32) (dplans : Int32) (dnews : Int32) (dmeanings : Nat → Int32) (i_wsize : 0 ≤ wsize.toInt ∧ wsize.toInt ≤ 10) (i_wknowingDay : -1 ≤ wknowingDay.toInt ∧ wknowingDay.toInt ≤ 9) (i_wknowingPlan : -1 ≤ wknowingPlan.toInt ∧ wknowingPlan.toInt ≤ 31) (i_wwords : ab wwords 10 0 8) (i_dstates : 0 ≤ dstates.toInt ∧ dstates.toInt ≤ 8) (i_dreally : 0 ≤ dreally.toInt ∧ dreally.toInt ≤ 7) (i_ddays : 0 ≤ ddays.toInt ∧ ddays.toInt ≤ 10) (i_dhearers : 0 ≤ dhearers.toInt ∧ dhearers.toInt ≤ 4) (i_dwords : 0 ≤ dwords.toInt ∧ dwords.toInt ≤ 8) (i_dplans : 0 ≤ dplans.toInt ∧ dplans.toInt ≤ 4) (i_dnews : 0 ≤ dnews.toInt ∧ dnews.toInt ≤ 6) (i_dmeanings : ab dmeanings 8 0 255) : Ct l g yX10_firstLie cX10_firstLie 3 (some .int) { frames := 1, cells := 0, slots := 0, locals := 21 } [.ref h0, .ref d0] [(h0, .inr (10, [.ref wr0, .ref wr1, .ref wr2, .ref wr3, .ref wr4, .int wsize, .int wleastOrdered, .int wfitting, .int wknowingDay, .int wknowingPlan])), (wr0, .inl (g.2 0, 10, .inl wwords)), (d0, .inr (0, [.int dstates, .int dreally, .int ddays, .int dheal, .int dleak, .int dlines, .int dhearers, .int dwords, .int dplans, .int dnews, .ref dr0, .ref dr1, .ref dr2, .ref dr3, .ref dr4, .ref dr5, .ref dr6, .ref dr7, .ref dr8, .ref dr9])), (dr5, .inl (g.2 0, 8, .inl dmeanings))] (S := (Nat → Int32) × (Nat → Nat → Int32) × (Nat → Nat → Int64)) (fun u => some (.int (u.1 0))) (fun u => True) (fun u => [(h0, .inr (10, [.ref wr0, .ref wr1, .ref wr2, .ref wr3, .ref wr4, .int wsize, .int wleastOrdered, .int wfitting, .int wknowingDay, .int wknowingPlan])), (wr0, .inl (g.2 0, 10, .inl wwords)), (d0, .inr (0, [.int dstates, .int dreally, .int ddays, .int dheal, .int dleak, .int dlines, .int dhearers, .int dwords, .int dplans, .int dnews, .ref dr0, .ref dr1, .ref dr2, .ref dr3, .ref dr4, .ref dr5, .ref dr6, .ref dr7, .ref dr8, .ref dr9])), (dr5, .inl (g.2 0, 8, .inl dmeanings))]) := by
  refine Ct.of (by decide) (Nat.le_of_ble_eq_true rfl) ?_
  intro p e s m below meth c A ls FX hP hD hS hl
  obtain ⟨FC, hr, hlk, hKn, hA, hnm, hZ⟩ := id FX
  have FC : CallFix p m c cX10_firstLie 3 s _ BIG RX10 := FC
  obtain ⟨hx, hb, hml, hown, hB⟩ := id FC
  have hl : lv_has ls 3 [(0, .ref h0), (1, .ref d0)] := hl
  refine lv_iconst (v := 0) hx hb dX10_firstLie_0 (by decide) ?_
  refine lv_istore_n (lv' := [(2, .int 0), (0, .ref h0), (1, .ref d0)]) hx hb dX10_firstLie_1 rfl hl (by decide) rfl (fun ls hl => ?_)
  have lp71 : ∀ (n73 : Nat) (x70 : Int32) (H : Heap) (locs : List Loc) (ls : Array Slot), 0 ≤ x70.toInt ∧ x70.toInt ≤ 10 → (10 - x70.toInt).toNat < n73 → va_P g.1 vwCl [(h0, .inr (10, [.ref wr0, .ref wr1, .ref wr2, .ref wr3, .ref wr4, .int wsize, .int wleastOrdered, .int wfitting, .int wknowingDay, .int wknowingPlan])), (wr0, .inl (g.2 0, 10, .inl wwords)), (d0, .inr (0, [.int dstates, .int dreally, .int ddays, .int dheal, .int dleak, .int dlines, .int dhearers, .int dwords, .int dplans, .int dnews, .ref dr0, .ref dr1, .ref dr2, .ref dr3, .ref dr4, .ref dr5, .ref dr6, .ref dr7, .ref dr8, .ref dr9])), (dr5, .inl (g.2 0, 8, .inl dmeanings))] H → va_D A [(h0, .inr (10, [.ref wr0, .ref wr1, .ref wr2, .ref wr3, .ref wr4, .int wsize, .int wleastOrdered, .int wfitting, .int wknowingDay, .int wknowingPlan])), (wr0, .inl (g.2 0, 10, .inl wwords)), (d0, .inr (0, [.int dstates, .int dreally, .int ddays, .int dheal, .int dleak, .int dlines, .int dhearers, .int dwords, .int dplans, .int dnews, .ref dr0, .ref dr1, .ref dr2, .ref dr3, .ref dr4, .ref dr5, .ref dr6, .ref dr7, .ref dr8, .ref dr9])), (dr5, .inl (g.2 0, 8, .inl dmeanings))] → va_S A s.heap H locs → lv_has ls 3 [(2, .int x70), (0, .ref h0), (1, .ref d0)] → W p l e { frames := 1, cells := 0, slots := 0, locals := 21 } s m ([.ref h0, .ref d0].toArray) below meth c H locs 0 0 (MQ below (QX (S := (Nat → Int32) × (Nat → Nat → Int32) × (Nat → Nat → Int64)) (fun u => some (.int (u.1 0))) (fun u => True) g (fun u => [(h0, .inr (10, [.ref wr0, .ref wr1, .ref wr2, .ref wr3, .ref wr4, .int wsize, .int wleastOrdered, .int wfitting, .int wknowingDay, .int wknowingPlan])), (wr0, .inl (g.2 0, 10, .inl wwords)), (d0, .inr (0, [.int dstates, .int dreally, .int ddays, .int dheal, .int dleak, .int dlines, .int dhearers, .int dwords, .int dplans, .int dnews, .ref dr0, .ref dr1, .ref dr2, .ref dr3, .ref dr4, .ref dr5, .ref dr6, .ref dr7, .ref dr8, .ref dr9])), (dr5, .inl (g.2 0, 8, .inl dmeanings))]) A) ([.ref h0, .ref d0].toArray) s 0 0 A) (F0 m 2 ls []) := by
    intro n73
    induction n73 with
    | zero =>
      intro x70 H locs ls h_x70 hn74
      exact absurd hn74 (Nat.not_lt_zero _)
    | succ n73 ih72 =>
      intro x70 H locs ls h_x70 hn74 hP hD hS hl
      refine lv_iload_n hx hb dX10_firstLie_2 rfl (lv_at hl 0 rfl) ?_
      refine lv_aload_n hx hb dX10_firstLie_3 rfl (lv_at hl 1 rfl) ?_
      refine g_get (C := RX10) (T := TX10) (N := 10) (ci := 10) (v := .int wsize) FC hKn hP i_X10 0 rfl rfl 5 (by decide) b_211 rfl dX10_firstLie_4 ?_
      refine lv_icmp_ge (tgt := 42) hx hb dX10_firstLie_7 (by decide) (fun c75 => ?_) (fun c75 => ?_)
      · have c75 := k_le (a := wsize.toInt) (b := x70.toInt) rfl rfl c75
        refine lv_iconst (v := -1) hx hb dX10_firstLie_42 (by decide) ?_
        exact rt_i FX ((fun k => match k with | 0 => (-1 : Int32) | _ => 0), (fun _ => fun _ => 0), (fun _ => fun _ => 0)) rfl trivial (hP.sub [0, 1, 2, 3] rfl) (hD.sub [0, 1, 2, 3] (by decide) rfl) hS (Nat.le_of_ble_eq_true rfl) (Nat.le_of_ble_eq_true rfl) dX10_firstLie_43
      · have c75 := k_nle (a := wsize.toInt) (b := x70.toInt) rfl rfl c75
        refine lv_aload_n hx hb dX10_firstLie_10 rfl (lv_at hl 1 rfl) ?_
        refine g_get (C := RX10) (T := TX10) (N := 10) (ci := 10) (v := .ref wr0) FC hKn hP i_X10 0 rfl rfl 0 (by decide) b_212 rfl dX10_firstLie_11 ?_
        refine lv_iload_n hx hb dX10_firstLie_14 rfl (lv_at hl 0 rfl) ?_
        refine va_iald hx hb hKn.1 hP 1 0 rfl rfl (vp_in_iff.mpr ⟨by omega, by omega⟩) dX10_firstLie_15 ?_
        refine lv_topi (fun z76 e_z76 => ?_)
        have t_z76 : 0 ≤ z76.toInt ∧ z76.toInt ≤ 8 := by rw [e_z76]; exact i_wwords _ (clt (by omega) (by omega))
        refine lv_bipush (v := 8) hx hb dX10_firstLie_16 (by decide) ?_
        refine lv_icmp_eq (tgt := 36) hx hb dX10_firstLie_18 (by decide) (fun c77 => ?_) (fun c77 => ?_)
        · have c77 := k_eq (a := z76.toInt) (b := 8) rfl (by decide) c77
          obtain ⟨z78, e_z78⟩ : ∃ y : Int32, y = x70 + 1 := ⟨_, rfl⟩
          have t_z78 : z78.toInt = x70.toInt + 1 := by rw [e_z78]; exact addk (by decide) (by omega) (by omega)
          refine lv_iinc (v := z78) (lv' := [(2, .int z78), (0, .ref h0), (1, .ref d0)]) hx hb dX10_firstLie_36 hl (k := 0) rfl (by rw [e_z78]; rfl) (by decide) rfl (fun ls hl => ?_)
          refine lv_goto (tgt := 2) hx hb dX10_firstLie_39 (by decide) ?_
          exact ih72 z78 _ _ ls (by omega) (by omega) hP hD hS (lv_sub hl [0, 1, 2] rfl)
        · have c77 := k_ne (a := z76.toInt) (b := 8) rfl (by decide) c77
          refine lv_aload_n hx hb dX10_firstLie_21 rfl (lv_at hl 2 rfl) ?_
          refine lv_aload_n hx hb dX10_firstLie_22 rfl (lv_at hl 1 rfl) ?_
          refine g_get (C := RX10) (T := TX10) (N := 10) (ci := 10) (v := .ref wr0) FC hKn hP i_X10 0 rfl rfl 0 (by decide) b_212 rfl dX10_firstLie_23 ?_
          refine lv_iload_n hx hb dX10_firstLie_26 rfl (lv_at hl 0 rfl) ?_
          refine va_iald hx hb hKn.1 hP 1 0 rfl rfl (vp_in_iff.mpr ⟨by omega, by omega⟩) dX10_firstLie_27 ?_
          refine tp_i (v := z76) e_z76.symm ?_
          refine call_VN (As := [.int z76]) (rest := []) (wr := [(h0, .inr (10, [.ref wr0, .ref wr1, .ref wr2, .ref wr3, .ref wr4, .int wsize, .int wleastOrdered, .int wfitting, .int wknowingDay, .int wknowingPlan])), (wr0, .inl (g.2 0, 10, .inl wwords))]) FC hKn hZ (k_X0_isTrue l g d0 dr0 dr1 dr2 dr3 dr4 dr5 dr6 dr7 dr8 dr9 dstates dreally ddays dheal dleak dlines dhearers dwords dplans dnews dmeanings z76 (by omega) (by omega) (by omega) (by omega) (by omega) (by omega) (by omega) i_dmeanings (by omega)) m_yX0_isTrue b_220 (ci := 0) rfl rfl rfl hP hD hS hA [2, 3] [0, 1] rfl (by decide) rfl (by decide) (by decide) rfl hl.1 rfl (Nat.le_of_ble_eq_true rfl) dX10_firstLie_28 ⟨(Nat.le_of_ble_eq_true rfl), (Nat.le_of_ble_eq_true rfl)⟩ ⟨(Nat.le_of_ble_eq_true rfl), (Nat.le_of_ble_eq_true rfl)⟩ (fun u79 H locs q80 hP hD hS => ?_)
          have q80_0 : 0 ≤ (u79.1 0).toInt ∧ (u79.1 0).toInt ≤ 1 := q80
          have hP : va_P g.1 vwCl [(h0, .inr (10, [.ref wr0, .ref wr1, .ref wr2, .ref wr3, .ref wr4, .int wsize, .int wleastOrdered, .int wfitting, .int wknowingDay, .int wknowingPlan])), (wr0, .inl (g.2 0, 10, .inl wwords)), (d0, .inr (0, [.int dstates, .int dreally, .int ddays, .int dheal, .int dleak, .int dlines, .int dhearers, .int dwords, .int dplans, .int dnews, .ref dr0, .ref dr1, .ref dr2, .ref dr3, .ref dr4, .ref dr5, .ref dr6, .ref dr7, .ref dr8, .ref dr9])), (dr5, .inl (g.2 0, 8, .inl dmeanings))] H := hP
          have hD : va_D A [(h0, .inr (10, [.ref wr0, .ref wr1, .ref wr2, .ref wr3, .ref wr4, .int wsize, .int wleastOrdered, .int wfitting, .int wknowingDay, .int wknowingPlan])), (wr0, .inl (g.2 0, 10, .inl wwords)), (d0, .inr (0, [.int dstates, .int dreally, .int ddays, .int dheal, .int dleak, .int dlines, .int dhearers, .int dwords, .int dplans, .int dnews, .ref dr0, .ref dr1, .ref dr2, .ref dr3, .ref dr4, .ref dr5, .ref dr6, .ref dr7, .ref dr8, .ref dr9])), (dr5, .inl (g.2 0, 8, .inl dmeanings))] := hD
          refine W.eq (g2 := F0 m 31 ls [.int (u79.1 0)]) rfl ?_
          refine lv_if_ne (tgt := 36) hx hb dX10_firstLie_31 (by decide) (fun c81 => ?_) (fun c81 => ?_)
          · have c81 := k_ne (a := (u79.1 0).toInt) (b := 0) rfl (by decide) c81
            obtain ⟨z82, e_z82⟩ : ∃ y : Int32, y = x70 + 1 := ⟨_, rfl⟩
            have t_z82 : z82.toInt = x70.toInt + 1 := by rw [e_z82]; exact addk (by decide) (by omega) (by omega)
            refine lv_iinc (v := z82) (lv' := [(2, .int z82), (0, .ref h0), (1, .ref d0)]) hx hb dX10_firstLie_36 hl (k := 0) rfl (by rw [e_z82]; rfl) (by decide) rfl (fun ls hl => ?_)
            refine lv_goto (tgt := 2) hx hb dX10_firstLie_39 (by decide) ?_
            exact ih72 z82 _ _ ls (by omega) (by omega) hP hD hS (lv_sub hl [0, 1, 2] rfl)
          · have c81 := k_eq (a := (u79.1 0).toInt) (b := 0) rfl (by decide) c81
            refine lv_iload_n hx hb dX10_firstLie_34 rfl (lv_at hl 0 rfl) ?_
            exact rt_i FX ((fun k => match k with | 0 => x70 | _ => 0), (fun _ => fun _ => 0), (fun _ => fun _ => 0)) rfl trivial (hP.sub [0, 1, 2, 3] rfl) (hD.sub [0, 1, 2, 3] (by decide) rfl) hS (Nat.le_of_ble_eq_true rfl) (Nat.le_of_ble_eq_true rfl) dX10_firstLie_35
  have kc0 : (0 : Int32).toInt = 0 := by decide
  exact lp71 _ (0 : Int32) _ _ ls (by decide) (Nat.lt_succ_self _) hP hD hS (lv_sub hl [0, 1, 2] rfl)
set_option maxRecDepth 100000 in
set_option maxHeartbeats 4000000 in
theorem k_X10_sumOfShame (l : Launch) (g : GG) (h0 : Nat) (wr0 : Nat) (wr1 : Nat) (wr2 : Nat) (wr3 : Nat) (wr4 : Nat) (d0 : Nat) (dr0 : Nat) (dr1 : Nat) (dr2 : Nat) (dr3 : Nat) (dr4 : Nat) (dr5 : Nat) (dr6 : Nat) (dr7 : Nat) (dr8 : Nat) (dr9 : Nat) (wsize : Int32) (wleastOrdered : Int32) (wfitting : Int32) (wknowingDay : Int32) (wknowingPlan : Int32) (wwords : Nat → Int32) (dstates : Int32) (dreally : Int32) (ddays : Int32) (dheal : Int32) (dleak : Int32) (dlines : Int32) (dhearers : Int32) (dwords : Int32) (dplans : Int32) (dnews : Int32) (dmeanings : Nat → Int32) (dshames : Nat → Int32) (i_wsize : 0 ≤ wsize.toInt ∧ wsize.toInt ≤ 10) (i_wknowingDay : -1 ≤ wknowingDay.toInt ∧ wknowingDay.toInt ≤ 9) (i_wknowingPlan : -1 ≤ wknowingPlan.toInt ∧ wknowingPlan.toInt ≤ 31) (i_wwords : ab wwords 10 0 8) (i_dstates : 0 ≤ dstates.toInt ∧ dstates.toInt ≤ 8) (i_dreally : 0 ≤ dreally.toInt ∧ dreally.toInt ≤ 7) (i_ddays : 0 ≤ ddays.toInt ∧ ddays.toInt ≤ 10) (i_dhearers : 0 ≤ dhearers.toInt ∧ dhearers.toInt ≤ 4) (i_dwords : 0 ≤ dwords.toInt ∧ dwords.toInt ≤ 8) (i_dplans : 0 ≤ dplans.toInt ∧ dplans.toInt ≤ 4) (i_dnews : 0 ≤ dnews.toInt ∧ dnews.toInt ≤ 6) (i_dmeanings : ab dmeanings 8 0 255) : Ct l g yX10_sumOfShame cX10_sumOfShame 4 (some .int) { frames := 2, cells := 0, slots := 0, locals := 42 } [.ref h0, .ref d0] [(h0, .inr (10, [.ref wr0, .ref wr1, .ref wr2, .ref wr3, .ref wr4, .int wsize, .int wleastOrdered, .int wfitting, .int wknowingDay, .int wknowingPlan])), (wr0, .inl (g.2 0, 10, .inl wwords)), (d0, .inr (0, [.int dstates, .int dreally, .int ddays, .int dheal, .int dleak, .int dlines, .int dhearers, .int dwords, .int dplans, .int dnews, .ref dr0, .ref dr1, .ref dr2, .ref dr3, .ref dr4, .ref dr5, .ref dr6, .ref dr7, .ref dr8, .ref dr9])), (dr5, .inl (g.2 0, 8, .inl dmeanings)), (dr4, .inl (g.2 0, 8, .inl dshames))] (S := (Nat → Int32) × (Nat → Nat → Int32) × (Nat → Nat → Int64)) (fun u => some (.int (u.1 0))) (fun u => True) (fun u => [(h0, .inr (10, [.ref wr0, .ref wr1, .ref wr2, .ref wr3, .ref wr4, .int wsize, .int wleastOrdered, .int wfitting, .int wknowingDay, .int wknowingPlan])), (wr0, .inl (g.2 0, 10, .inl wwords)), (d0, .inr (0, [.int dstates, .int dreally, .int ddays, .int dheal, .int dleak, .int dlines, .int dhearers, .int dwords, .int dplans, .int dnews, .ref dr0, .ref dr1, .ref dr2, .ref dr3, .ref dr4, .ref dr5, .ref dr6, .ref dr7, .ref dr8, .ref dr9])), (dr5, .inl (g.2 0, 8, .inl dmeanings)), (dr4, .inl (g.2 0, 8, .inl dshames))]) := by
  refine Ct.of (by decide) (Nat.le_of_ble_eq_true rfl) ?_
  intro p e s m below meth c A ls FX hP hD hS hl
  obtain ⟨FC, hr, hlk, hKn, hA, hnm, hZ⟩ := id FX
  have FC : CallFix p m c cX10_sumOfShame 4 s _ BIG RX10 := FC
  obtain ⟨hx, hb, hml, hown, hB⟩ := id FC
  have hl : lv_has ls 4 [(0, .ref h0), (1, .ref d0)] := hl
  refine lv_iconst (v := 0) hx hb dX10_sumOfShame_0 (by decide) ?_
  refine lv_istore_n (lv' := [(2, .int 0), (0, .ref h0), (1, .ref d0)]) hx hb dX10_sumOfShame_1 rfl hl (by decide) rfl (fun ls hl => ?_)
  refine lv_iconst (v := 0) hx hb dX10_sumOfShame_2 (by decide) ?_
  refine lv_istore_n (lv' := [(3, .int 0), (2, .int 0), (0, .ref h0), (1, .ref d0)]) hx hb dX10_sumOfShame_3 rfl hl (by decide) rfl (fun ls hl => ?_)
  have lp64 : ∀ (n66 : Nat) (x62 : Int32) (x63 : Int32) (H : Heap) (locs : List Loc) (ls : Array Slot), 0 ≤ x62.toInt ∧ x62.toInt ≤ 10 → (10 - x62.toInt).toNat < n66 → va_P g.1 vwCl [(h0, .inr (10, [.ref wr0, .ref wr1, .ref wr2, .ref wr3, .ref wr4, .int wsize, .int wleastOrdered, .int wfitting, .int wknowingDay, .int wknowingPlan])), (wr0, .inl (g.2 0, 10, .inl wwords)), (d0, .inr (0, [.int dstates, .int dreally, .int ddays, .int dheal, .int dleak, .int dlines, .int dhearers, .int dwords, .int dplans, .int dnews, .ref dr0, .ref dr1, .ref dr2, .ref dr3, .ref dr4, .ref dr5, .ref dr6, .ref dr7, .ref dr8, .ref dr9])), (dr5, .inl (g.2 0, 8, .inl dmeanings)), (dr4, .inl (g.2 0, 8, .inl dshames))] H → va_D A [(h0, .inr (10, [.ref wr0, .ref wr1, .ref wr2, .ref wr3, .ref wr4, .int wsize, .int wleastOrdered, .int wfitting, .int wknowingDay, .int wknowingPlan])), (wr0, .inl (g.2 0, 10, .inl wwords)), (d0, .inr (0, [.int dstates, .int dreally, .int ddays, .int dheal, .int dleak, .int dlines, .int dhearers, .int dwords, .int dplans, .int dnews, .ref dr0, .ref dr1, .ref dr2, .ref dr3, .ref dr4, .ref dr5, .ref dr6, .ref dr7, .ref dr8, .ref dr9])), (dr5, .inl (g.2 0, 8, .inl dmeanings)), (dr4, .inl (g.2 0, 8, .inl dshames))] → va_S A s.heap H locs → lv_has ls 4 [(3, .int x62), (2, .int x63), (0, .ref h0), (1, .ref d0)] → W p l e { frames := 2, cells := 0, slots := 0, locals := 42 } s m ([.ref h0, .ref d0].toArray) below meth c H locs 0 0 (MQ below (QX (S := (Nat → Int32) × (Nat → Nat → Int32) × (Nat → Nat → Int64)) (fun u => some (.int (u.1 0))) (fun u => True) g (fun u => [(h0, .inr (10, [.ref wr0, .ref wr1, .ref wr2, .ref wr3, .ref wr4, .int wsize, .int wleastOrdered, .int wfitting, .int wknowingDay, .int wknowingPlan])), (wr0, .inl (g.2 0, 10, .inl wwords)), (d0, .inr (0, [.int dstates, .int dreally, .int ddays, .int dheal, .int dleak, .int dlines, .int dhearers, .int dwords, .int dplans, .int dnews, .ref dr0, .ref dr1, .ref dr2, .ref dr3, .ref dr4, .ref dr5, .ref dr6, .ref dr7, .ref dr8, .ref dr9])), (dr5, .inl (g.2 0, 8, .inl dmeanings)), (dr4, .inl (g.2 0, 8, .inl dshames))]) A) ([.ref h0, .ref d0].toArray) s 0 0 A) (F0 m 4 ls []) := by
    intro n66
    induction n66 with
    | zero =>
      intro x62 x63 H locs ls h_x62 hn67
      exact absurd hn67 (Nat.not_lt_zero _)
    | succ n66 ih65 =>
      intro x62 x63 H locs ls h_x62 hn67 hP hD hS hl
      refine lv_iload_n hx hb dX10_sumOfShame_4 rfl (lv_at hl 0 rfl) ?_
      refine lv_aload_n hx hb dX10_sumOfShame_5 rfl (lv_at hl 2 rfl) ?_
      refine g_get (C := RX10) (T := TX10) (N := 10) (ci := 10) (v := .int wsize) FC hKn hP i_X10 0 rfl rfl 5 (by decide) b_211 rfl dX10_sumOfShame_6 ?_
      refine lv_icmp_ge (tgt := 31) hx hb dX10_sumOfShame_9 (by decide) (fun c68 => ?_) (fun c68 => ?_)
      · have c68 := k_le (a := wsize.toInt) (b := x62.toInt) rfl rfl c68
        refine lv_iload_n hx hb dX10_sumOfShame_31 rfl (lv_at hl 1 rfl) ?_
        exact rt_i FX ((fun k => match k with | 0 => x63 | _ => 0), (fun _ => fun _ => 0), (fun _ => fun _ => 0)) rfl trivial (hP.sub [0, 1, 2, 3, 4] rfl) (hD.sub [0, 1, 2, 3, 4] (by decide) rfl) hS (Nat.le_of_ble_eq_true rfl) (Nat.le_of_ble_eq_true rfl) dX10_sumOfShame_32
      · have c68 := k_nle (a := wsize.toInt) (b := x62.toInt) rfl rfl c68
        refine lv_iload_n hx hb dX10_sumOfShame_12 rfl (lv_at hl 1 rfl) ?_
        refine lv_aload_n hx hb dX10_sumOfShame_13 rfl (lv_at hl 3 rfl) ?_
        refine lv_aload_n hx hb dX10_sumOfShame_14 rfl (lv_at hl 2 rfl) ?_
        refine g_get (C := RX10) (T := TX10) (N := 10) (ci := 10) (v := .ref wr0) FC hKn hP i_X10 0 rfl rfl 0 (by decide) b_212 rfl dX10_sumOfShame_15 ?_
        refine lv_iload_n hx hb dX10_sumOfShame_18 rfl (lv_at hl 0 rfl) ?_
        refine va_iald hx hb hKn.1 hP 1 0 rfl rfl (vp_in_iff.mpr ⟨by omega, by omega⟩) dX10_sumOfShame_19 ?_
        refine lv_topi (fun z69 e_z69 => ?_)
        have t_z69 : 0 ≤ z69.toInt ∧ z69.toInt ≤ 8 := by rw [e_z69]; exact i_wwords _ (clt (by omega) (by omega))
        refine call_VN (As := [.int z69]) (rest := [.int x63]) (wr := [(h0, .inr (10, [.ref wr0, .ref wr1, .ref wr2, .ref wr3, .ref wr4, .int wsize, .int wleastOrdered, .int wfitting, .int wknowingDay, .int wknowingPlan])), (wr0, .inl (g.2 0, 10, .inl wwords))]) FC hKn hZ (k_X0_shameOf l g d0 dr0 dr1 dr2 dr3 dr4 dr5 dr6 dr7 dr8 dr9 dstates dreally ddays dheal dleak dlines dhearers dwords dplans dnews dmeanings dshames z69 (by omega) (by omega) (by omega) (by omega) (by omega) (by omega) (by omega) i_dmeanings) m_yX0_shameOf b_221 (ci := 0) rfl rfl rfl hP hD hS hA [2, 3, 4] [0, 1] rfl (by decide) rfl (by decide) (by decide) rfl hl.1 rfl (Nat.le_of_ble_eq_true rfl) dX10_sumOfShame_20 ⟨(Nat.le_of_ble_eq_true rfl), (Nat.le_of_ble_eq_true rfl)⟩ ⟨(Nat.le_of_ble_eq_true rfl), (Nat.le_of_ble_eq_true rfl)⟩ (fun u70 H locs q71 hP hD hS => ?_)
        have hP : va_P g.1 vwCl [(h0, .inr (10, [.ref wr0, .ref wr1, .ref wr2, .ref wr3, .ref wr4, .int wsize, .int wleastOrdered, .int wfitting, .int wknowingDay, .int wknowingPlan])), (wr0, .inl (g.2 0, 10, .inl wwords)), (d0, .inr (0, [.int dstates, .int dreally, .int ddays, .int dheal, .int dleak, .int dlines, .int dhearers, .int dwords, .int dplans, .int dnews, .ref dr0, .ref dr1, .ref dr2, .ref dr3, .ref dr4, .ref dr5, .ref dr6, .ref dr7, .ref dr8, .ref dr9])), (dr5, .inl (g.2 0, 8, .inl dmeanings)), (dr4, .inl (g.2 0, 8, .inl dshames))] H := hP
        have hD : va_D A [(h0, .inr (10, [.ref wr0, .ref wr1, .ref wr2, .ref wr3, .ref wr4, .int wsize, .int wleastOrdered, .int wfitting, .int wknowingDay, .int wknowingPlan])), (wr0, .inl (g.2 0, 10, .inl wwords)), (d0, .inr (0, [.int dstates, .int dreally, .int ddays, .int dheal, .int dleak, .int dlines, .int dhearers, .int dwords, .int dplans, .int dnews, .ref dr0, .ref dr1, .ref dr2, .ref dr3, .ref dr4, .ref dr5, .ref dr6, .ref dr7, .ref dr8, .ref dr9])), (dr5, .inl (g.2 0, 8, .inl dmeanings)), (dr4, .inl (g.2 0, 8, .inl dshames))] := hD
        refine W.eq (g2 := F0 m 23 ls [.int (u70.1 0), .int x63]) rfl ?_
        refine lv_iadd hx hb dX10_sumOfShame_23 ?_
        refine lv_topi (fun z72 e_z72 => ?_)
        refine lv_istore_n (lv' := [(2, .int z72), (3, .int x62), (0, .ref h0), (1, .ref d0)]) hx hb dX10_sumOfShame_24 rfl hl (by decide) rfl (fun ls hl => ?_)
        obtain ⟨z73, e_z73⟩ : ∃ y : Int32, y = x62 + 1 := ⟨_, rfl⟩
        have t_z73 : z73.toInt = x62.toInt + 1 := by rw [e_z73]; exact addk (by decide) (by omega) (by omega)
        refine lv_iinc (v := z73) (lv' := [(3, .int z73), (2, .int z72), (0, .ref h0), (1, .ref d0)]) hx hb dX10_sumOfShame_25 hl (k := 1) rfl (by rw [e_z73]; rfl) (by decide) rfl (fun ls hl => ?_)
        refine lv_goto (tgt := 4) hx hb dX10_sumOfShame_28 (by decide) ?_
        exact ih65 z73 z72 _ _ ls (by omega) (by omega) hP hD hS (lv_sub hl [0, 1, 2, 3] rfl)
  have kc0 : (0 : Int32).toInt = 0 := by decide
  exact lp64 _ (0 : Int32) (0 : Int32) _ _ ls (by decide) (Nat.lt_succ_self _) hP hD hS (lv_sub hl [0, 1, 2, 3] rfl)
set_option maxRecDepth 100000 in
set_option maxHeartbeats 4000000 in
theorem k_X10_knownFrom (l : Launch) (g : GG) (h0 : Nat) (wr0 : Nat) (wr1 : Nat) (wr2 : Nat) (wr3 : Nat) (wr4 : Nat) (wsize : Int32) (wleastOrdered : Int32) (wfitting : Int32) (wknowingDay : Int32) (wknowingPlan : Int32) (wbeliefs : Nat → Int32) (p1 : Int32) (i_wsize : 0 ≤ wsize.toInt ∧ wsize.toInt ≤ 10) (i_wknowingDay : -1 ≤ wknowingDay.toInt ∧ wknowingDay.toInt ≤ 9) (i_wknowingPlan : -1 ≤ wknowingPlan.toInt ∧ wknowingPlan.toInt ≤ 31) (i_wbeliefs : ab wbeliefs 10 0 255) : Ct l g yX10_knownFrom cX10_knownFrom 4 (some .int) { frames := 0, cells := 0, slots := 0, locals := 0 } [.ref h0, .int p1] [(h0, .inr (10, [.ref wr0, .ref wr1, .ref wr2, .ref wr3, .ref wr4, .int wsize, .int wleastOrdered, .int wfitting, .int wknowingDay, .int wknowingPlan])), (wr1, .inl (g.2 0, 10, .inl wbeliefs))] (S := (Nat → Int32) × (Nat → Nat → Int32) × (Nat → Nat → Int64)) (fun u => some (.int (u.1 0))) (fun u => True) (fun u => [(h0, .inr (10, [.ref wr0, .ref wr1, .ref wr2, .ref wr3, .ref wr4, .int wsize, .int wleastOrdered, .int wfitting, .int wknowingDay, .int wknowingPlan])), (wr1, .inl (g.2 0, 10, .inl wbeliefs))]) := by
  refine Ct.of (by decide) (Nat.le_of_ble_eq_true rfl) ?_
  intro p e s m below meth c A ls FX hP hD hS hl
  obtain ⟨FC, hr, hlk, hKn, hA, hnm, hZ⟩ := id FX
  have FC : CallFix p m c cX10_knownFrom 4 s _ BIG RX10 := FC
  obtain ⟨hx, hb, hml, hown, hB⟩ := id FC
  have hl : lv_has ls 4 [(0, .ref h0), (1, .int p1)] := hl
  refine lv_iconst (v := -1) hx hb dX10_knownFrom_0 (by decide) ?_
  refine lv_istore_n (lv' := [(2, .int (-1)), (0, .ref h0), (1, .int p1)]) hx hb dX10_knownFrom_1 rfl hl (by decide) rfl (fun ls hl => ?_)
  refine lv_aload_n hx hb dX10_knownFrom_2 rfl (lv_at hl 1 rfl) ?_
  refine g_get (C := RX10) (T := TX10) (N := 10) (ci := 10) (v := .int wsize) FC hKn hP i_X10 0 rfl rfl 5 (by decide) b_211 rfl dX10_knownFrom_3 ?_
  refine lv_iconst (v := 1) hx hb dX10_knownFrom_6 (by decide) ?_
  refine lv_isub hx hb dX10_knownFrom_7 ?_
  have kc1 : (1 : Int32).toInt = 1 := by decide
  refine lv_topi (fun z1 e_z1 => ?_)
  have t_z1 : z1.toInt = wsize.toInt - ((1 : Int32)).toInt := by rw [e_z1]; exact fb_subI (by omega) (by omega)
  refine lv_istore_n (lv' := [(3, .int z1), (2, .int (-1)), (0, .ref h0), (1, .int p1)]) hx hb dX10_knownFrom_8 rfl hl (by decide) rfl (fun ls hl => ?_)
  have lp14 : ∀ (n16 : Nat) (x12 : Int32) (x13 : Int32) (H : Heap) (locs : List Loc) (ls : Array Slot), -1 ≤ x12.toInt ∧ x12.toInt ≤ 9 → -1 ≤ x13.toInt ∧ x13.toInt ≤ 9 → (x12.toInt - (-1)).toNat < n16 → va_P g.1 vwCl [(h0, .inr (10, [.ref wr0, .ref wr1, .ref wr2, .ref wr3, .ref wr4, .int wsize, .int wleastOrdered, .int wfitting, .int wknowingDay, .int wknowingPlan])), (wr1, .inl (g.2 0, 10, .inl wbeliefs))] H → va_D A [(h0, .inr (10, [.ref wr0, .ref wr1, .ref wr2, .ref wr3, .ref wr4, .int wsize, .int wleastOrdered, .int wfitting, .int wknowingDay, .int wknowingPlan])), (wr1, .inl (g.2 0, 10, .inl wbeliefs))] → va_S A s.heap H locs → lv_has ls 4 [(3, .int x12), (2, .int x13), (0, .ref h0), (1, .int p1)] → W p l e { frames := 0, cells := 0, slots := 0, locals := 0 } s m ([.ref h0, .int p1].toArray) below meth c H locs 0 0 (MQ below (QX (S := (Nat → Int32) × (Nat → Nat → Int32) × (Nat → Nat → Int64)) (fun u => some (.int (u.1 0))) (fun u => True) g (fun u => [(h0, .inr (10, [.ref wr0, .ref wr1, .ref wr2, .ref wr3, .ref wr4, .int wsize, .int wleastOrdered, .int wfitting, .int wknowingDay, .int wknowingPlan])), (wr1, .inl (g.2 0, 10, .inl wbeliefs))]) A) ([.ref h0, .int p1].toArray) s 0 0 A) (F0 m 9 ls []) := by
    intro n16
    induction n16 with
    | zero =>
      intro x12 x13 H locs ls h_x12 h_x13 hn17
      exact absurd hn17 (Nat.not_lt_zero _)
    | succ n16 ih15 =>
      intro x12 x13 H locs ls h_x12 h_x13 hn17 hP hD hS hl
      refine lv_iload_n hx hb dX10_knownFrom_9 rfl (lv_at hl 0 rfl) ?_
      refine lv_if_lt (tgt := 31) hx hb dX10_knownFrom_10 (by decide) (fun c18 => ?_) (fun c18 => ?_)
      · have c18 := k_lt (a := x12.toInt) (b := 0) rfl (by decide) c18
        refine lv_iload_n hx hb dX10_knownFrom_31 rfl (lv_at hl 1 rfl) ?_
        exact rt_i FX ((fun k => match k with | 0 => x13 | _ => 0), (fun _ => fun _ => 0), (fun _ => fun _ => 0)) rfl trivial (hP.sub [0, 1] rfl) (hD.sub [0, 1] (by decide) rfl) hS (Nat.le_of_ble_eq_true rfl) (Nat.le_of_ble_eq_true rfl) dX10_knownFrom_32
      · have c18 := k_nlt (a := x12.toInt) (b := 0) rfl (by decide) c18
        refine lv_aload_n hx hb dX10_knownFrom_13 rfl (lv_at hl 2 rfl) ?_
        refine g_get (C := RX10) (T := TX10) (N := 10) (ci := 10) (v := .ref wr1) FC hKn hP i_X10 0 rfl rfl 1 (by decide) b_214 rfl dX10_knownFrom_14 ?_
        refine lv_iload_n hx hb dX10_knownFrom_17 rfl (lv_at hl 0 rfl) ?_
        refine va_iald hx hb hKn.1 hP 1 0 rfl rfl (vp_in_iff.mpr ⟨by omega, by omega⟩) dX10_knownFrom_18 ?_
        refine lv_topi (fun z19 e_z19 => ?_)
        have t_z19 : 0 ≤ z19.toInt ∧ z19.toInt ≤ 255 := by rw [e_z19]; exact i_wbeliefs _ (clt (by omega) (by omega))
        refine lv_iload_n hx hb dX10_knownFrom_19 rfl (lv_at hl 3 rfl) ?_
        refine lv_icmp_ne (tgt := 31) hx hb dX10_knownFrom_20 (by decide) (fun c20 => ?_) (fun c20 => ?_)
        · have c20 := k_ne (a := z19.toInt) (b := p1.toInt) rfl rfl c20
          refine lv_iload_n hx hb dX10_knownFrom_31 rfl (lv_at hl 1 rfl) ?_
          exact rt_i FX ((fun k => match k with | 0 => x13 | _ => 0), (fun _ => fun _ => 0), (fun _ => fun _ => 0)) rfl trivial (hP.sub [0, 1] rfl) (hD.sub [0, 1] (by decide) rfl) hS (Nat.le_of_ble_eq_true rfl) (Nat.le_of_ble_eq_true rfl) dX10_knownFrom_32
        · have c20 := k_eq (a := z19.toInt) (b := p1.toInt) rfl rfl c20
          refine lv_iload_n hx hb dX10_knownFrom_23 rfl (lv_at hl 0 rfl) ?_
          refine lv_istore_n (lv' := [(2, .int x12), (3, .int x12), (0, .ref h0), (1, .int p1)]) hx hb dX10_knownFrom_24 rfl hl (by decide) rfl (fun ls hl => ?_)
          obtain ⟨z21, e_z21⟩ : ∃ y : Int32, y = x12 + (-1) := ⟨_, rfl⟩
          have t_z21 : z21.toInt = x12.toInt + (-1) := by rw [e_z21]; exact addk (by decide) (by omega) (by omega)
          refine lv_iinc (v := z21) (lv' := [(3, .int z21), (2, .int x12), (0, .ref h0), (1, .int p1)]) hx hb dX10_knownFrom_25 hl (k := 1) rfl (by rw [e_z21]; rfl) (by decide) rfl (fun ls hl => ?_)
          refine lv_goto (tgt := 9) hx hb dX10_knownFrom_28 (by decide) ?_
          exact ih15 z21 x12 _ _ ls (by omega) (by omega) (by omega) hP hD hS (lv_sub hl [0, 1, 2, 3] rfl)
  have kcm1 : (-1 : Int32).toInt = -1 := by decide
  exact lp14 _ z1 (-1 : Int32) _ _ ls (by omega) (by decide) (Nat.lt_succ_self _) hP hD hS (lv_sub hl [0, 1, 2, 3] rfl)
set_option maxRecDepth 100000 in
set_option maxHeartbeats 4000000 in
theorem k_X10_statesMeant (l : Launch) (g : GG) (h0 : Nat) (wr0 : Nat) (wr1 : Nat) (wr2 : Nat) (wr3 : Nat) (wr4 : Nat) (d0 : Nat) (dr0 : Nat) (dr1 : Nat) (dr2 : Nat) (dr3 : Nat) (dr4 : Nat) (dr5 : Nat) (dr6 : Nat) (dr7 : Nat) (dr8 : Nat) (dr9 : Nat) (wsize : Int32) (wleastOrdered : Int32) (wfitting : Int32) (wknowingDay : Int32) (wknowingPlan : Int32) (wwords : Nat → Int32) (dstates : Int32) (dreally : Int32) (ddays : Int32) (dheal : Int32) (dleak : Int32) (dlines : Int32) (dhearers : Int32) (dwords : Int32) (dplans : Int32) (dnews : Int32) (dmeanings : Nat → Int32) (i_wsize : 0 ≤ wsize.toInt ∧ wsize.toInt ≤ 10) (i_wknowingDay : -1 ≤ wknowingDay.toInt ∧ wknowingDay.toInt ≤ 9) (i_wknowingPlan : -1 ≤ wknowingPlan.toInt ∧ wknowingPlan.toInt ≤ 31) (i_wwords : ab wwords 10 0 8) (i_dstates : 0 ≤ dstates.toInt ∧ dstates.toInt ≤ 8) (i_dreally : 0 ≤ dreally.toInt ∧ dreally.toInt ≤ 7) (i_ddays : 0 ≤ ddays.toInt ∧ ddays.toInt ≤ 10) (i_dhearers : 0 ≤ dhearers.toInt ∧ dhearers.toInt ≤ 4) (i_dwords : 0 ≤ dwords.toInt ∧ dwords.toInt ≤ 8) (i_dplans : 0 ≤ dplans.toInt ∧ dplans.toInt ≤ 4) (i_dnews : 0 ≤ dnews.toInt ∧ dnews.toInt ≤ 6) (i_dmeanings : ab dmeanings 8 0 255) : Ct l g yX10_statesMeant cX10_statesMeant 4 (some .int) { frames := 1, cells := 0, slots := 0, locals := 20 } [.ref h0, .ref d0] [(h0, .inr (10, [.ref wr0, .ref wr1, .ref wr2, .ref wr3, .ref wr4, .int wsize, .int wleastOrdered, .int wfitting, .int wknowingDay, .int wknowingPlan])), (wr0, .inl (g.2 0, 10, .inl wwords)), (d0, .inr (0, [.int dstates, .int dreally, .int ddays, .int dheal, .int dleak, .int dlines, .int dhearers, .int dwords, .int dplans, .int dnews, .ref dr0, .ref dr1, .ref dr2, .ref dr3, .ref dr4, .ref dr5, .ref dr6, .ref dr7, .ref dr8, .ref dr9])), (dr5, .inl (g.2 0, 8, .inl dmeanings))] (S := (Nat → Int32) × (Nat → Nat → Int32) × (Nat → Nat → Int64)) (fun u => some (.int (u.1 0))) (fun u => True) (fun u => [(h0, .inr (10, [.ref wr0, .ref wr1, .ref wr2, .ref wr3, .ref wr4, .int wsize, .int wleastOrdered, .int wfitting, .int wknowingDay, .int wknowingPlan])), (wr0, .inl (g.2 0, 10, .inl wwords)), (d0, .inr (0, [.int dstates, .int dreally, .int ddays, .int dheal, .int dleak, .int dlines, .int dhearers, .int dwords, .int dplans, .int dnews, .ref dr0, .ref dr1, .ref dr2, .ref dr3, .ref dr4, .ref dr5, .ref dr6, .ref dr7, .ref dr8, .ref dr9])), (dr5, .inl (g.2 0, 8, .inl dmeanings))]) := by
  refine Ct.of (by decide) (Nat.le_of_ble_eq_true rfl) ?_
  intro p e s m below meth c A ls FX hP hD hS hl
  obtain ⟨FC, hr, hlk, hKn, hA, hnm, hZ⟩ := id FX
  have FC : CallFix p m c cX10_statesMeant 4 s _ BIG RX10 := FC
  obtain ⟨hx, hb, hml, hown, hB⟩ := id FC
  have hl : lv_has ls 4 [(0, .ref h0), (1, .ref d0)] := hl
  refine lv_aload_n hx hb dX10_statesMeant_0 rfl (lv_at hl 1 rfl) ?_
  refine call_VN (As := []) (rest := []) (wr := [(h0, .inr (10, [.ref wr0, .ref wr1, .ref wr2, .ref wr3, .ref wr4, .int wsize, .int wleastOrdered, .int wfitting, .int wknowingDay, .int wknowingPlan])), (wr0, .inl (g.2 0, 10, .inl wwords)), (dr5, .inl (g.2 0, 8, .inl dmeanings))]) FC hKn hZ (k_X0_everything l g d0 dr0 dr1 dr2 dr3 dr4 dr5 dr6 dr7 dr8 dr9 dstates dreally ddays dheal dleak dlines dhearers dwords dplans dnews (by omega) (by omega) (by omega) (by omega) (by omega) (by omega) (by omega)) m_yX0_everything b_210 (ci := 0) rfl rfl rfl hP hD hS hA [2] [0, 1, 3] rfl (by decide) rfl (by decide) (by decide) rfl hl.1 rfl (Nat.le_of_ble_eq_true rfl) dX10_statesMeant_1 ⟨(Nat.le_of_ble_eq_true rfl), (Nat.le_of_ble_eq_true rfl)⟩ ⟨(Nat.le_of_ble_eq_true rfl), (Nat.le_of_ble_eq_true rfl)⟩ (fun u1 H locs q2 hP hD hS => ?_)
  have q2_0 : 0 ≤ (u1.1 0).toInt ∧ (u1.1 0).toInt ≤ 255 := q2
  have hP : va_P g.1 vwCl [(h0, .inr (10, [.ref wr0, .ref wr1, .ref wr2, .ref wr3, .ref wr4, .int wsize, .int wleastOrdered, .int wfitting, .int wknowingDay, .int wknowingPlan])), (wr0, .inl (g.2 0, 10, .inl wwords)), (dr5, .inl (g.2 0, 8, .inl dmeanings)), (d0, .inr (0, [.int dstates, .int dreally, .int ddays, .int dheal, .int dleak, .int dlines, .int dhearers, .int dwords, .int dplans, .int dnews, .ref dr0, .ref dr1, .ref dr2, .ref dr3, .ref dr4, .ref dr5, .ref dr6, .ref dr7, .ref dr8, .ref dr9]))] H := hP
  have hD : va_D A [(h0, .inr (10, [.ref wr0, .ref wr1, .ref wr2, .ref wr3, .ref wr4, .int wsize, .int wleastOrdered, .int wfitting, .int wknowingDay, .int wknowingPlan])), (wr0, .inl (g.2 0, 10, .inl wwords)), (dr5, .inl (g.2 0, 8, .inl dmeanings)), (d0, .inr (0, [.int dstates, .int dreally, .int ddays, .int dheal, .int dleak, .int dlines, .int dhearers, .int dwords, .int dplans, .int dnews, .ref dr0, .ref dr1, .ref dr2, .ref dr3, .ref dr4, .ref dr5, .ref dr6, .ref dr7, .ref dr8, .ref dr9]))] := hD
  refine W.eq (g2 := F0 m 4 ls [.int (u1.1 0)]) rfl ?_
  refine lv_istore_n (lv' := [(2, .int (u1.1 0)), (0, .ref h0), (1, .ref d0)]) hx hb dX10_statesMeant_4 rfl hl (by decide) rfl (fun ls hl => ?_)
  refine lv_iconst (v := 0) hx hb dX10_statesMeant_5 (by decide) ?_
  refine lv_istore_n (lv' := [(3, .int 0), (2, .int (u1.1 0)), (0, .ref h0), (1, .ref d0)]) hx hb dX10_statesMeant_6 rfl hl (by decide) rfl (fun ls hl => ?_)
  have lp73 : ∀ (n75 : Nat) (x71 : Int32) (x72 : Int32) (H : Heap) (locs : List Loc) (ls : Array Slot), 0 ≤ x71.toInt ∧ x71.toInt ≤ 10 → 0 ≤ x72.toInt ∧ x72.toInt ≤ 255 → (10 - x71.toInt).toNat < n75 → va_P g.1 vwCl [(h0, .inr (10, [.ref wr0, .ref wr1, .ref wr2, .ref wr3, .ref wr4, .int wsize, .int wleastOrdered, .int wfitting, .int wknowingDay, .int wknowingPlan])), (wr0, .inl (g.2 0, 10, .inl wwords)), (dr5, .inl (g.2 0, 8, .inl dmeanings)), (d0, .inr (0, [.int dstates, .int dreally, .int ddays, .int dheal, .int dleak, .int dlines, .int dhearers, .int dwords, .int dplans, .int dnews, .ref dr0, .ref dr1, .ref dr2, .ref dr3, .ref dr4, .ref dr5, .ref dr6, .ref dr7, .ref dr8, .ref dr9]))] H → va_D A [(h0, .inr (10, [.ref wr0, .ref wr1, .ref wr2, .ref wr3, .ref wr4, .int wsize, .int wleastOrdered, .int wfitting, .int wknowingDay, .int wknowingPlan])), (wr0, .inl (g.2 0, 10, .inl wwords)), (dr5, .inl (g.2 0, 8, .inl dmeanings)), (d0, .inr (0, [.int dstates, .int dreally, .int ddays, .int dheal, .int dleak, .int dlines, .int dhearers, .int dwords, .int dplans, .int dnews, .ref dr0, .ref dr1, .ref dr2, .ref dr3, .ref dr4, .ref dr5, .ref dr6, .ref dr7, .ref dr8, .ref dr9]))] → va_S A s.heap H locs → lv_has ls 4 [(3, .int x71), (2, .int x72), (0, .ref h0), (1, .ref d0)] → W p l e { frames := 1, cells := 0, slots := 0, locals := 20 } s m ([.ref h0, .ref d0].toArray) below meth c H locs 0 0 (MQ below (QX (S := (Nat → Int32) × (Nat → Nat → Int32) × (Nat → Nat → Int64)) (fun u => some (.int (u.1 0))) (fun u => True) g (fun u => [(h0, .inr (10, [.ref wr0, .ref wr1, .ref wr2, .ref wr3, .ref wr4, .int wsize, .int wleastOrdered, .int wfitting, .int wknowingDay, .int wknowingPlan])), (wr0, .inl (g.2 0, 10, .inl wwords)), (d0, .inr (0, [.int dstates, .int dreally, .int ddays, .int dheal, .int dleak, .int dlines, .int dhearers, .int dwords, .int dplans, .int dnews, .ref dr0, .ref dr1, .ref dr2, .ref dr3, .ref dr4, .ref dr5, .ref dr6, .ref dr7, .ref dr8, .ref dr9])), (dr5, .inl (g.2 0, 8, .inl dmeanings))]) A) ([.ref h0, .ref d0].toArray) s 0 0 A) (F0 m 7 ls []) := by
    intro n75
    induction n75 with
    | zero =>
      intro x71 x72 H locs ls h_x71 h_x72 hn76
      exact absurd hn76 (Nat.not_lt_zero _)
    | succ n75 ih74 =>
      intro x71 x72 H locs ls h_x71 h_x72 hn76 hP hD hS hl
      refine lv_iload_n hx hb dX10_statesMeant_7 rfl (lv_at hl 0 rfl) ?_
      refine lv_aload_n hx hb dX10_statesMeant_8 rfl (lv_at hl 2 rfl) ?_
      refine g_get (C := RX10) (T := TX10) (N := 10) (ci := 10) (v := .int wsize) FC hKn hP i_X10 0 rfl rfl 5 (by decide) b_211 rfl dX10_statesMeant_9 ?_
      refine lv_icmp_ge (tgt := 46) hx hb dX10_statesMeant_12 (by decide) (fun c77 => ?_) (fun c77 => ?_)
      · have c77 := k_le (a := wsize.toInt) (b := x71.toInt) rfl rfl c77
        refine lv_iload_n hx hb dX10_statesMeant_46 rfl (lv_at hl 1 rfl) ?_
        exact rt_i FX ((fun k => match k with | 0 => x72 | _ => 0), (fun _ => fun _ => 0), (fun _ => fun _ => 0)) rfl trivial (hP.sub [0, 1, 3, 2] rfl) (hD.sub [0, 1, 3, 2] (by decide) rfl) hS (Nat.le_of_ble_eq_true rfl) (Nat.le_of_ble_eq_true rfl) dX10_statesMeant_47
      · have c77 := k_nle (a := wsize.toInt) (b := x71.toInt) rfl rfl c77
        refine lv_aload_n hx hb dX10_statesMeant_15 rfl (lv_at hl 2 rfl) ?_
        refine g_get (C := RX10) (T := TX10) (N := 10) (ci := 10) (v := .ref wr0) FC hKn hP i_X10 0 rfl rfl 0 (by decide) b_212 rfl dX10_statesMeant_16 ?_
        refine lv_iload_n hx hb dX10_statesMeant_19 rfl (lv_at hl 0 rfl) ?_
        refine va_iald hx hb hKn.1 hP 1 0 rfl rfl (vp_in_iff.mpr ⟨by omega, by omega⟩) dX10_statesMeant_20 ?_
        refine lv_topi (fun z78 e_z78 => ?_)
        have t_z78 : 0 ≤ z78.toInt ∧ z78.toInt ≤ 8 := by rw [e_z78]; exact i_wwords _ (clt (by omega) (by omega))
        refine lv_bipush (v := 8) hx hb dX10_statesMeant_21 (by decide) ?_
        refine lv_icmp_eq (tgt := 40) hx hb dX10_statesMeant_23 (by decide) (fun c79 => ?_) (fun c79 => ?_)
        · have c79 := k_eq (a := z78.toInt) (b := 8) rfl (by decide) c79
          obtain ⟨z80, e_z80⟩ : ∃ y : Int32, y = x71 + 1 := ⟨_, rfl⟩
          have t_z80 : z80.toInt = x71.toInt + 1 := by rw [e_z80]; exact addk (by decide) (by omega) (by omega)
          refine lv_iinc (v := z80) (lv' := [(3, .int z80), (2, .int x72), (0, .ref h0), (1, .ref d0)]) hx hb dX10_statesMeant_40 hl (k := 0) rfl (by rw [e_z80]; rfl) (by decide) rfl (fun ls hl => ?_)
          refine lv_goto (tgt := 7) hx hb dX10_statesMeant_43 (by decide) ?_
          exact ih74 z80 x72 _ _ ls (by omega) (by omega) (by omega) hP hD hS (lv_sub hl [0, 1, 2, 3] rfl)
        · have c79 := k_ne (a := z78.toInt) (b := 8) rfl (by decide) c79
          refine lv_iload_n hx hb dX10_statesMeant_26 rfl (lv_at hl 1 rfl) ?_
          refine lv_aload_n hx hb dX10_statesMeant_27 rfl (lv_at hl 3 rfl) ?_
          refine g_getN (C := RX0) (T := TX0) (N := 20) (ci := 0) (v := .ref dr5) FC hKn hP i_X0 3 rfl rfl 15 (by decide) b_222 rfl dX10_statesMeant_28 ?_
          refine lv_aload_n hx hb dX10_statesMeant_31 rfl (lv_at hl 2 rfl) ?_
          refine g_get (C := RX10) (T := TX10) (N := 10) (ci := 10) (v := .ref wr0) FC hKn hP i_X10 0 rfl rfl 0 (by decide) b_212 rfl dX10_statesMeant_32 ?_
          refine lv_iload_n hx hb dX10_statesMeant_35 rfl (lv_at hl 0 rfl) ?_
          refine va_iald hx hb hKn.1 hP 1 0 rfl rfl (vp_in_iff.mpr ⟨by omega, by omega⟩) dX10_statesMeant_36 ?_
          refine tp_i (v := z78) e_z78.symm ?_
          refine va_iald hx hb hKn.1 hP 2 0 rfl rfl (vp_in_iff.mpr ⟨by omega, by omega⟩) dX10_statesMeant_37 ?_
          refine lv_topi (fun z81 e_z81 => ?_)
          have t_z81 : 0 ≤ z81.toInt ∧ z81.toInt ≤ 255 := by rw [e_z81]; exact i_dmeanings _ (clt (by omega) (by omega))
          refine lv_iand hx hb dX10_statesMeant_38 ?_
          refine lv_topi (fun z82 e_z82 => ?_)
          have t_z82 : 0 ≤ z82.toInt ∧ z82.toInt ≤ 255 := by rw [e_z82]; exact and_l (by omega) (by omega)
          refine lv_istore_n (lv' := [(2, .int z82), (3, .int x71), (0, .ref h0), (1, .ref d0)]) hx hb dX10_statesMeant_39 rfl hl (by decide) rfl (fun ls hl => ?_)
          obtain ⟨z83, e_z83⟩ : ∃ y : Int32, y = x71 + 1 := ⟨_, rfl⟩
          have t_z83 : z83.toInt = x71.toInt + 1 := by rw [e_z83]; exact addk (by decide) (by omega) (by omega)
          refine lv_iinc (v := z83) (lv' := [(3, .int z83), (2, .int z82), (0, .ref h0), (1, .ref d0)]) hx hb dX10_statesMeant_40 hl (k := 1) rfl (by rw [e_z83]; rfl) (by decide) rfl (fun ls hl => ?_)
          refine lv_goto (tgt := 7) hx hb dX10_statesMeant_43 (by decide) ?_
          exact ih74 z83 z82 _ _ ls (by omega) (by omega) (by omega) hP hD hS (lv_sub hl [0, 1, 2, 3] rfl)
  have kc0 : (0 : Int32).toInt = 0 := by decide
  exact lp73 _ (0 : Int32) (u1.1 0) _ _ ls (by decide) (by omega) (Nat.lt_succ_self _) hP hD hS (lv_sub hl [0, 1, 2, 3] rfl)
set_option maxRecDepth 100000 in
set_option maxHeartbeats 4000000 in
theorem k_X10_fillDays (l : Launch) (g : GG) (h0 : Nat) (wr0 : Nat) (wr1 : Nat) (wr2 : Nat) (wr3 : Nat) (wr4 : Nat) (d0 : Nat) (dr0 : Nat) (dr1 : Nat) (dr2 : Nat) (dr3 : Nat) (dr4 : Nat) (dr5 : Nat) (dr6 : Nat) (dr7 : Nat) (dr8 : Nat) (dr9 : Nat) (wsize : Int32) (wleastOrdered : Int32) (wfitting : Int32) (wknowingDay : Int32) (wknowingPlan : Int32) (wwords : Nat → Int32) (wbeliefs : Nat → Int32) (dstates : Int32) (dreally : Int32) (ddays : Int32) (dheal : Int32) (dleak : Int32) (dlines : Int32) (dhearers : Int32) (dwords : Int32) (dplans : Int32) (dnews : Int32) (i_wsize : 0 ≤ wsize.toInt ∧ wsize.toInt ≤ 10) (i_wknowingDay : -1 ≤ wknowingDay.toInt ∧ wknowingDay.toInt ≤ 9) (i_wknowingPlan : -1 ≤ wknowingPlan.toInt ∧ wknowingPlan.toInt ≤ 31) (i_wwords : ab wwords 10 0 8) (i_wbeliefs : ab wbeliefs 10 0 255) (i_dstates : 0 ≤ dstates.toInt ∧ dstates.toInt ≤ 8) (i_dreally : 0 ≤ dreally.toInt ∧ dreally.toInt ≤ 7) (i_ddays : 0 ≤ ddays.toInt ∧ ddays.toInt ≤ 10) (i_dhearers : 0 ≤ dhearers.toInt ∧ dhearers.toInt ≤ 4) (i_dwords : 0 ≤ dwords.toInt ∧ dwords.toInt ≤ 8) (i_dplans : 0 ≤ dplans.toInt ∧ dplans.toInt ≤ 4) (i_dnews : 0 ≤ dnews.toInt ∧ dnews.toInt ≤ 6) : Ct l g yX10_fillDays cX10_fillDays 4 none { frames := 2, cells := 0, slots := 0, locals := 41 } [.ref h0, .ref d0] [(h0, .inr (10, [.ref wr0, .ref wr1, .ref wr2, .ref wr3, .ref wr4, .int wsize, .int wleastOrdered, .int wfitting, .int wknowingDay, .int wknowingPlan])), (wr0, .inl (g.2 0, 10, .inl wwords)), (wr1, .inl (g.2 0, 10, .inl wbeliefs)), (d0, .inr (0, [.int dstates, .int dreally, .int ddays, .int dheal, .int dleak, .int dlines, .int dhearers, .int dwords, .int dplans, .int dnews, .ref dr0, .ref dr1, .ref dr2, .ref dr3, .ref dr4, .ref dr5, .ref dr6, .ref dr7, .ref dr8, .ref dr9]))] (S := (Nat → Int32) × (Nat → Nat → Int32) × (Nat → Nat → Int64)) (fun _ => none) (fun u => (0 ≤ (u.1 1).toInt ∧ (u.1 1).toInt ≤ 10) ∧ (ab (u.2.1 0) 10 0 8) ∧ (ab (u.2.1 1) 10 0 255)) (fun u => [(h0, .inr (10, [.ref wr0, .ref wr1, .ref wr2, .ref wr3, .ref wr4, .int (u.1 1), .int wleastOrdered, .int wfitting, .int wknowingDay, .int wknowingPlan])), (wr0, .inl (g.2 0, 10, .inl (u.2.1 0))), (wr1, .inl (g.2 0, 10, .inl (u.2.1 1))), (d0, .inr (0, [.int dstates, .int dreally, .int ddays, .int dheal, .int dleak, .int dlines, .int dhearers, .int dwords, .int dplans, .int dnews, .ref dr0, .ref dr1, .ref dr2, .ref dr3, .ref dr4, .ref dr5, .ref dr6, .ref dr7, .ref dr8, .ref dr9]))]) := by
  refine Ct.of (by decide) (Nat.le_of_ble_eq_true rfl) ?_
  intro p e s m below meth c A ls FX hP hD hS hl
  obtain ⟨FC, hr, hlk, hKn, hA, hnm, hZ⟩ := id FX
  have FC : CallFix p m c cX10_fillDays 4 s _ BIG RX10 := FC
  obtain ⟨hx, hb, hml, hown, hB⟩ := id FC
  have hl : lv_has ls 4 [(0, .ref h0), (1, .ref d0)] := hl
  refine lv_aload_n hx hb dX10_fillDays_0 rfl (lv_at hl 0 rfl) ?_
  refine lv_aload_n hx hb dX10_fillDays_1 rfl (lv_at hl 1 rfl) ?_
  refine call_V (As := [.ref d0]) (rest := []) (wr := [(wr0, .inl (g.2 0, 10, .inl wwords))]) FC hKn hZ (k_X10_lastBelief l g h0 wr0 wr1 wr2 wr3 wr4 d0 dr0 dr1 dr2 dr3 dr4 dr5 dr6 dr7 dr8 dr9 wsize wleastOrdered wfitting wknowingDay wknowingPlan wbeliefs dstates dreally ddays dheal dleak dlines dhearers dwords dplans dnews (by omega) (by omega) (by omega) i_wbeliefs (by omega) (by omega) (by omega) (by omega) (by omega) (by omega) (by omega)) m_yX10_lastBelief b_223 (ci := 10) rfl rfl rfl hP hD hS hA [0, 2, 3] [1] rfl (by decide) rfl (by decide) (by decide) rfl hl.1 rfl (Nat.le_of_ble_eq_true rfl) dX10_fillDays_2 ⟨(Nat.le_of_ble_eq_true rfl), (Nat.le_of_ble_eq_true rfl)⟩ ⟨(Nat.le_of_ble_eq_true rfl), (Nat.le_of_ble_eq_true rfl)⟩ (fun u1 H locs q2 hP hD hS => ?_)
  have q2_0 : 0 ≤ (u1.1 0).toInt ∧ (u1.1 0).toInt ≤ 255 := q2
  have hP : va_P g.1 vwCl [(wr0, .inl (g.2 0, 10, .inl wwords)), (h0, .inr (10, [.ref wr0, .ref wr1, .ref wr2, .ref wr3, .ref wr4, .int wsize, .int wleastOrdered, .int wfitting, .int wknowingDay, .int wknowingPlan])), (wr1, .inl (g.2 0, 10, .inl wbeliefs)), (d0, .inr (0, [.int dstates, .int dreally, .int ddays, .int dheal, .int dleak, .int dlines, .int dhearers, .int dwords, .int dplans, .int dnews, .ref dr0, .ref dr1, .ref dr2, .ref dr3, .ref dr4, .ref dr5, .ref dr6, .ref dr7, .ref dr8, .ref dr9]))] H := hP
  have hD : va_D A [(wr0, .inl (g.2 0, 10, .inl wwords)), (h0, .inr (10, [.ref wr0, .ref wr1, .ref wr2, .ref wr3, .ref wr4, .int wsize, .int wleastOrdered, .int wfitting, .int wknowingDay, .int wknowingPlan])), (wr1, .inl (g.2 0, 10, .inl wbeliefs)), (d0, .inr (0, [.int dstates, .int dreally, .int ddays, .int dheal, .int dleak, .int dlines, .int dhearers, .int dwords, .int dplans, .int dnews, .ref dr0, .ref dr1, .ref dr2, .ref dr3, .ref dr4, .ref dr5, .ref dr6, .ref dr7, .ref dr8, .ref dr9]))] := hD
  refine W.eq (g2 := F0 m 5 ls [.int (u1.1 0)]) rfl ?_
  refine lv_istore_n (lv' := [(2, .int (u1.1 0)), (0, .ref h0), (1, .ref d0)]) hx hb dX10_fillDays_5 rfl hl (by decide) rfl (fun ls hl => ?_)
  refine lv_aload_n hx hb dX10_fillDays_6 rfl (lv_at hl 1 rfl) ?_
  refine g_get (C := RX10) (T := TX10) (N := 10) (ci := 10) (v := .int wsize) FC hKn hP i_X10 1 rfl rfl 5 (by decide) b_211 rfl dX10_fillDays_7 ?_
  refine lv_istore_n (lv' := [(3, .int wsize), (2, .int (u1.1 0)), (0, .ref h0), (1, .ref d0)]) hx hb dX10_fillDays_10 rfl hl (by decide) rfl (fun ls hl => ?_)
  have lp17 : ∀ (n19 : Nat) (x14 : Int32) (x15 : Nat → Int32) (x16 : Nat → Int32) (H : Heap) (locs : List Loc) (ls : Array Slot), 0 ≤ x14.toInt ∧ x14.toInt ≤ 10 → ab x15 10 0 8 → ab x16 10 0 255 → (10 - x14.toInt).toNat < n19 → va_P g.1 vwCl [(wr0, .inl (g.2 0, 10, .inl x15)), (h0, .inr (10, [.ref wr0, .ref wr1, .ref wr2, .ref wr3, .ref wr4, .int wsize, .int wleastOrdered, .int wfitting, .int wknowingDay, .int wknowingPlan])), (wr1, .inl (g.2 0, 10, .inl x16)), (d0, .inr (0, [.int dstates, .int dreally, .int ddays, .int dheal, .int dleak, .int dlines, .int dhearers, .int dwords, .int dplans, .int dnews, .ref dr0, .ref dr1, .ref dr2, .ref dr3, .ref dr4, .ref dr5, .ref dr6, .ref dr7, .ref dr8, .ref dr9]))] H → va_D A [(wr0, .inl (g.2 0, 10, .inl x15)), (h0, .inr (10, [.ref wr0, .ref wr1, .ref wr2, .ref wr3, .ref wr4, .int wsize, .int wleastOrdered, .int wfitting, .int wknowingDay, .int wknowingPlan])), (wr1, .inl (g.2 0, 10, .inl x16)), (d0, .inr (0, [.int dstates, .int dreally, .int ddays, .int dheal, .int dleak, .int dlines, .int dhearers, .int dwords, .int dplans, .int dnews, .ref dr0, .ref dr1, .ref dr2, .ref dr3, .ref dr4, .ref dr5, .ref dr6, .ref dr7, .ref dr8, .ref dr9]))] → va_S A s.heap H locs → lv_has ls 4 [(3, .int x14), (2, .int (u1.1 0)), (0, .ref h0), (1, .ref d0)] → W p l e { frames := 2, cells := 0, slots := 0, locals := 41 } s m ([.ref h0, .ref d0].toArray) below meth c H locs 0 0 (MQ below (QX (S := (Nat → Int32) × (Nat → Nat → Int32) × (Nat → Nat → Int64)) (fun _ => none) (fun u => (0 ≤ (u.1 1).toInt ∧ (u.1 1).toInt ≤ 10) ∧ (ab (u.2.1 0) 10 0 8) ∧ (ab (u.2.1 1) 10 0 255)) g (fun u => [(h0, .inr (10, [.ref wr0, .ref wr1, .ref wr2, .ref wr3, .ref wr4, .int (u.1 1), .int wleastOrdered, .int wfitting, .int wknowingDay, .int wknowingPlan])), (wr0, .inl (g.2 0, 10, .inl (u.2.1 0))), (wr1, .inl (g.2 0, 10, .inl (u.2.1 1))), (d0, .inr (0, [.int dstates, .int dreally, .int ddays, .int dheal, .int dleak, .int dlines, .int dhearers, .int dwords, .int dplans, .int dnews, .ref dr0, .ref dr1, .ref dr2, .ref dr3, .ref dr4, .ref dr5, .ref dr6, .ref dr7, .ref dr8, .ref dr9]))]) A) ([.ref h0, .ref d0].toArray) s 0 0 A) (F0 m 11 ls []) := by
    intro n19
    induction n19 with
    | zero =>
      intro x14 x15 x16 H locs ls h_x14 h_x15 h_x16 hn20
      exact absurd hn20 (Nat.not_lt_zero _)
    | succ n19 ih18 =>
      intro x14 x15 x16 H locs ls h_x14 h_x15 h_x16 hn20 hP hD hS hl
      refine lv_iload_n hx hb dX10_fillDays_11 rfl (lv_at hl 0 rfl) ?_
      refine lv_aload_n hx hb dX10_fillDays_12 rfl (lv_at hl 3 rfl) ?_
      refine g_getN (C := RX0) (T := TX0) (N := 20) (ci := 0) (v := .int ddays) FC hKn hP i_X0 3 rfl rfl 2 (by decide) b_218 rfl dX10_fillDays_13 ?_
      refine lv_icmp_ge (tgt := 40) hx hb dX10_fillDays_16 (by decide) (fun c21 => ?_) (fun c21 => ?_)
      · have c21 := k_le (a := ddays.toInt) (b := x14.toInt) rfl rfl c21
        refine lv_aload_n hx hb dX10_fillDays_40 rfl (lv_at hl 2 rfl) ?_
        refine lv_aload_n hx hb dX10_fillDays_41 rfl (lv_at hl 3 rfl) ?_
        refine g_getN (C := RX0) (T := TX0) (N := 20) (ci := 0) (v := .int ddays) FC hKn hP i_X0 3 rfl rfl 2 (by decide) b_218 rfl dX10_fillDays_42 ?_
        refine g_put (C := RX10) (T := TX10) (N := 10) (ci := 10) (v := .int ddays) FC hKn hP hD hS i_X10 tyX10 tyX10_ok nmX10 1 rfl rfl 5 (by decide) b_211 rfl rfl rfl (Nat.le_of_ble_eq_true rfl) dX10_fillDays_45 (fun H locs hP hD hS => ?_)
        have hP : va_P g.1 vwCl [(wr0, .inl (g.2 0, 10, .inl x15)), (h0, .inr (10, [.ref wr0, .ref wr1, .ref wr2, .ref wr3, .ref wr4, .int ddays, .int wleastOrdered, .int wfitting, .int wknowingDay, .int wknowingPlan])), (wr1, .inl (g.2 0, 10, .inl x16)), (d0, .inr (0, [.int dstates, .int dreally, .int ddays, .int dheal, .int dleak, .int dlines, .int dhearers, .int dwords, .int dplans, .int dnews, .ref dr0, .ref dr1, .ref dr2, .ref dr3, .ref dr4, .ref dr5, .ref dr6, .ref dr7, .ref dr8, .ref dr9]))] H := hP
        have hD : va_D A [(wr0, .inl (g.2 0, 10, .inl x15)), (h0, .inr (10, [.ref wr0, .ref wr1, .ref wr2, .ref wr3, .ref wr4, .int ddays, .int wleastOrdered, .int wfitting, .int wknowingDay, .int wknowingPlan])), (wr1, .inl (g.2 0, 10, .inl x16)), (d0, .inr (0, [.int dstates, .int dreally, .int ddays, .int dheal, .int dleak, .int dlines, .int dhearers, .int dwords, .int dplans, .int dnews, .ref dr0, .ref dr1, .ref dr2, .ref dr3, .ref dr4, .ref dr5, .ref dr6, .ref dr7, .ref dr8, .ref dr9]))] := hD
        exact rt_v FX ((fun k => match k with | 0 => 0 | 1 => ddays | _ => 0), (fun k => match k with | 0 => x15 | 1 => x16 | _ => fun _ => 0), (fun _ => fun _ => 0)) rfl ⟨(show 0 ≤ ddays.toInt ∧ ddays.toInt ≤ 10 by omega), h_x15, h_x16⟩ (hP.sub [1, 0, 2, 3] rfl) (hD.sub [1, 0, 2, 3] (by decide) rfl) hS (Nat.le_of_ble_eq_true rfl) (Nat.le_of_ble_eq_true rfl) dX10_fillDays_48
      · have c21 := k_nle (a := ddays.toInt) (b := x14.toInt) rfl rfl c21
        refine lv_aload_n hx hb dX10_fillDays_19 rfl (lv_at hl 2 rfl) ?_
        refine g_get (C := RX10) (T := TX10) (N := 10) (ci := 10) (v := .ref wr0) FC hKn hP i_X10 1 rfl rfl 0 (by decide) b_212 rfl dX10_fillDays_20 ?_
        refine lv_iload_n hx hb dX10_fillDays_23 rfl (lv_at hl 0 rfl) ?_
        refine lv_bipush (v := 8) hx hb dX10_fillDays_24 (by decide) ?_
        refine va_iast hx hb hKn.1 hP hD hS 0 0 rfl rfl (vp_in_iff.mpr ⟨by omega, by omega⟩) dX10_fillDays_26 (fun H locs hP hD hS => ?_)
        have hP : va_P g.1 vwCl [(wr0, .inl (g.2 0, 10, .inl (upd x15 (x14.toNatClampNeg) 8))), (h0, .inr (10, [.ref wr0, .ref wr1, .ref wr2, .ref wr3, .ref wr4, .int wsize, .int wleastOrdered, .int wfitting, .int wknowingDay, .int wknowingPlan])), (wr1, .inl (g.2 0, 10, .inl x16)), (d0, .inr (0, [.int dstates, .int dreally, .int ddays, .int dheal, .int dleak, .int dlines, .int dhearers, .int dwords, .int dplans, .int dnews, .ref dr0, .ref dr1, .ref dr2, .ref dr3, .ref dr4, .ref dr5, .ref dr6, .ref dr7, .ref dr8, .ref dr9]))] H := hP
        have hD : va_D A [(wr0, .inl (g.2 0, 10, .inl (upd x15 (x14.toNatClampNeg) 8))), (h0, .inr (10, [.ref wr0, .ref wr1, .ref wr2, .ref wr3, .ref wr4, .int wsize, .int wleastOrdered, .int wfitting, .int wknowingDay, .int wknowingPlan])), (wr1, .inl (g.2 0, 10, .inl x16)), (d0, .inr (0, [.int dstates, .int dreally, .int ddays, .int dheal, .int dleak, .int dlines, .int dhearers, .int dwords, .int dplans, .int dnews, .ref dr0, .ref dr1, .ref dr2, .ref dr3, .ref dr4, .ref dr5, .ref dr6, .ref dr7, .ref dr8, .ref dr9]))] := hD
        have kc8 : (8 : Int32).toInt = 8 := by decide
        have a_f22 : ab (upd x15 (x14.toNatClampNeg) 8) 10 0 8 := ab_upd h_x15 (by decide) (by decide)
        generalize (upd x15 (x14.toNatClampNeg) 8 : Nat → Int32) = f22 at hP hD a_f22
        refine lv_aload_n hx hb dX10_fillDays_27 rfl (lv_at hl 2 rfl) ?_
        refine g_get (C := RX10) (T := TX10) (N := 10) (ci := 10) (v := .ref wr1) FC hKn hP i_X10 1 rfl rfl 1 (by decide) b_214 rfl dX10_fillDays_28 ?_
        refine lv_iload_n hx hb dX10_fillDays_31 rfl (lv_at hl 0 rfl) ?_
        refine lv_iload_n hx hb dX10_fillDays_32 rfl (lv_at hl 1 rfl) ?_
        refine va_iast hx hb hKn.1 hP hD hS 2 0 rfl rfl (vp_in_iff.mpr ⟨by omega, by omega⟩) dX10_fillDays_33 (fun H locs hP hD hS => ?_)
        have hP : va_P g.1 vwCl [(wr0, .inl (g.2 0, 10, .inl f22)), (h0, .inr (10, [.ref wr0, .ref wr1, .ref wr2, .ref wr3, .ref wr4, .int wsize, .int wleastOrdered, .int wfitting, .int wknowingDay, .int wknowingPlan])), (wr1, .inl (g.2 0, 10, .inl (upd x16 (x14.toNatClampNeg) (u1.1 0)))), (d0, .inr (0, [.int dstates, .int dreally, .int ddays, .int dheal, .int dleak, .int dlines, .int dhearers, .int dwords, .int dplans, .int dnews, .ref dr0, .ref dr1, .ref dr2, .ref dr3, .ref dr4, .ref dr5, .ref dr6, .ref dr7, .ref dr8, .ref dr9]))] H := hP
        have hD : va_D A [(wr0, .inl (g.2 0, 10, .inl f22)), (h0, .inr (10, [.ref wr0, .ref wr1, .ref wr2, .ref wr3, .ref wr4, .int wsize, .int wleastOrdered, .int wfitting, .int wknowingDay, .int wknowingPlan])), (wr1, .inl (g.2 0, 10, .inl (upd x16 (x14.toNatClampNeg) (u1.1 0)))), (d0, .inr (0, [.int dstates, .int dreally, .int ddays, .int dheal, .int dleak, .int dlines, .int dhearers, .int dwords, .int dplans, .int dnews, .ref dr0, .ref dr1, .ref dr2, .ref dr3, .ref dr4, .ref dr5, .ref dr6, .ref dr7, .ref dr8, .ref dr9]))] := hD
        have a_f23 : ab (upd x16 (x14.toNatClampNeg) (u1.1 0)) 10 0 255 := ab_upd h_x16 (by omega) (by omega)
        generalize (upd x16 (x14.toNatClampNeg) (u1.1 0) : Nat → Int32) = f23 at hP hD a_f23
        obtain ⟨z24, e_z24⟩ : ∃ y : Int32, y = x14 + 1 := ⟨_, rfl⟩
        have t_z24 : z24.toInt = x14.toInt + 1 := by rw [e_z24]; exact addk (by decide) (by omega) (by omega)
        refine lv_iinc (v := z24) (lv' := [(3, .int z24), (2, .int (u1.1 0)), (0, .ref h0), (1, .ref d0)]) hx hb dX10_fillDays_34 hl (k := 0) rfl (by rw [e_z24]; rfl) (by decide) rfl (fun ls hl => ?_)
        refine lv_goto (tgt := 11) hx hb dX10_fillDays_37 (by decide) ?_
        exact ih18 z24 f22 f23 _ _ ls (by omega) a_f22 a_f23 (by omega) hP hD hS (lv_sub hl [0, 1, 2, 3] rfl)
  exact lp17 _ wsize wwords wbeliefs _ _ ls (by omega) i_wwords i_wbeliefs (Nat.lt_succ_self _) hP hD hS (lv_sub hl [0, 1, 2, 3] rfl)
set_option maxRecDepth 100000 in
set_option maxHeartbeats 4000000 in
theorem k_X10_swap (l : Launch) (g : GG) (h0 : Nat) (wr0 : Nat) (wr1 : Nat) (wr2 : Nat) (wr3 : Nat) (wr4 : Nat) (wsize : Int32) (wleastOrdered : Int32) (wfitting : Int32) (wknowingDay : Int32) (wknowingPlan : Int32) (worder : Nat → Int32) (p1 : Int32) (p2 : Int32) (i_wsize : 0 ≤ wsize.toInt ∧ wsize.toInt ≤ 10) (i_wknowingDay : -1 ≤ wknowingDay.toInt ∧ wknowingDay.toInt ≤ 9) (i_wknowingPlan : -1 ≤ wknowingPlan.toInt ∧ wknowingPlan.toInt ≤ 31) (i_worder : ab worder 6 0 5) (i_p1 : 0 ≤ p1.toInt ∧ p1.toInt ≤ 5) (i_p2 : 0 ≤ p2.toInt ∧ p2.toInt ≤ 5) : Ct l g yX10_swap cX10_swap 4 none { frames := 0, cells := 0, slots := 0, locals := 0 } [.ref h0, .int p1, .int p2] [(h0, .inr (10, [.ref wr0, .ref wr1, .ref wr2, .ref wr3, .ref wr4, .int wsize, .int wleastOrdered, .int wfitting, .int wknowingDay, .int wknowingPlan])), (wr3, .inl (g.2 0, 6, .inl worder))] (S := (Nat → Int32) × (Nat → Nat → Int32) × (Nat → Nat → Int64)) (fun _ => none) (fun u => (ab (u.2.1 0) 6 0 5)) (fun u => [(h0, .inr (10, [.ref wr0, .ref wr1, .ref wr2, .ref wr3, .ref wr4, .int wsize, .int wleastOrdered, .int wfitting, .int wknowingDay, .int wknowingPlan])), (wr3, .inl (g.2 0, 6, .inl (u.2.1 0)))]) := by
  refine Ct.of (by decide) (Nat.le_of_ble_eq_true rfl) ?_
  intro p e s m below meth c A ls FX hP hD hS hl
  obtain ⟨FC, hr, hlk, hKn, hA, hnm, hZ⟩ := id FX
  have FC : CallFix p m c cX10_swap 4 s _ BIG RX10 := FC
  obtain ⟨hx, hb, hml, hown, hB⟩ := id FC
  have hl : lv_has ls 4 [(0, .ref h0), (1, .int p1), (2, .int p2)] := hl
  refine lv_aload_n hx hb dX10_swap_0 rfl (lv_at hl 0 rfl) ?_
  refine g_get (C := RX10) (T := TX10) (N := 10) (ci := 10) (v := .ref wr3) FC hKn hP i_X10 0 rfl rfl 3 (by decide) b_224 rfl dX10_swap_1 ?_
  refine lv_iload_n hx hb dX10_swap_4 rfl (lv_at hl 1 rfl) ?_
  refine va_iald hx hb hKn.1 hP 1 0 rfl rfl (vp_in_iff.mpr ⟨by omega, by omega⟩) dX10_swap_5 ?_
  refine lv_topi (fun z1 e_z1 => ?_)
  have t_z1 : 0 ≤ z1.toInt ∧ z1.toInt ≤ 5 := by rw [e_z1]; exact i_worder _ (clt (by omega) (by omega))
  refine lv_istore_n (lv' := [(3, .int z1), (0, .ref h0), (1, .int p1), (2, .int p2)]) hx hb dX10_swap_6 rfl hl (by decide) rfl (fun ls hl => ?_)
  refine lv_aload_n hx hb dX10_swap_7 rfl (lv_at hl 1 rfl) ?_
  refine g_get (C := RX10) (T := TX10) (N := 10) (ci := 10) (v := .ref wr3) FC hKn hP i_X10 0 rfl rfl 3 (by decide) b_224 rfl dX10_swap_8 ?_
  refine lv_iload_n hx hb dX10_swap_11 rfl (lv_at hl 2 rfl) ?_
  refine lv_aload_n hx hb dX10_swap_12 rfl (lv_at hl 1 rfl) ?_
  refine g_get (C := RX10) (T := TX10) (N := 10) (ci := 10) (v := .ref wr3) FC hKn hP i_X10 0 rfl rfl 3 (by decide) b_224 rfl dX10_swap_13 ?_
  refine lv_iload_n hx hb dX10_swap_16 rfl (lv_at hl 3 rfl) ?_
  refine va_iald hx hb hKn.1 hP 1 0 rfl rfl (vp_in_iff.mpr ⟨by omega, by omega⟩) dX10_swap_17 ?_
  refine lv_topi (fun z2 e_z2 => ?_)
  have t_z2 : 0 ≤ z2.toInt ∧ z2.toInt ≤ 5 := by rw [e_z2]; exact i_worder _ (clt (by omega) (by omega))
  refine va_iast hx hb hKn.1 hP hD hS 1 0 rfl rfl (vp_in_iff.mpr ⟨by omega, by omega⟩) dX10_swap_18 (fun H locs hP hD hS => ?_)
  have hP : va_P g.1 vwCl [(h0, .inr (10, [.ref wr0, .ref wr1, .ref wr2, .ref wr3, .ref wr4, .int wsize, .int wleastOrdered, .int wfitting, .int wknowingDay, .int wknowingPlan])), (wr3, .inl (g.2 0, 6, .inl (upd worder (p1.toNatClampNeg) z2)))] H := hP
  have hD : va_D A [(h0, .inr (10, [.ref wr0, .ref wr1, .ref wr2, .ref wr3, .ref wr4, .int wsize, .int wleastOrdered, .int wfitting, .int wknowingDay, .int wknowingPlan])), (wr3, .inl (g.2 0, 6, .inl (upd worder (p1.toNatClampNeg) z2)))] := hD
  have a_f3 : ab (upd worder (p1.toNatClampNeg) z2) 6 0 5 := ab_upd i_worder (by omega) (by omega)
  generalize (upd worder (p1.toNatClampNeg) z2 : Nat → Int32) = f3 at hP hD a_f3
  refine lv_aload_n hx hb dX10_swap_19 rfl (lv_at hl 1 rfl) ?_
  refine g_get (C := RX10) (T := TX10) (N := 10) (ci := 10) (v := .ref wr3) FC hKn hP i_X10 0 rfl rfl 3 (by decide) b_224 rfl dX10_swap_20 ?_
  refine lv_iload_n hx hb dX10_swap_23 rfl (lv_at hl 3 rfl) ?_
  refine lv_iload_n hx hb dX10_swap_24 rfl (lv_at hl 0 rfl) ?_
  refine va_iast hx hb hKn.1 hP hD hS 1 0 rfl rfl (vp_in_iff.mpr ⟨by omega, by omega⟩) dX10_swap_25 (fun H locs hP hD hS => ?_)
  have hP : va_P g.1 vwCl [(h0, .inr (10, [.ref wr0, .ref wr1, .ref wr2, .ref wr3, .ref wr4, .int wsize, .int wleastOrdered, .int wfitting, .int wknowingDay, .int wknowingPlan])), (wr3, .inl (g.2 0, 6, .inl (upd f3 (p2.toNatClampNeg) z1)))] H := hP
  have hD : va_D A [(h0, .inr (10, [.ref wr0, .ref wr1, .ref wr2, .ref wr3, .ref wr4, .int wsize, .int wleastOrdered, .int wfitting, .int wknowingDay, .int wknowingPlan])), (wr3, .inl (g.2 0, 6, .inl (upd f3 (p2.toNatClampNeg) z1)))] := hD
  have a_f4 : ab (upd f3 (p2.toNatClampNeg) z1) 6 0 5 := ab_upd a_f3 (by omega) (by omega)
  generalize (upd f3 (p2.toNatClampNeg) z1 : Nat → Int32) = f4 at hP hD a_f4
  exact rt_v FX ((fun k => match k with | 0 => 0 | _ => 0), (fun k => match k with | 0 => f4 | _ => fun _ => 0), (fun _ => fun _ => 0)) rfl a_f4 (hP.sub [0, 1] rfl) (hD.sub [0, 1] (by decide) rfl) hS (Nat.le_of_ble_eq_true rfl) (Nat.le_of_ble_eq_true rfl) dX10_swap_26
set_option maxRecDepth 100000 in
set_option maxHeartbeats 4000000 in
theorem k_X10_nextOrder (l : Launch) (g : GG) (h0 : Nat) (wr0 : Nat) (wr1 : Nat) (wr2 : Nat) (wr3 : Nat) (wr4 : Nat) (wsize : Int32) (wleastOrdered : Int32) (wfitting : Int32) (wknowingDay : Int32) (wknowingPlan : Int32) (worder : Nat → Int32) (i_wsize : 0 ≤ wsize.toInt ∧ wsize.toInt ≤ 6) (i_wknowingDay : -1 ≤ wknowingDay.toInt ∧ wknowingDay.toInt ≤ 9) (i_wknowingPlan : -1 ≤ wknowingPlan.toInt ∧ wknowingPlan.toInt ≤ 31) (i_worder : ab worder 6 0 5) : Ct l g yX10_nextOrder cX10_nextOrder 5 (some .boolean) { frames := 1, cells := 0, slots := 0, locals := 23 } [.ref h0] [(h0, .inr (10, [.ref wr0, .ref wr1, .ref wr2, .ref wr3, .ref wr4, .int wsize, .int wleastOrdered, .int wfitting, .int wknowingDay, .int wknowingPlan])), (wr3, .inl (g.2 0, 6, .inl worder))] (S := (Nat → Int32) × (Nat → Nat → Int32) × (Nat → Nat → Int64)) (fun u => some (.int (u.1 0))) (fun u => (0 ≤ (u.1 0).toInt ∧ (u.1 0).toInt ≤ 1) ∧ (ab (u.2.1 0) 6 0 5)) (fun u => [(h0, .inr (10, [.ref wr0, .ref wr1, .ref wr2, .ref wr3, .ref wr4, .int wsize, .int wleastOrdered, .int wfitting, .int wknowingDay, .int wknowingPlan])), (wr3, .inl (g.2 0, 6, .inl (u.2.1 0)))]) := by
  refine Ct.of (by decide) (Nat.le_of_ble_eq_true rfl) ?_
  intro p e s m below meth c A ls FX hP hD hS hl
  obtain ⟨FC, hr, hlk, hKn, hA, hnm, hZ⟩ := id FX
  have FC : CallFix p m c cX10_nextOrder 5 s _ BIG RX10 := FC
  obtain ⟨hx, hb, hml, hown, hB⟩ := id FC
  have hl : lv_has ls 5 [(0, .ref h0)] := hl
  refine lv_aload_n hx hb dX10_nextOrder_0 rfl (lv_at hl 0 rfl) ?_
  refine g_get (C := RX10) (T := TX10) (N := 10) (ci := 10) (v := .int wsize) FC hKn hP i_X10 0 rfl rfl 5 (by decide) b_211 rfl dX10_nextOrder_1 ?_
  refine lv_iconst (v := 2) hx hb dX10_nextOrder_4 (by decide) ?_
  refine lv_isub hx hb dX10_nextOrder_5 ?_
  have kc2 : (2 : Int32).toInt = 2 := by decide
  refine lv_topi (fun z1 e_z1 => ?_)
  have t_z1 : z1.toInt = wsize.toInt - ((2 : Int32)).toInt := by rw [e_z1]; exact fb_subI (by omega) (by omega)
  refine lv_istore_n (lv' := [(1, .int z1), (0, .ref h0)]) hx hb dX10_nextOrder_6 rfl hl (by decide) rfl (fun ls hl => ?_)
  have lp407 : ∀ (n409 : Nat) (x405 : Int32) (H : Heap) (locs : List Loc) (ls : Array Slot), -2 ≤ x405.toInt ∧ x405.toInt ≤ 4 → x405.toInt ≤ wsize.toInt - 2 → (x405.toInt - (-1)).toNat < n409 → va_P g.1 vwCl [(h0, .inr (10, [.ref wr0, .ref wr1, .ref wr2, .ref wr3, .ref wr4, .int wsize, .int wleastOrdered, .int wfitting, .int wknowingDay, .int wknowingPlan])), (wr3, .inl (g.2 0, 6, .inl worder))] H → va_D A [(h0, .inr (10, [.ref wr0, .ref wr1, .ref wr2, .ref wr3, .ref wr4, .int wsize, .int wleastOrdered, .int wfitting, .int wknowingDay, .int wknowingPlan])), (wr3, .inl (g.2 0, 6, .inl worder))] → va_S A s.heap H locs → lv_has ls 5 [(1, .int x405), (0, .ref h0)] → W p l e { frames := 1, cells := 0, slots := 0, locals := 23 } s m ([.ref h0].toArray) below meth c H locs 0 0 (MQ below (QX (S := (Nat → Int32) × (Nat → Nat → Int32) × (Nat → Nat → Int64)) (fun u => some (.int (u.1 0))) (fun u => (0 ≤ (u.1 0).toInt ∧ (u.1 0).toInt ≤ 1) ∧ (ab (u.2.1 0) 6 0 5)) g (fun u => [(h0, .inr (10, [.ref wr0, .ref wr1, .ref wr2, .ref wr3, .ref wr4, .int wsize, .int wleastOrdered, .int wfitting, .int wknowingDay, .int wknowingPlan])), (wr3, .inl (g.2 0, 6, .inl (u.2.1 0)))]) A) ([.ref h0].toArray) s 0 0 A) (F0 m 7 ls []) := by
    intro n409
    induction n409 with
    | zero =>
      intro x405 H locs ls h_x405 hi406 hn410
      exact absurd hn410 (Nat.not_lt_zero _)
    | succ n409 ih408 =>
      intro x405 H locs ls h_x405 hi406 hn410 hP hD hS hl
      refine lv_iload_n hx hb dX10_nextOrder_7 rfl (lv_at hl 0 rfl) ?_
      refine lv_if_lt (tgt := 34) hx hb dX10_nextOrder_8 (by decide) (fun c411 => ?_) (fun c411 => ?_)
      · have c411 := k_lt (a := x405.toInt) (b := 0) rfl (by decide) c411
        refine lv_iload_n hx hb dX10_nextOrder_34 rfl (lv_at hl 0 rfl) ?_
        refine lv_if_ge (tgt := 40) hx hb dX10_nextOrder_35 (by decide) (fun c412 => ?_) (fun c412 => ?_)
        · have c412 := k_le (a := 0) (b := x405.toInt) (by decide) rfl c412
          exfalso; omega
        · have c412 := k_nle (a := 0) (b := x405.toInt) (by decide) rfl c412
          refine lv_iconst (v := 0) hx hb dX10_nextOrder_38 (by decide) ?_
          exact rt_z FX rfl ((fun k => match k with | 0 => (0 : Int32) | _ => 0), (fun k => match k with | 0 => worder | _ => fun _ => 0), (fun _ => fun _ => 0)) rfl ⟨(show 0 ≤ ((0 : Int32)).toInt ∧ ((0 : Int32)).toInt ≤ 1 by decide), i_worder⟩ (hP.sub [0, 1] rfl) (hD.sub [0, 1] (by decide) rfl) hS (Nat.le_of_ble_eq_true rfl) (Nat.le_of_ble_eq_true rfl) dX10_nextOrder_39
      · have c411 := k_nlt (a := x405.toInt) (b := 0) rfl (by decide) c411
        refine lv_aload_n hx hb dX10_nextOrder_11 rfl (lv_at hl 1 rfl) ?_
        refine g_get (C := RX10) (T := TX10) (N := 10) (ci := 10) (v := .ref wr3) FC hKn hP i_X10 0 rfl rfl 3 (by decide) b_224 rfl dX10_nextOrder_12 ?_
        refine lv_iload_n hx hb dX10_nextOrder_15 rfl (lv_at hl 0 rfl) ?_
        refine va_iald hx hb hKn.1 hP 1 0 rfl rfl (vp_in_iff.mpr ⟨by omega, by omega⟩) dX10_nextOrder_16 ?_
        refine lv_topi (fun z413 e_z413 => ?_)
        have t_z413 : 0 ≤ z413.toInt ∧ z413.toInt ≤ 5 := by rw [e_z413]; exact i_worder _ (clt (by omega) (by omega))
        refine lv_aload_n hx hb dX10_nextOrder_17 rfl (lv_at hl 1 rfl) ?_
        refine g_get (C := RX10) (T := TX10) (N := 10) (ci := 10) (v := .ref wr3) FC hKn hP i_X10 0 rfl rfl 3 (by decide) b_224 rfl dX10_nextOrder_18 ?_
        refine lv_iload_n hx hb dX10_nextOrder_21 rfl (lv_at hl 0 rfl) ?_
        refine lv_iconst (v := 1) hx hb dX10_nextOrder_22 (by decide) ?_
        refine lv_iadd hx hb dX10_nextOrder_23 ?_
        have kc1 : (1 : Int32).toInt = 1 := by decide
        refine lv_topi (fun z414 e_z414 => ?_)
        have t_z414 : z414.toInt = x405.toInt + ((1 : Int32)).toInt := by rw [e_z414]; exact fb_addI (by omega) (by omega)
        refine va_iald hx hb hKn.1 hP 1 0 rfl rfl (vp_in_iff.mpr ⟨by omega, by omega⟩) dX10_nextOrder_24 ?_
        refine lv_topi (fun z415 e_z415 => ?_)
        have t_z415 : 0 ≤ z415.toInt ∧ z415.toInt ≤ 5 := by rw [e_z415]; exact i_worder _ (clt (by omega) (by omega))
        refine lv_icmp_le (tgt := 34) hx hb dX10_nextOrder_25 (by decide) (fun c416 => ?_) (fun c416 => ?_)
        · have c416 := k_le (a := z413.toInt) (b := z415.toInt) rfl rfl c416
          refine lv_iload_n hx hb dX10_nextOrder_34 rfl (lv_at hl 0 rfl) ?_
          refine lv_if_ge (tgt := 40) hx hb dX10_nextOrder_35 (by decide) (fun c417 => ?_) (fun c417 => ?_)
          · have c417 := k_le (a := 0) (b := x405.toInt) (by decide) rfl c417
            refine lv_aload_n hx hb dX10_nextOrder_40 rfl (lv_at hl 1 rfl) ?_
            refine g_get (C := RX10) (T := TX10) (N := 10) (ci := 10) (v := .int wsize) FC hKn hP i_X10 0 rfl rfl 5 (by decide) b_211 rfl dX10_nextOrder_41 ?_
            refine lv_iconst (v := 1) hx hb dX10_nextOrder_44 (by decide) ?_
            refine lv_isub hx hb dX10_nextOrder_45 ?_
            refine lv_topi (fun z418 e_z418 => ?_)
            have t_z418 : z418.toInt = wsize.toInt - ((1 : Int32)).toInt := by rw [e_z418]; exact fb_subI (by omega) (by omega)
            refine lv_istore_n (lv' := [(2, .int z418), (1, .int x405), (0, .ref h0)]) hx hb dX10_nextOrder_46 rfl hl (by decide) rfl (fun ls hl => ?_)
            have lp545 : ∀ (n547 : Nat) (x544 : Int32) (H : Heap) (locs : List Loc) (ls : Array Slot), 0 ≤ x544.toInt ∧ x544.toInt ≤ 5 → (x544.toInt - 0).toNat < n547 → va_P g.1 vwCl [(h0, .inr (10, [.ref wr0, .ref wr1, .ref wr2, .ref wr3, .ref wr4, .int wsize, .int wleastOrdered, .int wfitting, .int wknowingDay, .int wknowingPlan])), (wr3, .inl (g.2 0, 6, .inl worder))] H → va_D A [(h0, .inr (10, [.ref wr0, .ref wr1, .ref wr2, .ref wr3, .ref wr4, .int wsize, .int wleastOrdered, .int wfitting, .int wknowingDay, .int wknowingPlan])), (wr3, .inl (g.2 0, 6, .inl worder))] → va_S A s.heap H locs → lv_has ls 5 [(2, .int x544), (1, .int x405), (0, .ref h0)] → W p l e { frames := 1, cells := 0, slots := 0, locals := 23 } s m ([.ref h0].toArray) below meth c H locs 0 0 (MQ below (QX (S := (Nat → Int32) × (Nat → Nat → Int32) × (Nat → Nat → Int64)) (fun u => some (.int (u.1 0))) (fun u => (0 ≤ (u.1 0).toInt ∧ (u.1 0).toInt ≤ 1) ∧ (ab (u.2.1 0) 6 0 5)) g (fun u => [(h0, .inr (10, [.ref wr0, .ref wr1, .ref wr2, .ref wr3, .ref wr4, .int wsize, .int wleastOrdered, .int wfitting, .int wknowingDay, .int wknowingPlan])), (wr3, .inl (g.2 0, 6, .inl (u.2.1 0)))]) A) ([.ref h0].toArray) s 0 0 A) (F0 m 47 ls []) := by
              intro n547
              induction n547 with
              | zero =>
                intro x544 H locs ls h_x544 hn548
                exact absurd hn548 (Nat.not_lt_zero _)
              | succ n547 ih546 =>
                intro x544 H locs ls h_x544 hn548 hP hD hS hl
                refine lv_iload_n hx hb dX10_nextOrder_47 rfl (lv_at hl 0 rfl) ?_
                refine lv_iload_n hx hb dX10_nextOrder_48 rfl (lv_at hl 1 rfl) ?_
                refine lv_icmp_le (tgt := 73) hx hb dX10_nextOrder_49 (by decide) (fun c549 => ?_) (fun c549 => ?_)
                · have c549 := k_le (a := x544.toInt) (b := x405.toInt) rfl rfl c549
                  refine lv_aload_n hx hb dX10_nextOrder_73 rfl (lv_at hl 2 rfl) ?_
                  refine lv_iload_n hx hb dX10_nextOrder_74 rfl (lv_at hl 1 rfl) ?_
                  refine lv_iload_n hx hb dX10_nextOrder_75 rfl (lv_at hl 0 rfl) ?_
                  refine call_V (As := [.int x405, .int x544]) (rest := []) (wr := []) FC hKn hZ (k_X10_swap l g h0 wr0 wr1 wr2 wr3 wr4 wsize wleastOrdered wfitting wknowingDay wknowingPlan worder x405 x544 (by omega) (by omega) (by omega) i_worder (by omega) (by omega)) m_yX10_swap b_225 (ci := 10) rfl rfl rfl hP hD hS hA [0, 1] [] rfl (by decide) rfl (by decide) (by decide) rfl hl.1 rfl (Nat.le_of_ble_eq_true rfl) dX10_nextOrder_76 ⟨(Nat.le_of_ble_eq_true rfl), (Nat.le_of_ble_eq_true rfl)⟩ ⟨(Nat.le_of_ble_eq_true rfl), (Nat.le_of_ble_eq_true rfl)⟩ (fun u550 H locs q551 hP hD hS => ?_)
                  have q551_0 : ab (u550.2.1 0) 6 0 5 := q551
                  have hP : va_P g.1 vwCl [(h0, .inr (10, [.ref wr0, .ref wr1, .ref wr2, .ref wr3, .ref wr4, .int wsize, .int wleastOrdered, .int wfitting, .int wknowingDay, .int wknowingPlan])), (wr3, .inl (g.2 0, 6, .inl (u550.2.1 0)))] H := hP
                  have hD : va_D A [(h0, .inr (10, [.ref wr0, .ref wr1, .ref wr2, .ref wr3, .ref wr4, .int wsize, .int wleastOrdered, .int wfitting, .int wknowingDay, .int wknowingPlan])), (wr3, .inl (g.2 0, 6, .inl (u550.2.1 0)))] := hD
                  refine W.eq (g2 := F0 m 79 ls []) rfl ?_
                  refine lv_iload_n hx hb dX10_nextOrder_79 rfl (lv_at hl 1 rfl) ?_
                  refine lv_iconst (v := 1) hx hb dX10_nextOrder_80 (by decide) ?_
                  refine lv_iadd hx hb dX10_nextOrder_81 ?_
                  refine lv_topi (fun z552 e_z552 => ?_)
                  have t_z552 : z552.toInt = x405.toInt + ((1 : Int32)).toInt := by rw [e_z552]; exact fb_addI (by omega) (by omega)
                  refine lv_istore_n (lv' := [(3, .int z552), (2, .int x544), (1, .int x405), (0, .ref h0)]) hx hb dX10_nextOrder_82 rfl hl (by decide) rfl (fun ls hl => ?_)
                  refine lv_aload_n hx hb dX10_nextOrder_83 rfl (lv_at hl 3 rfl) ?_
                  refine g_get (C := RX10) (T := TX10) (N := 10) (ci := 10) (v := .int wsize) FC hKn hP i_X10 0 rfl rfl 5 (by decide) b_211 rfl dX10_nextOrder_84 ?_
                  refine lv_iconst (v := 1) hx hb dX10_nextOrder_87 (by decide) ?_
                  refine lv_isub hx hb dX10_nextOrder_88 ?_
                  refine lv_topi (fun z553 e_z553 => ?_)
                  have t_z553 : z553.toInt = wsize.toInt - ((1 : Int32)).toInt := by rw [e_z553]; exact fb_subI (by omega) (by omega)
                  refine lv_istore (lv' := [(4, .int z553), (3, .int z552), (2, .int x544), (1, .int x405), (0, .ref h0)]) hx hb dX10_nextOrder_89 hl (by decide) rfl (fun ls hl => ?_)
                  have lp570 : ∀ (n572 : Nat) (x567 : Int32) (x568 : Int32) (x569 : Nat → Int32) (H : Heap) (locs : List Loc) (ls : Array Slot), -1 ≤ x567.toInt ∧ x567.toInt ≤ 5 → 1 ≤ x568.toInt ∧ x568.toInt ≤ 5 → ab x569 6 0 5 → (5 - x568.toInt).toNat < n572 → va_P g.1 vwCl [(h0, .inr (10, [.ref wr0, .ref wr1, .ref wr2, .ref wr3, .ref wr4, .int wsize, .int wleastOrdered, .int wfitting, .int wknowingDay, .int wknowingPlan])), (wr3, .inl (g.2 0, 6, .inl x569))] H → va_D A [(h0, .inr (10, [.ref wr0, .ref wr1, .ref wr2, .ref wr3, .ref wr4, .int wsize, .int wleastOrdered, .int wfitting, .int wknowingDay, .int wknowingPlan])), (wr3, .inl (g.2 0, 6, .inl x569))] → va_S A s.heap H locs → lv_has ls 5 [(4, .int x567), (3, .int x568), (2, .int x544), (1, .int x405), (0, .ref h0)] → W p l e { frames := 1, cells := 0, slots := 0, locals := 23 } s m ([.ref h0].toArray) below meth c H locs 0 0 (MQ below (QX (S := (Nat → Int32) × (Nat → Nat → Int32) × (Nat → Nat → Int64)) (fun u => some (.int (u.1 0))) (fun u => (0 ≤ (u.1 0).toInt ∧ (u.1 0).toInt ≤ 1) ∧ (ab (u.2.1 0) 6 0 5)) g (fun u => [(h0, .inr (10, [.ref wr0, .ref wr1, .ref wr2, .ref wr3, .ref wr4, .int wsize, .int wleastOrdered, .int wfitting, .int wknowingDay, .int wknowingPlan])), (wr3, .inl (g.2 0, 6, .inl (u.2.1 0)))]) A) ([.ref h0].toArray) s 0 0 A) (F0 m 91 ls []) := by
                    intro n572
                    induction n572 with
                    | zero =>
                      intro x567 x568 x569 H locs ls h_x567 h_x568 h_x569 hn573
                      exact absurd hn573 (Nat.not_lt_zero _)
                    | succ n572 ih571 =>
                      intro x567 x568 x569 H locs ls h_x567 h_x568 h_x569 hn573 hP hD hS hl
                      refine lv_iload_n hx hb dX10_nextOrder_91 rfl (lv_at hl 1 rfl) ?_
                      refine lv_iload hx hb dX10_nextOrder_92 (lv_at hl 0 rfl) ?_
                      refine lv_icmp_ge (tgt := 113) hx hb dX10_nextOrder_94 (by decide) (fun c574 => ?_) (fun c574 => ?_)
                      · have c574 := k_le (a := x567.toInt) (b := x568.toInt) rfl rfl c574
                        refine lv_iconst (v := 1) hx hb dX10_nextOrder_113 (by decide) ?_
                        exact rt_z FX rfl ((fun k => match k with | 0 => (1 : Int32) | _ => 0), (fun k => match k with | 0 => x569 | _ => fun _ => 0), (fun _ => fun _ => 0)) rfl ⟨(show 0 ≤ ((1 : Int32)).toInt ∧ ((1 : Int32)).toInt ≤ 1 by decide), h_x569⟩ (hP.sub [0, 1] rfl) (hD.sub [0, 1] (by decide) rfl) hS (Nat.le_of_ble_eq_true rfl) (Nat.le_of_ble_eq_true rfl) dX10_nextOrder_114
                      · have c574 := k_nle (a := x567.toInt) (b := x568.toInt) rfl rfl c574
                        refine lv_aload_n hx hb dX10_nextOrder_97 rfl (lv_at hl 4 rfl) ?_
                        refine lv_iload_n hx hb dX10_nextOrder_98 rfl (lv_at hl 1 rfl) ?_
                        refine lv_iload hx hb dX10_nextOrder_99 (lv_at hl 0 rfl) ?_
                        refine call_V (As := [.int x568, .int x567]) (rest := []) (wr := []) FC hKn hZ (k_X10_swap l g h0 wr0 wr1 wr2 wr3 wr4 wsize wleastOrdered wfitting wknowingDay wknowingPlan x569 x568 x567 (by omega) (by omega) (by omega) h_x569 (by omega) (by omega)) m_yX10_swap b_225 (ci := 10) rfl rfl rfl hP hD hS hA [0, 1] [] rfl (by decide) rfl (by decide) (by decide) rfl hl.1 rfl (Nat.le_of_ble_eq_true rfl) dX10_nextOrder_101 ⟨(Nat.le_of_ble_eq_true rfl), (Nat.le_of_ble_eq_true rfl)⟩ ⟨(Nat.le_of_ble_eq_true rfl), (Nat.le_of_ble_eq_true rfl)⟩ (fun u575 H locs q576 hP hD hS => ?_)
                        have q576_0 : ab (u575.2.1 0) 6 0 5 := q576
                        have hP : va_P g.1 vwCl [(h0, .inr (10, [.ref wr0, .ref wr1, .ref wr2, .ref wr3, .ref wr4, .int wsize, .int wleastOrdered, .int wfitting, .int wknowingDay, .int wknowingPlan])), (wr3, .inl (g.2 0, 6, .inl (u575.2.1 0)))] H := hP
                        have hD : va_D A [(h0, .inr (10, [.ref wr0, .ref wr1, .ref wr2, .ref wr3, .ref wr4, .int wsize, .int wleastOrdered, .int wfitting, .int wknowingDay, .int wknowingPlan])), (wr3, .inl (g.2 0, 6, .inl (u575.2.1 0)))] := hD
                        refine W.eq (g2 := F0 m 104 ls []) rfl ?_
                        obtain ⟨z577, e_z577⟩ : ∃ y : Int32, y = x568 + 1 := ⟨_, rfl⟩
                        have t_z577 : z577.toInt = x568.toInt + 1 := by rw [e_z577]; exact addk (by decide) (by omega) (by omega)
                        refine lv_iinc (v := z577) (lv' := [(3, .int z577), (4, .int x567), (2, .int x544), (1, .int x405), (0, .ref h0)]) hx hb dX10_nextOrder_104 hl (k := 1) rfl (by rw [e_z577]; rfl) (by decide) rfl (fun ls hl => ?_)
                        obtain ⟨z578, e_z578⟩ : ∃ y : Int32, y = x567 + (-1) := ⟨_, rfl⟩
                        have t_z578 : z578.toInt = x567.toInt + (-1) := by rw [e_z578]; exact addk (by decide) (by omega) (by omega)
                        refine lv_iinc (v := z578) (lv' := [(4, .int z578), (3, .int z577), (2, .int x544), (1, .int x405), (0, .ref h0)]) hx hb dX10_nextOrder_107 hl (k := 1) rfl (by rw [e_z578]; rfl) (by decide) rfl (fun ls hl => ?_)
                        refine lv_goto (tgt := 91) hx hb dX10_nextOrder_110 (by decide) ?_
                        exact ih571 z578 z577 (u575.2.1 0) _ _ ls (by omega) (by omega) q576_0 (by omega) hP hD hS (lv_sub hl [0, 1, 2, 3, 4] rfl)
                  exact lp570 _ z553 z552 (u550.2.1 0) _ _ ls (by omega) (by omega) q551_0 (Nat.lt_succ_self _) hP hD hS (lv_sub hl [0, 1, 2, 3, 4] rfl)
                · have c549 := k_nle (a := x544.toInt) (b := x405.toInt) rfl rfl c549
                  refine lv_aload_n hx hb dX10_nextOrder_52 rfl (lv_at hl 2 rfl) ?_
                  refine g_get (C := RX10) (T := TX10) (N := 10) (ci := 10) (v := .ref wr3) FC hKn hP i_X10 0 rfl rfl 3 (by decide) b_224 rfl dX10_nextOrder_53 ?_
                  refine lv_iload_n hx hb dX10_nextOrder_56 rfl (lv_at hl 0 rfl) ?_
                  refine va_iald hx hb hKn.1 hP 1 0 rfl rfl (vp_in_iff.mpr ⟨by omega, by omega⟩) dX10_nextOrder_57 ?_
                  refine lv_topi (fun z579 e_z579 => ?_)
                  have t_z579 : 0 ≤ z579.toInt ∧ z579.toInt ≤ 5 := by rw [e_z579]; exact i_worder _ (clt (by omega) (by omega))
                  refine lv_aload_n hx hb dX10_nextOrder_58 rfl (lv_at hl 2 rfl) ?_
                  refine g_get (C := RX10) (T := TX10) (N := 10) (ci := 10) (v := .ref wr3) FC hKn hP i_X10 0 rfl rfl 3 (by decide) b_224 rfl dX10_nextOrder_59 ?_
                  refine lv_iload_n hx hb dX10_nextOrder_62 rfl (lv_at hl 1 rfl) ?_
                  refine va_iald hx hb hKn.1 hP 1 0 rfl rfl (vp_in_iff.mpr ⟨by omega, by omega⟩) dX10_nextOrder_63 ?_
                  refine tp_i (v := z413) e_z413.symm ?_
                  refine lv_icmp_ge (tgt := 73) hx hb dX10_nextOrder_64 (by decide) (fun c580 => ?_) (fun c580 => ?_)
                  · have c580 := k_le (a := z413.toInt) (b := z579.toInt) rfl rfl c580
                    refine lv_aload_n hx hb dX10_nextOrder_73 rfl (lv_at hl 2 rfl) ?_
                    refine lv_iload_n hx hb dX10_nextOrder_74 rfl (lv_at hl 1 rfl) ?_
                    refine lv_iload_n hx hb dX10_nextOrder_75 rfl (lv_at hl 0 rfl) ?_
                    refine call_V (As := [.int x405, .int x544]) (rest := []) (wr := []) FC hKn hZ (k_X10_swap l g h0 wr0 wr1 wr2 wr3 wr4 wsize wleastOrdered wfitting wknowingDay wknowingPlan worder x405 x544 (by omega) (by omega) (by omega) i_worder (by omega) (by omega)) m_yX10_swap b_225 (ci := 10) rfl rfl rfl hP hD hS hA [0, 1] [] rfl (by decide) rfl (by decide) (by decide) rfl hl.1 rfl (Nat.le_of_ble_eq_true rfl) dX10_nextOrder_76 ⟨(Nat.le_of_ble_eq_true rfl), (Nat.le_of_ble_eq_true rfl)⟩ ⟨(Nat.le_of_ble_eq_true rfl), (Nat.le_of_ble_eq_true rfl)⟩ (fun u581 H locs q582 hP hD hS => ?_)
                    have q582_0 : ab (u581.2.1 0) 6 0 5 := q582
                    have hP : va_P g.1 vwCl [(h0, .inr (10, [.ref wr0, .ref wr1, .ref wr2, .ref wr3, .ref wr4, .int wsize, .int wleastOrdered, .int wfitting, .int wknowingDay, .int wknowingPlan])), (wr3, .inl (g.2 0, 6, .inl (u581.2.1 0)))] H := hP
                    have hD : va_D A [(h0, .inr (10, [.ref wr0, .ref wr1, .ref wr2, .ref wr3, .ref wr4, .int wsize, .int wleastOrdered, .int wfitting, .int wknowingDay, .int wknowingPlan])), (wr3, .inl (g.2 0, 6, .inl (u581.2.1 0)))] := hD
                    refine W.eq (g2 := F0 m 79 ls []) rfl ?_
                    refine lv_iload_n hx hb dX10_nextOrder_79 rfl (lv_at hl 1 rfl) ?_
                    refine lv_iconst (v := 1) hx hb dX10_nextOrder_80 (by decide) ?_
                    refine lv_iadd hx hb dX10_nextOrder_81 ?_
                    refine lv_topi (fun z583 e_z583 => ?_)
                    have t_z583 : z583.toInt = x405.toInt + ((1 : Int32)).toInt := by rw [e_z583]; exact fb_addI (by omega) (by omega)
                    refine lv_istore_n (lv' := [(3, .int z583), (2, .int x544), (1, .int x405), (0, .ref h0)]) hx hb dX10_nextOrder_82 rfl hl (by decide) rfl (fun ls hl => ?_)
                    refine lv_aload_n hx hb dX10_nextOrder_83 rfl (lv_at hl 3 rfl) ?_
                    refine g_get (C := RX10) (T := TX10) (N := 10) (ci := 10) (v := .int wsize) FC hKn hP i_X10 0 rfl rfl 5 (by decide) b_211 rfl dX10_nextOrder_84 ?_
                    refine lv_iconst (v := 1) hx hb dX10_nextOrder_87 (by decide) ?_
                    refine lv_isub hx hb dX10_nextOrder_88 ?_
                    refine lv_topi (fun z584 e_z584 => ?_)
                    have t_z584 : z584.toInt = wsize.toInt - ((1 : Int32)).toInt := by rw [e_z584]; exact fb_subI (by omega) (by omega)
                    refine lv_istore (lv' := [(4, .int z584), (3, .int z583), (2, .int x544), (1, .int x405), (0, .ref h0)]) hx hb dX10_nextOrder_89 hl (by decide) rfl (fun ls hl => ?_)
                    have lp601 : ∀ (n603 : Nat) (x598 : Int32) (x599 : Int32) (x600 : Nat → Int32) (H : Heap) (locs : List Loc) (ls : Array Slot), -1 ≤ x598.toInt ∧ x598.toInt ≤ 5 → 1 ≤ x599.toInt ∧ x599.toInt ≤ 5 → ab x600 6 0 5 → (5 - x599.toInt).toNat < n603 → va_P g.1 vwCl [(h0, .inr (10, [.ref wr0, .ref wr1, .ref wr2, .ref wr3, .ref wr4, .int wsize, .int wleastOrdered, .int wfitting, .int wknowingDay, .int wknowingPlan])), (wr3, .inl (g.2 0, 6, .inl x600))] H → va_D A [(h0, .inr (10, [.ref wr0, .ref wr1, .ref wr2, .ref wr3, .ref wr4, .int wsize, .int wleastOrdered, .int wfitting, .int wknowingDay, .int wknowingPlan])), (wr3, .inl (g.2 0, 6, .inl x600))] → va_S A s.heap H locs → lv_has ls 5 [(4, .int x598), (3, .int x599), (2, .int x544), (1, .int x405), (0, .ref h0)] → W p l e { frames := 1, cells := 0, slots := 0, locals := 23 } s m ([.ref h0].toArray) below meth c H locs 0 0 (MQ below (QX (S := (Nat → Int32) × (Nat → Nat → Int32) × (Nat → Nat → Int64)) (fun u => some (.int (u.1 0))) (fun u => (0 ≤ (u.1 0).toInt ∧ (u.1 0).toInt ≤ 1) ∧ (ab (u.2.1 0) 6 0 5)) g (fun u => [(h0, .inr (10, [.ref wr0, .ref wr1, .ref wr2, .ref wr3, .ref wr4, .int wsize, .int wleastOrdered, .int wfitting, .int wknowingDay, .int wknowingPlan])), (wr3, .inl (g.2 0, 6, .inl (u.2.1 0)))]) A) ([.ref h0].toArray) s 0 0 A) (F0 m 91 ls []) := by
                      intro n603
                      induction n603 with
                      | zero =>
                        intro x598 x599 x600 H locs ls h_x598 h_x599 h_x600 hn604
                        exact absurd hn604 (Nat.not_lt_zero _)
                      | succ n603 ih602 =>
                        intro x598 x599 x600 H locs ls h_x598 h_x599 h_x600 hn604 hP hD hS hl
                        refine lv_iload_n hx hb dX10_nextOrder_91 rfl (lv_at hl 1 rfl) ?_
                        refine lv_iload hx hb dX10_nextOrder_92 (lv_at hl 0 rfl) ?_
                        refine lv_icmp_ge (tgt := 113) hx hb dX10_nextOrder_94 (by decide) (fun c605 => ?_) (fun c605 => ?_)
                        · have c605 := k_le (a := x598.toInt) (b := x599.toInt) rfl rfl c605
                          refine lv_iconst (v := 1) hx hb dX10_nextOrder_113 (by decide) ?_
                          exact rt_z FX rfl ((fun k => match k with | 0 => (1 : Int32) | _ => 0), (fun k => match k with | 0 => x600 | _ => fun _ => 0), (fun _ => fun _ => 0)) rfl ⟨(show 0 ≤ ((1 : Int32)).toInt ∧ ((1 : Int32)).toInt ≤ 1 by decide), h_x600⟩ (hP.sub [0, 1] rfl) (hD.sub [0, 1] (by decide) rfl) hS (Nat.le_of_ble_eq_true rfl) (Nat.le_of_ble_eq_true rfl) dX10_nextOrder_114
                        · have c605 := k_nle (a := x598.toInt) (b := x599.toInt) rfl rfl c605
                          refine lv_aload_n hx hb dX10_nextOrder_97 rfl (lv_at hl 4 rfl) ?_
                          refine lv_iload_n hx hb dX10_nextOrder_98 rfl (lv_at hl 1 rfl) ?_
                          refine lv_iload hx hb dX10_nextOrder_99 (lv_at hl 0 rfl) ?_
                          refine call_V (As := [.int x599, .int x598]) (rest := []) (wr := []) FC hKn hZ (k_X10_swap l g h0 wr0 wr1 wr2 wr3 wr4 wsize wleastOrdered wfitting wknowingDay wknowingPlan x600 x599 x598 (by omega) (by omega) (by omega) h_x600 (by omega) (by omega)) m_yX10_swap b_225 (ci := 10) rfl rfl rfl hP hD hS hA [0, 1] [] rfl (by decide) rfl (by decide) (by decide) rfl hl.1 rfl (Nat.le_of_ble_eq_true rfl) dX10_nextOrder_101 ⟨(Nat.le_of_ble_eq_true rfl), (Nat.le_of_ble_eq_true rfl)⟩ ⟨(Nat.le_of_ble_eq_true rfl), (Nat.le_of_ble_eq_true rfl)⟩ (fun u606 H locs q607 hP hD hS => ?_)
                          have q607_0 : ab (u606.2.1 0) 6 0 5 := q607
                          have hP : va_P g.1 vwCl [(h0, .inr (10, [.ref wr0, .ref wr1, .ref wr2, .ref wr3, .ref wr4, .int wsize, .int wleastOrdered, .int wfitting, .int wknowingDay, .int wknowingPlan])), (wr3, .inl (g.2 0, 6, .inl (u606.2.1 0)))] H := hP
                          have hD : va_D A [(h0, .inr (10, [.ref wr0, .ref wr1, .ref wr2, .ref wr3, .ref wr4, .int wsize, .int wleastOrdered, .int wfitting, .int wknowingDay, .int wknowingPlan])), (wr3, .inl (g.2 0, 6, .inl (u606.2.1 0)))] := hD
                          refine W.eq (g2 := F0 m 104 ls []) rfl ?_
                          obtain ⟨z608, e_z608⟩ : ∃ y : Int32, y = x599 + 1 := ⟨_, rfl⟩
                          have t_z608 : z608.toInt = x599.toInt + 1 := by rw [e_z608]; exact addk (by decide) (by omega) (by omega)
                          refine lv_iinc (v := z608) (lv' := [(3, .int z608), (4, .int x598), (2, .int x544), (1, .int x405), (0, .ref h0)]) hx hb dX10_nextOrder_104 hl (k := 1) rfl (by rw [e_z608]; rfl) (by decide) rfl (fun ls hl => ?_)
                          obtain ⟨z609, e_z609⟩ : ∃ y : Int32, y = x598 + (-1) := ⟨_, rfl⟩
                          have t_z609 : z609.toInt = x598.toInt + (-1) := by rw [e_z609]; exact addk (by decide) (by omega) (by omega)
                          refine lv_iinc (v := z609) (lv' := [(4, .int z609), (3, .int z608), (2, .int x544), (1, .int x405), (0, .ref h0)]) hx hb dX10_nextOrder_107 hl (k := 1) rfl (by rw [e_z609]; rfl) (by decide) rfl (fun ls hl => ?_)
                          refine lv_goto (tgt := 91) hx hb dX10_nextOrder_110 (by decide) ?_
                          exact ih602 z609 z608 (u606.2.1 0) _ _ ls (by omega) (by omega) q607_0 (by omega) hP hD hS (lv_sub hl [0, 1, 2, 3, 4] rfl)
                    exact lp601 _ z584 z583 (u581.2.1 0) _ _ ls (by omega) (by omega) q582_0 (Nat.lt_succ_self _) hP hD hS (lv_sub hl [0, 1, 2, 3, 4] rfl)
                  · have c580 := k_nle (a := z413.toInt) (b := z579.toInt) rfl rfl c580
                    obtain ⟨z610, e_z610⟩ : ∃ y : Int32, y = x544 + (-1) := ⟨_, rfl⟩
                    have t_z610 : z610.toInt = x544.toInt + (-1) := by rw [e_z610]; exact addk (by decide) (by omega) (by omega)
                    refine lv_iinc (v := z610) (lv' := [(2, .int z610), (1, .int x405), (0, .ref h0)]) hx hb dX10_nextOrder_67 hl (k := 0) rfl (by rw [e_z610]; rfl) (by decide) rfl (fun ls hl => ?_)
                    refine lv_goto (tgt := 47) hx hb dX10_nextOrder_70 (by decide) ?_
                    exact ih546 z610 _ _ ls (by omega) (by omega) hP hD hS (lv_sub hl [0, 1, 2] rfl)
            exact lp545 _ z418 _ _ ls (by omega) (Nat.lt_succ_self _) hP hD hS (lv_sub hl [0, 1, 2] rfl)
          · have c417 := k_nle (a := 0) (b := x405.toInt) (by decide) rfl c417
            exfalso; omega
        · have c416 := k_nle (a := z413.toInt) (b := z415.toInt) rfl rfl c416
          obtain ⟨z611, e_z611⟩ : ∃ y : Int32, y = x405 + (-1) := ⟨_, rfl⟩
          have t_z611 : z611.toInt = x405.toInt + (-1) := by rw [e_z611]; exact addk (by decide) (by omega) (by omega)
          refine lv_iinc (v := z611) (lv' := [(1, .int z611), (0, .ref h0)]) hx hb dX10_nextOrder_28 hl (k := 0) rfl (by rw [e_z611]; rfl) (by decide) rfl (fun ls hl => ?_)
          refine lv_goto (tgt := 7) hx hb dX10_nextOrder_31 (by decide) ?_
          exact ih408 z611 _ _ ls (by omega) (by omega) (by omega) hP hD hS (lv_sub hl [0, 1] rfl)
  exact lp407 _ z1 _ _ ls (by omega) (by omega) (Nat.lt_succ_self _) hP hD hS (lv_sub hl [0, 1] rfl)
set_option maxRecDepth 100000 in
set_option maxHeartbeats 4000000 in
theorem k_X10_leftByOrder (l : Launch) (g : GG) (h0 : Nat) (wr0 : Nat) (wr1 : Nat) (wr2 : Nat) (wr3 : Nat) (wr4 : Nat) (d0 : Nat) (dr0 : Nat) (dr1 : Nat) (dr2 : Nat) (dr3 : Nat) (dr4 : Nat) (dr5 : Nat) (dr6 : Nat) (dr7 : Nat) (dr8 : Nat) (dr9 : Nat) (m0 : Nat) (mr0 : Nat) (wsize : Int32) (wleastOrdered : Int32) (wfitting : Int32) (wknowingDay : Int32) (wknowingPlan : Int32) (worder : Nat → Int32) (wwords : Nat → Int32) (dstates : Int32) (dreally : Int32) (ddays : Int32) (dheal : Int32) (dleak : Int32) (dlines : Int32) (dhearers : Int32) (dwords : Int32) (dplans : Int32) (dnews : Int32) (dmeanings : Nat → Int32) (mmeans : Nat → Int32) (i_wsize : 0 ≤ wsize.toInt ∧ wsize.toInt ≤ 6) (i_wknowingDay : -1 ≤ wknowingDay.toInt ∧ wknowingDay.toInt ≤ 9) (i_wknowingPlan : -1 ≤ wknowingPlan.toInt ∧ wknowingPlan.toInt ≤ 31) (i_worder : ab worder 6 0 5) (i_wwords : ab wwords 10 0 8) (i_dstates : 0 ≤ dstates.toInt ∧ dstates.toInt ≤ 8) (i_dreally : 0 ≤ dreally.toInt ∧ dreally.toInt ≤ 7) (i_ddays : 0 ≤ ddays.toInt ∧ ddays.toInt ≤ 10) (i_dhearers : 0 ≤ dhearers.toInt ∧ dhearers.toInt ≤ 4) (i_dwords : 0 ≤ dwords.toInt ∧ dwords.toInt ≤ 8) (i_dplans : 0 ≤ dplans.toInt ∧ dplans.toInt ≤ 4) (i_dnews : 0 ≤ dnews.toInt ∧ dnews.toInt ≤ 6) (i_dmeanings : ab dmeanings 8 0 255) : Ct l g yX10_leftByOrder cX10_leftByOrder 7 (some .int) { frames := 2, cells := 0, slots := 0, locals := 44 } [.ref h0, .ref d0, .ref m0] [(h0, .inr (10, [.ref wr0, .ref wr1, .ref wr2, .ref wr3, .ref wr4, .int wsize, .int wleastOrdered, .int wfitting, .int wknowingDay, .int wknowingPlan])), (wr3, .inl (g.2 0, 6, .inl worder)), (wr0, .inl (g.2 0, 10, .inl wwords)), (d0, .inr (0, [.int dstates, .int dreally, .int ddays, .int dheal, .int dleak, .int dlines, .int dhearers, .int dwords, .int dplans, .int dnews, .ref dr0, .ref dr1, .ref dr2, .ref dr3, .ref dr4, .ref dr5, .ref dr6, .ref dr7, .ref dr8, .ref dr9])), (dr5, .inl (g.2 0, 8, .inl dmeanings)), (m0, .inr (4, [.ref mr0])), (mr0, .inl (g.2 0, 256, .inl mmeans))] (S := (Nat → Int32) × (Nat → Nat → Int32) × (Nat → Nat → Int64)) (fun u => some (.int (u.1 0))) (fun u => True) (fun u => [(h0, .inr (10, [.ref wr0, .ref wr1, .ref wr2, .ref wr3, .ref wr4, .int wsize, .int wleastOrdered, .int wfitting, .int wknowingDay, .int wknowingPlan])), (wr3, .inl (g.2 0, 6, .inl worder)), (wr0, .inl (g.2 0, 10, .inl wwords)), (d0, .inr (0, [.int dstates, .int dreally, .int ddays, .int dheal, .int dleak, .int dlines, .int dhearers, .int dwords, .int dplans, .int dnews, .ref dr0, .ref dr1, .ref dr2, .ref dr3, .ref dr4, .ref dr5, .ref dr6, .ref dr7, .ref dr8, .ref dr9])), (dr5, .inl (g.2 0, 8, .inl dmeanings)), (m0, .inr (4, [.ref mr0])), (mr0, .inl (g.2 0, 256, .inl mmeans))]) := by
  refine Ct.of (by decide) (Nat.le_of_ble_eq_true rfl) ?_
  intro p e s m below meth c A ls FX hP hD hS hl
  obtain ⟨FC, hr, hlk, hKn, hA, hnm, hZ⟩ := id FX
  have FC : CallFix p m c cX10_leftByOrder 7 s _ BIG RX10 := FC
  obtain ⟨hx, hb, hml, hown, hB⟩ := id FC
  have hl : lv_has ls 7 [(0, .ref h0), (1, .ref d0), (2, .ref m0)] := hl
  refine lv_aload_n hx hb dX10_leftByOrder_0 rfl (lv_at hl 1 rfl) ?_
  refine call_VN (As := []) (rest := []) (wr := [(h0, .inr (10, [.ref wr0, .ref wr1, .ref wr2, .ref wr3, .ref wr4, .int wsize, .int wleastOrdered, .int wfitting, .int wknowingDay, .int wknowingPlan])), (wr3, .inl (g.2 0, 6, .inl worder)), (wr0, .inl (g.2 0, 10, .inl wwords)), (dr5, .inl (g.2 0, 8, .inl dmeanings)), (m0, .inr (4, [.ref mr0])), (mr0, .inl (g.2 0, 256, .inl mmeans))]) FC hKn hZ (k_X0_everything l g d0 dr0 dr1 dr2 dr3 dr4 dr5 dr6 dr7 dr8 dr9 dstates dreally ddays dheal dleak dlines dhearers dwords dplans dnews (by omega) (by omega) (by omega) (by omega) (by omega) (by omega) (by omega)) m_yX0_everything b_210 (ci := 0) rfl rfl rfl hP hD hS hA [3] [0, 1, 2, 4, 5, 6] rfl (by decide) rfl (by decide) (by decide +kernel) rfl hl.1 rfl (Nat.le_of_ble_eq_true rfl) dX10_leftByOrder_1 ⟨(Nat.le_of_ble_eq_true rfl), (Nat.le_of_ble_eq_true rfl)⟩ ⟨(Nat.le_of_ble_eq_true rfl), (Nat.le_of_ble_eq_true rfl)⟩ (fun u1 H locs q2 hP hD hS => ?_)
  have q2_0 : 0 ≤ (u1.1 0).toInt ∧ (u1.1 0).toInt ≤ 255 := q2
  have hP : va_P g.1 vwCl [(h0, .inr (10, [.ref wr0, .ref wr1, .ref wr2, .ref wr3, .ref wr4, .int wsize, .int wleastOrdered, .int wfitting, .int wknowingDay, .int wknowingPlan])), (wr3, .inl (g.2 0, 6, .inl worder)), (wr0, .inl (g.2 0, 10, .inl wwords)), (dr5, .inl (g.2 0, 8, .inl dmeanings)), (m0, .inr (4, [.ref mr0])), (mr0, .inl (g.2 0, 256, .inl mmeans)), (d0, .inr (0, [.int dstates, .int dreally, .int ddays, .int dheal, .int dleak, .int dlines, .int dhearers, .int dwords, .int dplans, .int dnews, .ref dr0, .ref dr1, .ref dr2, .ref dr3, .ref dr4, .ref dr5, .ref dr6, .ref dr7, .ref dr8, .ref dr9]))] H := hP
  have hD : va_D A [(h0, .inr (10, [.ref wr0, .ref wr1, .ref wr2, .ref wr3, .ref wr4, .int wsize, .int wleastOrdered, .int wfitting, .int wknowingDay, .int wknowingPlan])), (wr3, .inl (g.2 0, 6, .inl worder)), (wr0, .inl (g.2 0, 10, .inl wwords)), (dr5, .inl (g.2 0, 8, .inl dmeanings)), (m0, .inr (4, [.ref mr0])), (mr0, .inl (g.2 0, 256, .inl mmeans)), (d0, .inr (0, [.int dstates, .int dreally, .int ddays, .int dheal, .int dleak, .int dlines, .int dhearers, .int dwords, .int dplans, .int dnews, .ref dr0, .ref dr1, .ref dr2, .ref dr3, .ref dr4, .ref dr5, .ref dr6, .ref dr7, .ref dr8, .ref dr9]))] := hD
  refine W.eq (g2 := F0 m 4 ls [.int (u1.1 0)]) rfl ?_
  refine lv_istore_n (lv' := [(3, .int (u1.1 0)), (0, .ref h0), (1, .ref d0), (2, .ref m0)]) hx hb dX10_leftByOrder_4 rfl hl (by decide) rfl (fun ls hl => ?_)
  refine lv_iconst (v := 0) hx hb dX10_leftByOrder_5 (by decide) ?_
  refine lv_istore (lv' := [(4, .int 0), (3, .int (u1.1 0)), (0, .ref h0), (1, .ref d0), (2, .ref m0)]) hx hb dX10_leftByOrder_6 hl (by decide) rfl (fun ls hl => ?_)
  refine lv_iconst (v := 0) hx hb dX10_leftByOrder_8 (by decide) ?_
  refine lv_istore (lv' := [(5, .int 0), (4, .int 0), (3, .int (u1.1 0)), (0, .ref h0), (1, .ref d0), (2, .ref m0)]) hx hb dX10_leftByOrder_9 hl (by decide) rfl (fun ls hl => ?_)
  have lp137 : ∀ (n139 : Nat) (x134 : Int32) (x135 : Int32) (x136 : Int32) (H : Heap) (locs : List Loc) (ls : Array Slot), 0 ≤ x134.toInt ∧ x134.toInt ≤ 6 → 0 ≤ x136.toInt ∧ x136.toInt ≤ 255 → (6 - x134.toInt).toNat < n139 → va_P g.1 vwCl [(h0, .inr (10, [.ref wr0, .ref wr1, .ref wr2, .ref wr3, .ref wr4, .int wsize, .int wleastOrdered, .int wfitting, .int wknowingDay, .int wknowingPlan])), (wr3, .inl (g.2 0, 6, .inl worder)), (wr0, .inl (g.2 0, 10, .inl wwords)), (dr5, .inl (g.2 0, 8, .inl dmeanings)), (m0, .inr (4, [.ref mr0])), (mr0, .inl (g.2 0, 256, .inl mmeans)), (d0, .inr (0, [.int dstates, .int dreally, .int ddays, .int dheal, .int dleak, .int dlines, .int dhearers, .int dwords, .int dplans, .int dnews, .ref dr0, .ref dr1, .ref dr2, .ref dr3, .ref dr4, .ref dr5, .ref dr6, .ref dr7, .ref dr8, .ref dr9]))] H → va_D A [(h0, .inr (10, [.ref wr0, .ref wr1, .ref wr2, .ref wr3, .ref wr4, .int wsize, .int wleastOrdered, .int wfitting, .int wknowingDay, .int wknowingPlan])), (wr3, .inl (g.2 0, 6, .inl worder)), (wr0, .inl (g.2 0, 10, .inl wwords)), (dr5, .inl (g.2 0, 8, .inl dmeanings)), (m0, .inr (4, [.ref mr0])), (mr0, .inl (g.2 0, 256, .inl mmeans)), (d0, .inr (0, [.int dstates, .int dreally, .int ddays, .int dheal, .int dleak, .int dlines, .int dhearers, .int dwords, .int dplans, .int dnews, .ref dr0, .ref dr1, .ref dr2, .ref dr3, .ref dr4, .ref dr5, .ref dr6, .ref dr7, .ref dr8, .ref dr9]))] → va_S A s.heap H locs → lv_has ls 7 [(5, .int x134), (4, .int x135), (3, .int x136), (0, .ref h0), (1, .ref d0), (2, .ref m0)] → W p l e { frames := 2, cells := 0, slots := 0, locals := 44 } s m ([.ref h0, .ref d0, .ref m0].toArray) below meth c H locs 0 0 (MQ below (QX (S := (Nat → Int32) × (Nat → Nat → Int32) × (Nat → Nat → Int64)) (fun u => some (.int (u.1 0))) (fun u => True) g (fun u => [(h0, .inr (10, [.ref wr0, .ref wr1, .ref wr2, .ref wr3, .ref wr4, .int wsize, .int wleastOrdered, .int wfitting, .int wknowingDay, .int wknowingPlan])), (wr3, .inl (g.2 0, 6, .inl worder)), (wr0, .inl (g.2 0, 10, .inl wwords)), (d0, .inr (0, [.int dstates, .int dreally, .int ddays, .int dheal, .int dleak, .int dlines, .int dhearers, .int dwords, .int dplans, .int dnews, .ref dr0, .ref dr1, .ref dr2, .ref dr3, .ref dr4, .ref dr5, .ref dr6, .ref dr7, .ref dr8, .ref dr9])), (dr5, .inl (g.2 0, 8, .inl dmeanings)), (m0, .inr (4, [.ref mr0])), (mr0, .inl (g.2 0, 256, .inl mmeans))]) A) ([.ref h0, .ref d0, .ref m0].toArray) s 0 0 A) (F0 m 11 ls []) := by
    intro n139
    induction n139 with
    | zero =>
      intro x134 x135 x136 H locs ls h_x134 h_x136 hn140
      exact absurd hn140 (Nat.not_lt_zero _)
    | succ n139 ih138 =>
      intro x134 x135 x136 H locs ls h_x134 h_x136 hn140 hP hD hS hl
      refine lv_iload hx hb dX10_leftByOrder_11 (lv_at hl 0 rfl) ?_
      refine lv_aload_n hx hb dX10_leftByOrder_13 rfl (lv_at hl 3 rfl) ?_
      refine g_get (C := RX10) (T := TX10) (N := 10) (ci := 10) (v := .int wsize) FC hKn hP i_X10 0 rfl rfl 5 (by decide) b_211 rfl dX10_leftByOrder_14 ?_
      refine lv_icmp_ge (tgt := 80) hx hb dX10_leftByOrder_17 (by decide) (fun c141 => ?_) (fun c141 => ?_)
      · have c141 := k_le (a := wsize.toInt) (b := x134.toInt) rfl rfl c141
        refine lv_iload hx hb dX10_leftByOrder_80 (lv_at hl 1 rfl) ?_
        exact rt_i FX ((fun k => match k with | 0 => x135 | _ => 0), (fun _ => fun _ => 0), (fun _ => fun _ => 0)) rfl trivial (hP.sub [0, 1, 2, 6, 3, 4, 5] rfl) (hD.sub [0, 1, 2, 6, 3, 4, 5] (by decide +kernel) rfl) hS (Nat.le_of_ble_eq_true rfl) (Nat.le_of_ble_eq_true rfl) dX10_leftByOrder_82
      · have c141 := k_nle (a := wsize.toInt) (b := x134.toInt) rfl rfl c141
        refine lv_iload hx hb dX10_leftByOrder_20 (lv_at hl 0 rfl) ?_
        refine lv_bipush (v := 6) hx hb dX10_leftByOrder_22 (by decide) ?_
        refine lv_icmp_ge (tgt := 80) hx hb dX10_leftByOrder_24 (by decide) (fun c142 => ?_) (fun c142 => ?_)
        · have c142 := k_le (a := 6) (b := x134.toInt) (by decide) rfl c142
          exfalso; omega
        · have c142 := k_nle (a := 6) (b := x134.toInt) (by decide) rfl c142
          refine lv_aload_n hx hb dX10_leftByOrder_27 rfl (lv_at hl 4 rfl) ?_
          refine lv_iload_n hx hb dX10_leftByOrder_28 rfl (lv_at hl 2 rfl) ?_
          refine lv_aload_n hx hb dX10_leftByOrder_29 rfl (lv_at hl 3 rfl) ?_
          refine g_get (C := RX10) (T := TX10) (N := 10) (ci := 10) (v := .ref wr0) FC hKn hP i_X10 0 rfl rfl 0 (by decide) b_212 rfl dX10_leftByOrder_30 ?_
          refine lv_aload_n hx hb dX10_leftByOrder_33 rfl (lv_at hl 3 rfl) ?_
          refine g_get (C := RX10) (T := TX10) (N := 10) (ci := 10) (v := .ref wr3) FC hKn hP i_X10 0 rfl rfl 3 (by decide) b_224 rfl dX10_leftByOrder_34 ?_
          refine lv_iload hx hb dX10_leftByOrder_37 (lv_at hl 0 rfl) ?_
          refine va_iald hx hb hKn.1 hP 1 0 rfl rfl (vp_in_iff.mpr ⟨by omega, by omega⟩) dX10_leftByOrder_39 ?_
          refine lv_topi (fun z143 e_z143 => ?_)
          have t_z143 : 0 ≤ z143.toInt ∧ z143.toInt ≤ 5 := by rw [e_z143]; exact i_worder _ (clt (by omega) (by omega))
          refine va_iald hx hb hKn.1 hP 2 0 rfl rfl (vp_in_iff.mpr ⟨by omega, by omega⟩) dX10_leftByOrder_40 ?_
          refine lv_topi (fun z144 e_z144 => ?_)
          have t_z144 : 0 ≤ z144.toInt ∧ z144.toInt ≤ 8 := by rw [e_z144]; exact i_wwords _ (clt (by omega) (by omega))
          refine call_VN (As := [.int x136, .int z144]) (rest := []) (wr := [(h0, .inr (10, [.ref wr0, .ref wr1, .ref wr2, .ref wr3, .ref wr4, .int wsize, .int wleastOrdered, .int wfitting, .int wknowingDay, .int wknowingPlan])), (wr3, .inl (g.2 0, 6, .inl worder)), (wr0, .inl (g.2 0, 10, .inl wwords)), (m0, .inr (4, [.ref mr0])), (mr0, .inl (g.2 0, 256, .inl mmeans))]) FC hKn hZ (k_X0_nextBelief l g d0 dr0 dr1 dr2 dr3 dr4 dr5 dr6 dr7 dr8 dr9 dstates dreally ddays dheal dleak dlines dhearers dwords dplans dnews dmeanings x136 z144 (by omega) (by omega) (by omega) (by omega) (by omega) (by omega) (by omega) i_dmeanings (by omega)) m_yX0_nextBelief b_213 (ci := 0) rfl rfl rfl hP hD hS hA [6, 3] [0, 1, 2, 4, 5] rfl (by decide) rfl (by decide) (by decide +kernel) rfl hl.1 rfl (Nat.le_of_ble_eq_true rfl) dX10_leftByOrder_41 ⟨(Nat.le_of_ble_eq_true rfl), (Nat.le_of_ble_eq_true rfl)⟩ ⟨(Nat.le_of_ble_eq_true rfl), (Nat.le_of_ble_eq_true rfl)⟩ (fun u145 H locs q146 hP hD hS => ?_)
          have q146_0 : 0 ≤ (u145.1 0).toInt ∧ (u145.1 0).toInt ≤ 255 := q146
          have hP : va_P g.1 vwCl [(h0, .inr (10, [.ref wr0, .ref wr1, .ref wr2, .ref wr3, .ref wr4, .int wsize, .int wleastOrdered, .int wfitting, .int wknowingDay, .int wknowingPlan])), (wr3, .inl (g.2 0, 6, .inl worder)), (wr0, .inl (g.2 0, 10, .inl wwords)), (m0, .inr (4, [.ref mr0])), (mr0, .inl (g.2 0, 256, .inl mmeans)), (d0, .inr (0, [.int dstates, .int dreally, .int ddays, .int dheal, .int dleak, .int dlines, .int dhearers, .int dwords, .int dplans, .int dnews, .ref dr0, .ref dr1, .ref dr2, .ref dr3, .ref dr4, .ref dr5, .ref dr6, .ref dr7, .ref dr8, .ref dr9])), (dr5, .inl (g.2 0, 8, .inl dmeanings))] H := hP
          have hD : va_D A [(h0, .inr (10, [.ref wr0, .ref wr1, .ref wr2, .ref wr3, .ref wr4, .int wsize, .int wleastOrdered, .int wfitting, .int wknowingDay, .int wknowingPlan])), (wr3, .inl (g.2 0, 6, .inl worder)), (wr0, .inl (g.2 0, 10, .inl wwords)), (m0, .inr (4, [.ref mr0])), (mr0, .inl (g.2 0, 256, .inl mmeans)), (d0, .inr (0, [.int dstates, .int dreally, .int ddays, .int dheal, .int dleak, .int dlines, .int dhearers, .int dwords, .int dplans, .int dnews, .ref dr0, .ref dr1, .ref dr2, .ref dr3, .ref dr4, .ref dr5, .ref dr6, .ref dr7, .ref dr8, .ref dr9])), (dr5, .inl (g.2 0, 8, .inl dmeanings))] := hD
          refine W.eq (g2 := F0 m 44 ls [.int (u145.1 0)]) rfl ?_
          refine lv_istore (lv' := [(6, .int (u145.1 0)), (5, .int x134), (4, .int x135), (3, .int x136), (0, .ref h0), (1, .ref d0), (2, .ref m0)]) hx hb dX10_leftByOrder_44 hl (by decide) rfl (fun ls hl => ?_)
          refine lv_iload hx hb dX10_leftByOrder_46 (lv_at hl 2 rfl) ?_
          refine lv_aload_n hx hb dX10_leftByOrder_48 rfl (lv_at hl 5 rfl) ?_
          refine lv_aload_n hx hb dX10_leftByOrder_49 rfl (lv_at hl 6 rfl) ?_
          refine lv_iload_n hx hb dX10_leftByOrder_50 rfl (lv_at hl 3 rfl) ?_
          refine lv_iload hx hb dX10_leftByOrder_51 (lv_at hl 0 rfl) ?_
          refine call_VN (As := [.int x136, .int (u145.1 0)]) (rest := [.ref d0, .int x135]) (wr := [(h0, .inr (10, [.ref wr0, .ref wr1, .ref wr2, .ref wr3, .ref wr4, .int wsize, .int wleastOrdered, .int wfitting, .int wknowingDay, .int wknowingPlan])), (wr3, .inl (g.2 0, 6, .inl worder)), (wr0, .inl (g.2 0, 10, .inl wwords)), (d0, .inr (0, [.int dstates, .int dreally, .int ddays, .int dheal, .int dleak, .int dlines, .int dhearers, .int dwords, .int dplans, .int dnews, .ref dr0, .ref dr1, .ref dr2, .ref dr3, .ref dr4, .ref dr5, .ref dr6, .ref dr7, .ref dr8, .ref dr9])), (dr5, .inl (g.2 0, 8, .inl dmeanings))]) FC hKn hZ (k_X4_pain l g m0 mr0 mmeans x136 (u145.1 0) (by omega) (by omega)) m_yX4_pain b_226 (ci := 4) rfl rfl rfl hP hD hS hA [3, 4] [0, 1, 2, 5, 6] rfl (by decide) rfl (by decide) (by decide +kernel) rfl hl.1 rfl (Nat.le_of_ble_eq_true rfl) dX10_leftByOrder_53 ⟨(Nat.le_of_ble_eq_true rfl), (Nat.le_of_ble_eq_true rfl)⟩ ⟨(Nat.le_of_ble_eq_true rfl), (Nat.le_of_ble_eq_true rfl)⟩ (fun u147 H locs q148 hP hD hS => ?_)
          have hP : va_P g.1 vwCl [(h0, .inr (10, [.ref wr0, .ref wr1, .ref wr2, .ref wr3, .ref wr4, .int wsize, .int wleastOrdered, .int wfitting, .int wknowingDay, .int wknowingPlan])), (wr3, .inl (g.2 0, 6, .inl worder)), (wr0, .inl (g.2 0, 10, .inl wwords)), (d0, .inr (0, [.int dstates, .int dreally, .int ddays, .int dheal, .int dleak, .int dlines, .int dhearers, .int dwords, .int dplans, .int dnews, .ref dr0, .ref dr1, .ref dr2, .ref dr3, .ref dr4, .ref dr5, .ref dr6, .ref dr7, .ref dr8, .ref dr9])), (dr5, .inl (g.2 0, 8, .inl dmeanings)), (m0, .inr (4, [.ref mr0])), (mr0, .inl (g.2 0, 256, .inl mmeans))] H := hP
          have hD : va_D A [(h0, .inr (10, [.ref wr0, .ref wr1, .ref wr2, .ref wr3, .ref wr4, .int wsize, .int wleastOrdered, .int wfitting, .int wknowingDay, .int wknowingPlan])), (wr3, .inl (g.2 0, 6, .inl worder)), (wr0, .inl (g.2 0, 10, .inl wwords)), (d0, .inr (0, [.int dstates, .int dreally, .int ddays, .int dheal, .int dleak, .int dlines, .int dhearers, .int dwords, .int dplans, .int dnews, .ref dr0, .ref dr1, .ref dr2, .ref dr3, .ref dr4, .ref dr5, .ref dr6, .ref dr7, .ref dr8, .ref dr9])), (dr5, .inl (g.2 0, 8, .inl dmeanings)), (m0, .inr (4, [.ref mr0])), (mr0, .inl (g.2 0, 256, .inl mmeans))] := hD
          refine W.eq (g2 := F0 m 56 ls [.int (u147.1 0), .ref d0, .int x135]) rfl ?_
          refine lv_aload_n hx hb dX10_leftByOrder_56 rfl (lv_at hl 5 rfl) ?_
          refine g_getN (C := RX0) (T := TX0) (N := 20) (ci := 0) (v := .int ddays) FC hKn hP i_X0 3 rfl rfl 2 (by decide) b_218 rfl dX10_leftByOrder_57 ?_
          refine lv_iconst (v := 1) hx hb dX10_leftByOrder_60 (by decide) ?_
          refine lv_isub hx hb dX10_leftByOrder_61 ?_
          have kc1 : (1 : Int32).toInt = 1 := by decide
          refine lv_topi (fun z149 e_z149 => ?_)
          have t_z149 : z149.toInt = ddays.toInt - ((1 : Int32)).toInt := by rw [e_z149]; exact fb_subI (by omega) (by omega)
          refine lv_iload hx hb dX10_leftByOrder_62 (lv_at hl 1 rfl) ?_
          refine lv_isub hx hb dX10_leftByOrder_64 ?_
          refine lv_topi (fun z150 e_z150 => ?_)
          have t_z150 : z150.toInt = z149.toInt - x134.toInt := by rw [e_z150]; exact fb_subI (by omega) (by omega)
          refine call_VN (As := [.int (u147.1 0), .int z150]) (rest := [.int x135]) (wr := [(h0, .inr (10, [.ref wr0, .ref wr1, .ref wr2, .ref wr3, .ref wr4, .int wsize, .int wleastOrdered, .int wfitting, .int wknowingDay, .int wknowingPlan])), (wr3, .inl (g.2 0, 6, .inl worder)), (wr0, .inl (g.2 0, 10, .inl wwords)), (dr5, .inl (g.2 0, 8, .inl dmeanings)), (m0, .inr (4, [.ref mr0])), (mr0, .inl (g.2 0, 256, .inl mmeans))]) FC hKn hZ (k_X0_leftOf l g d0 dr0 dr1 dr2 dr3 dr4 dr5 dr6 dr7 dr8 dr9 dstates dreally ddays dheal dleak dlines dhearers dwords dplans dnews (u147.1 0) z150 (by omega) (by omega) (by omega) (by omega) (by omega) (by omega) (by omega)) m_yX0_leftOf b_219 (ci := 0) rfl rfl rfl hP hD hS hA [3] [0, 1, 2, 4, 5, 6] rfl (by decide) rfl (by decide) (by decide +kernel) rfl hl.1 rfl (Nat.le_of_ble_eq_true rfl) dX10_leftByOrder_65 ⟨(Nat.le_of_ble_eq_true rfl), (Nat.le_of_ble_eq_true rfl)⟩ ⟨(Nat.le_of_ble_eq_true rfl), (Nat.le_of_ble_eq_true rfl)⟩ (fun u151 H locs q152 hP hD hS => ?_)
          have hP : va_P g.1 vwCl [(h0, .inr (10, [.ref wr0, .ref wr1, .ref wr2, .ref wr3, .ref wr4, .int wsize, .int wleastOrdered, .int wfitting, .int wknowingDay, .int wknowingPlan])), (wr3, .inl (g.2 0, 6, .inl worder)), (wr0, .inl (g.2 0, 10, .inl wwords)), (dr5, .inl (g.2 0, 8, .inl dmeanings)), (m0, .inr (4, [.ref mr0])), (mr0, .inl (g.2 0, 256, .inl mmeans)), (d0, .inr (0, [.int dstates, .int dreally, .int ddays, .int dheal, .int dleak, .int dlines, .int dhearers, .int dwords, .int dplans, .int dnews, .ref dr0, .ref dr1, .ref dr2, .ref dr3, .ref dr4, .ref dr5, .ref dr6, .ref dr7, .ref dr8, .ref dr9]))] H := hP
          have hD : va_D A [(h0, .inr (10, [.ref wr0, .ref wr1, .ref wr2, .ref wr3, .ref wr4, .int wsize, .int wleastOrdered, .int wfitting, .int wknowingDay, .int wknowingPlan])), (wr3, .inl (g.2 0, 6, .inl worder)), (wr0, .inl (g.2 0, 10, .inl wwords)), (dr5, .inl (g.2 0, 8, .inl dmeanings)), (m0, .inr (4, [.ref mr0])), (mr0, .inl (g.2 0, 256, .inl mmeans)), (d0, .inr (0, [.int dstates, .int dreally, .int ddays, .int dheal, .int dleak, .int dlines, .int dhearers, .int dwords, .int dplans, .int dnews, .ref dr0, .ref dr1, .ref dr2, .ref dr3, .ref dr4, .ref dr5, .ref dr6, .ref dr7, .ref dr8, .ref dr9]))] := hD
          refine W.eq (g2 := F0 m 68 ls [.int (u151.1 0), .int x135]) rfl ?_
          refine lv_iadd hx hb dX10_leftByOrder_68 ?_
          refine lv_topi (fun z153 e_z153 => ?_)
          refine lv_istore (lv' := [(4, .int z153), (6, .int (u145.1 0)), (5, .int x134), (3, .int x136), (0, .ref h0), (1, .ref d0), (2, .ref m0)]) hx hb dX10_leftByOrder_69 hl (by decide) rfl (fun ls hl => ?_)
          refine lv_iload hx hb dX10_leftByOrder_71 (lv_at hl 1 rfl) ?_
          refine lv_istore_n (lv' := [(3, .int (u145.1 0)), (4, .int z153), (6, .int (u145.1 0)), (5, .int x134), (0, .ref h0), (1, .ref d0), (2, .ref m0)]) hx hb dX10_leftByOrder_73 rfl hl (by decide) rfl (fun ls hl => ?_)
          obtain ⟨z154, e_z154⟩ : ∃ y : Int32, y = x134 + 1 := ⟨_, rfl⟩
          have t_z154 : z154.toInt = x134.toInt + 1 := by rw [e_z154]; exact addk (by decide) (by omega) (by omega)
          refine lv_iinc (v := z154) (lv' := [(5, .int z154), (3, .int (u145.1 0)), (4, .int z153), (6, .int (u145.1 0)), (0, .ref h0), (1, .ref d0), (2, .ref m0)]) hx hb dX10_leftByOrder_74 hl (k := 3) rfl (by rw [e_z154]; rfl) (by decide) rfl (fun ls hl => ?_)
          refine lv_goto (tgt := 11) hx hb dX10_leftByOrder_77 (by decide) ?_
          exact ih138 z154 z153 (u145.1 0) _ _ ls (by omega) (by omega) (by omega) hP hD hS (lv_sub hl [0, 2, 1, 4, 5, 6] rfl)
  have kc0 : (0 : Int32).toInt = 0 := by decide
  exact lp137 _ (0 : Int32) (0 : Int32) (u1.1 0) _ _ ls (by decide) (by omega) (Nat.lt_succ_self _) hP hD hS (lv_sub hl [0, 1, 2, 3, 4, 5] rfl)
set_option maxRecDepth 100000 in
set_option maxHeartbeats 4000000 in
theorem k_X10_orderSoftly (l : Launch) (g : GG) (h0 : Nat) (wr0 : Nat) (wr1 : Nat) (wr2 : Nat) (wr3 : Nat) (wr4 : Nat) (d0 : Nat) (dr0 : Nat) (dr1 : Nat) (dr2 : Nat) (dr3 : Nat) (dr4 : Nat) (dr5 : Nat) (dr6 : Nat) (dr7 : Nat) (dr8 : Nat) (dr9 : Nat) (m0 : Nat) (mr0 : Nat) (wsize : Int32) (wleastOrdered : Int32) (wfitting : Int32) (wknowingDay : Int32) (wknowingPlan : Int32) (worder : Nat → Int32) (wbestOrder : Nat → Int32) (wwords : Nat → Int32) (dstates : Int32) (dreally : Int32) (ddays : Int32) (dheal : Int32) (dleak : Int32) (dlines : Int32) (dhearers : Int32) (dwords : Int32) (dplans : Int32) (dnews : Int32) (dmeanings : Nat → Int32) (mmeans : Nat → Int32) (i_wsize : 0 ≤ wsize.toInt ∧ wsize.toInt ≤ 6) (i_wknowingDay : -1 ≤ wknowingDay.toInt ∧ wknowingDay.toInt ≤ 9) (i_wknowingPlan : -1 ≤ wknowingPlan.toInt ∧ wknowingPlan.toInt ≤ 31) (i_worder : ab worder 6 0 5) (i_wwords : ab wwords 10 0 8) (i_dstates : 0 ≤ dstates.toInt ∧ dstates.toInt ≤ 8) (i_dreally : 0 ≤ dreally.toInt ∧ dreally.toInt ≤ 7) (i_ddays : 0 ≤ ddays.toInt ∧ ddays.toInt ≤ 10) (i_dhearers : 0 ≤ dhearers.toInt ∧ dhearers.toInt ≤ 4) (i_dwords : 0 ≤ dwords.toInt ∧ dwords.toInt ≤ 8) (i_dplans : 0 ≤ dplans.toInt ∧ dplans.toInt ≤ 4) (i_dnews : 0 ≤ dnews.toInt ∧ dnews.toInt ≤ 6) (i_dmeanings : ab dmeanings 8 0 255) : Ct l g yX10_orderSoftly cX10_orderSoftly 6 none { frames := 3, cells := 0, slots := 0, locals := 70 } [.ref h0, .ref d0, .ref m0] [(h0, .inr (10, [.ref wr0, .ref wr1, .ref wr2, .ref wr3, .ref wr4, .int wsize, .int wleastOrdered, .int wfitting, .int wknowingDay, .int wknowingPlan])), (wr3, .inl (g.2 0, 6, .inl worder)), (wr4, .inl (g.2 0, 6, .inl wbestOrder)), (wr0, .inl (g.2 0, 10, .inl wwords)), (d0, .inr (0, [.int dstates, .int dreally, .int ddays, .int dheal, .int dleak, .int dlines, .int dhearers, .int dwords, .int dplans, .int dnews, .ref dr0, .ref dr1, .ref dr2, .ref dr3, .ref dr4, .ref dr5, .ref dr6, .ref dr7, .ref dr8, .ref dr9])), (dr5, .inl (g.2 0, 8, .inl dmeanings)), (m0, .inr (4, [.ref mr0])), (mr0, .inl (g.2 0, 256, .inl mmeans))] (S := (Nat → Int32) × (Nat → Nat → Int32) × (Nat → Nat → Int64)) (fun _ => none) (fun u => (ab (u.2.1 0) 6 0 5)) (fun u => [(h0, .inr (10, [.ref wr0, .ref wr1, .ref wr2, .ref wr3, .ref wr4, .int wsize, .int (u.1 1), .int wfitting, .int wknowingDay, .int wknowingPlan])), (wr3, .inl (g.2 0, 6, .inl (u.2.1 0))), (wr4, .inl (g.2 0, 6, .inl (u.2.1 1))), (wr0, .inl (g.2 0, 10, .inl wwords)), (d0, .inr (0, [.int dstates, .int dreally, .int ddays, .int dheal, .int dleak, .int dlines, .int dhearers, .int dwords, .int dplans, .int dnews, .ref dr0, .ref dr1, .ref dr2, .ref dr3, .ref dr4, .ref dr5, .ref dr6, .ref dr7, .ref dr8, .ref dr9])), (dr5, .inl (g.2 0, 8, .inl dmeanings)), (m0, .inr (4, [.ref mr0])), (mr0, .inl (g.2 0, 256, .inl mmeans))]) := by
  refine Ct.of (by decide) (Nat.le_of_ble_eq_true rfl) ?_
  intro p e s m below meth c A ls FX hP hD hS hl
  obtain ⟨FC, hr, hlk, hKn, hA, hnm, hZ⟩ := id FX
  have FC : CallFix p m c cX10_orderSoftly 6 s _ BIG RX10 := FC
  obtain ⟨hx, hb, hml, hown, hB⟩ := id FC
  have hl : lv_has ls 6 [(0, .ref h0), (1, .ref d0), (2, .ref m0)] := hl
  refine lv_iconst (v := 0) hx hb dX10_orderSoftly_0 (by decide) ?_
  refine lv_istore_n (lv' := [(3, .int 0), (0, .ref h0), (1, .ref d0), (2, .ref m0)]) hx hb dX10_orderSoftly_1 rfl hl (by decide) rfl (fun ls hl => ?_)
  have lp1231 : ∀ (n1233 : Nat) (x1229 : Int32) (x1230 : Nat → Int32) (H : Heap) (locs : List Loc) (ls : Array Slot), 0 ≤ x1229.toInt ∧ x1229.toInt ≤ 6 → ab x1230 6 0 5 → (6 - x1229.toInt).toNat < n1233 → va_P g.1 vwCl [(h0, .inr (10, [.ref wr0, .ref wr1, .ref wr2, .ref wr3, .ref wr4, .int wsize, .int wleastOrdered, .int wfitting, .int wknowingDay, .int wknowingPlan])), (wr3, .inl (g.2 0, 6, .inl x1230)), (wr4, .inl (g.2 0, 6, .inl wbestOrder)), (wr0, .inl (g.2 0, 10, .inl wwords)), (d0, .inr (0, [.int dstates, .int dreally, .int ddays, .int dheal, .int dleak, .int dlines, .int dhearers, .int dwords, .int dplans, .int dnews, .ref dr0, .ref dr1, .ref dr2, .ref dr3, .ref dr4, .ref dr5, .ref dr6, .ref dr7, .ref dr8, .ref dr9])), (dr5, .inl (g.2 0, 8, .inl dmeanings)), (m0, .inr (4, [.ref mr0])), (mr0, .inl (g.2 0, 256, .inl mmeans))] H → va_D A [(h0, .inr (10, [.ref wr0, .ref wr1, .ref wr2, .ref wr3, .ref wr4, .int wsize, .int wleastOrdered, .int wfitting, .int wknowingDay, .int wknowingPlan])), (wr3, .inl (g.2 0, 6, .inl x1230)), (wr4, .inl (g.2 0, 6, .inl wbestOrder)), (wr0, .inl (g.2 0, 10, .inl wwords)), (d0, .inr (0, [.int dstates, .int dreally, .int ddays, .int dheal, .int dleak, .int dlines, .int dhearers, .int dwords, .int dplans, .int dnews, .ref dr0, .ref dr1, .ref dr2, .ref dr3, .ref dr4, .ref dr5, .ref dr6, .ref dr7, .ref dr8, .ref dr9])), (dr5, .inl (g.2 0, 8, .inl dmeanings)), (m0, .inr (4, [.ref mr0])), (mr0, .inl (g.2 0, 256, .inl mmeans))] → va_S A s.heap H locs → lv_has ls 6 [(3, .int x1229), (0, .ref h0), (1, .ref d0), (2, .ref m0)] → W p l e { frames := 3, cells := 0, slots := 0, locals := 70 } s m ([.ref h0, .ref d0, .ref m0].toArray) below meth c H locs 0 0 (MQ below (QX (S := (Nat → Int32) × (Nat → Nat → Int32) × (Nat → Nat → Int64)) (fun _ => none) (fun u => (ab (u.2.1 0) 6 0 5)) g (fun u => [(h0, .inr (10, [.ref wr0, .ref wr1, .ref wr2, .ref wr3, .ref wr4, .int wsize, .int (u.1 1), .int wfitting, .int wknowingDay, .int wknowingPlan])), (wr3, .inl (g.2 0, 6, .inl (u.2.1 0))), (wr4, .inl (g.2 0, 6, .inl (u.2.1 1))), (wr0, .inl (g.2 0, 10, .inl wwords)), (d0, .inr (0, [.int dstates, .int dreally, .int ddays, .int dheal, .int dleak, .int dlines, .int dhearers, .int dwords, .int dplans, .int dnews, .ref dr0, .ref dr1, .ref dr2, .ref dr3, .ref dr4, .ref dr5, .ref dr6, .ref dr7, .ref dr8, .ref dr9])), (dr5, .inl (g.2 0, 8, .inl dmeanings)), (m0, .inr (4, [.ref mr0])), (mr0, .inl (g.2 0, 256, .inl mmeans))]) A) ([.ref h0, .ref d0, .ref m0].toArray) s 0 0 A) (F0 m 2 ls []) := by
    intro n1233
    induction n1233 with
    | zero =>
      intro x1229 x1230 H locs ls h_x1229 h_x1230 hn1234
      exact absurd hn1234 (Nat.not_lt_zero _)
    | succ n1233 ih1232 =>
      intro x1229 x1230 H locs ls h_x1229 h_x1230 hn1234 hP hD hS hl
      refine lv_iload_n hx hb dX10_orderSoftly_2 rfl (lv_at hl 0 rfl) ?_
      refine lv_aload_n hx hb dX10_orderSoftly_3 rfl (lv_at hl 1 rfl) ?_
      refine g_get (C := RX10) (T := TX10) (N := 10) (ci := 10) (v := .int wsize) FC hKn hP i_X10 0 rfl rfl 5 (by decide) b_211 rfl dX10_orderSoftly_4 ?_
      refine lv_icmp_ge (tgt := 29) hx hb dX10_orderSoftly_7 (by decide) (fun c1235 => ?_) (fun c1235 => ?_)
      · have c1235 := k_le (a := wsize.toInt) (b := x1229.toInt) rfl rfl c1235
        refine lv_aload_n hx hb dX10_orderSoftly_29 rfl (lv_at hl 1 rfl) ?_
        refine lv_ldc hx hb hown (hB _ b_227) dX10_orderSoftly_30 ?_
        refine g_put (C := RX10) (T := TX10) (N := 10) (ci := 10) (v := .int 1000000000) FC hKn hP hD hS i_X10 tyX10 tyX10_ok nmX10 0 rfl rfl 6 (by decide) b_228 rfl rfl rfl (Nat.le_of_ble_eq_true rfl) dX10_orderSoftly_32 (fun H locs hP hD hS => ?_)
        have hP : va_P g.1 vwCl [(h0, .inr (10, [.ref wr0, .ref wr1, .ref wr2, .ref wr3, .ref wr4, .int wsize, .int 1000000000, .int wfitting, .int wknowingDay, .int wknowingPlan])), (wr3, .inl (g.2 0, 6, .inl x1230)), (wr4, .inl (g.2 0, 6, .inl wbestOrder)), (wr0, .inl (g.2 0, 10, .inl wwords)), (d0, .inr (0, [.int dstates, .int dreally, .int ddays, .int dheal, .int dleak, .int dlines, .int dhearers, .int dwords, .int dplans, .int dnews, .ref dr0, .ref dr1, .ref dr2, .ref dr3, .ref dr4, .ref dr5, .ref dr6, .ref dr7, .ref dr8, .ref dr9])), (dr5, .inl (g.2 0, 8, .inl dmeanings)), (m0, .inr (4, [.ref mr0])), (mr0, .inl (g.2 0, 256, .inl mmeans))] H := hP
        have hD : va_D A [(h0, .inr (10, [.ref wr0, .ref wr1, .ref wr2, .ref wr3, .ref wr4, .int wsize, .int 1000000000, .int wfitting, .int wknowingDay, .int wknowingPlan])), (wr3, .inl (g.2 0, 6, .inl x1230)), (wr4, .inl (g.2 0, 6, .inl wbestOrder)), (wr0, .inl (g.2 0, 10, .inl wwords)), (d0, .inr (0, [.int dstates, .int dreally, .int ddays, .int dheal, .int dleak, .int dlines, .int dhearers, .int dwords, .int dplans, .int dnews, .ref dr0, .ref dr1, .ref dr2, .ref dr3, .ref dr4, .ref dr5, .ref dr6, .ref dr7, .ref dr8, .ref dr9])), (dr5, .inl (g.2 0, 8, .inl dmeanings)), (m0, .inr (4, [.ref mr0])), (mr0, .inl (g.2 0, 256, .inl mmeans))] := hD
        refine lv_iconst (v := 1) hx hb dX10_orderSoftly_35 (by decide) ?_
        refine lv_istore_n (lv' := [(3, .int 1), (0, .ref h0), (1, .ref d0), (2, .ref m0)]) hx hb dX10_orderSoftly_36 rfl hl (by decide) rfl (fun ls hl => ?_)
        refine lv_iconst (v := 0) hx hb dX10_orderSoftly_37 (by decide) ?_
        refine lv_istore (lv' := [(4, .int 0), (3, .int 1), (0, .ref h0), (1, .ref d0), (2, .ref m0)]) hx hb dX10_orderSoftly_38 hl (by decide) rfl (fun ls hl => ?_)
        have lp1368 : ∀ (n1370 : Nat) (x1363 : Int32) (x1364 : Int32) (x1365 : Int32) (x1366 : Nat → Int32) (x1367 : Nat → Int32) (H : Heap) (locs : List Loc) (ls : Array Slot), 0 ≤ x1363.toInt ∧ x1363.toInt ≤ 720 → 0 ≤ x1364.toInt ∧ x1364.toInt ≤ 1 → x1365.toInt ≤ 1000000000 → ab x1366 6 0 5 → (720 - x1363.toInt).toNat < n1370 → va_P g.1 vwCl [(h0, .inr (10, [.ref wr0, .ref wr1, .ref wr2, .ref wr3, .ref wr4, .int wsize, .int x1365, .int wfitting, .int wknowingDay, .int wknowingPlan])), (wr3, .inl (g.2 0, 6, .inl x1366)), (wr4, .inl (g.2 0, 6, .inl x1367)), (wr0, .inl (g.2 0, 10, .inl wwords)), (d0, .inr (0, [.int dstates, .int dreally, .int ddays, .int dheal, .int dleak, .int dlines, .int dhearers, .int dwords, .int dplans, .int dnews, .ref dr0, .ref dr1, .ref dr2, .ref dr3, .ref dr4, .ref dr5, .ref dr6, .ref dr7, .ref dr8, .ref dr9])), (dr5, .inl (g.2 0, 8, .inl dmeanings)), (m0, .inr (4, [.ref mr0])), (mr0, .inl (g.2 0, 256, .inl mmeans))] H → va_D A [(h0, .inr (10, [.ref wr0, .ref wr1, .ref wr2, .ref wr3, .ref wr4, .int wsize, .int x1365, .int wfitting, .int wknowingDay, .int wknowingPlan])), (wr3, .inl (g.2 0, 6, .inl x1366)), (wr4, .inl (g.2 0, 6, .inl x1367)), (wr0, .inl (g.2 0, 10, .inl wwords)), (d0, .inr (0, [.int dstates, .int dreally, .int ddays, .int dheal, .int dleak, .int dlines, .int dhearers, .int dwords, .int dplans, .int dnews, .ref dr0, .ref dr1, .ref dr2, .ref dr3, .ref dr4, .ref dr5, .ref dr6, .ref dr7, .ref dr8, .ref dr9])), (dr5, .inl (g.2 0, 8, .inl dmeanings)), (m0, .inr (4, [.ref mr0])), (mr0, .inl (g.2 0, 256, .inl mmeans))] → va_S A s.heap H locs → lv_has ls 6 [(4, .int x1363), (3, .int x1364), (0, .ref h0), (1, .ref d0), (2, .ref m0)] → W p l e { frames := 3, cells := 0, slots := 0, locals := 70 } s m ([.ref h0, .ref d0, .ref m0].toArray) below meth c H locs 0 0 (MQ below (QX (S := (Nat → Int32) × (Nat → Nat → Int32) × (Nat → Nat → Int64)) (fun _ => none) (fun u => (ab (u.2.1 0) 6 0 5)) g (fun u => [(h0, .inr (10, [.ref wr0, .ref wr1, .ref wr2, .ref wr3, .ref wr4, .int wsize, .int (u.1 1), .int wfitting, .int wknowingDay, .int wknowingPlan])), (wr3, .inl (g.2 0, 6, .inl (u.2.1 0))), (wr4, .inl (g.2 0, 6, .inl (u.2.1 1))), (wr0, .inl (g.2 0, 10, .inl wwords)), (d0, .inr (0, [.int dstates, .int dreally, .int ddays, .int dheal, .int dleak, .int dlines, .int dhearers, .int dwords, .int dplans, .int dnews, .ref dr0, .ref dr1, .ref dr2, .ref dr3, .ref dr4, .ref dr5, .ref dr6, .ref dr7, .ref dr8, .ref dr9])), (dr5, .inl (g.2 0, 8, .inl dmeanings)), (m0, .inr (4, [.ref mr0])), (mr0, .inl (g.2 0, 256, .inl mmeans))]) A) ([.ref h0, .ref d0, .ref m0].toArray) s 0 0 A) (F0 m 40 ls []) := by
          intro n1370
          induction n1370 with
          | zero =>
            intro x1363 x1364 x1365 x1366 x1367 H locs ls h_x1363 h_x1364 h_x1365 h_x1366 hn1371
            exact absurd hn1371 (Nat.not_lt_zero _)
          | succ n1370 ih1369 =>
            intro x1363 x1364 x1365 x1366 x1367 H locs ls h_x1363 h_x1364 h_x1365 h_x1366 hn1371 hP hD hS hl
            refine lv_iload hx hb dX10_orderSoftly_40 (lv_at hl 0 rfl) ?_
            refine lv_sipush (v := 720) hx hb dX10_orderSoftly_42 (by decide) ?_
            refine lv_icmp_ge (tgt := 101) hx hb dX10_orderSoftly_45 (by decide) (fun c1372 => ?_) (fun c1372 => ?_)
            · have c1372 := k_le (a := 720) (b := x1363.toInt) (by decide) rfl c1372
              exact rt_v FX ((fun k => match k with | 0 => 0 | 1 => x1365 | _ => 0), (fun k => match k with | 0 => x1366 | 1 => x1367 | _ => fun _ => 0), (fun _ => fun _ => 0)) rfl h_x1366 (hP.sub [0, 1, 2, 3, 4, 5, 6, 7] rfl) (hD.sub [0, 1, 2, 3, 4, 5, 6, 7] (by decide +kernel) rfl) hS (Nat.le_of_ble_eq_true rfl) (Nat.le_of_ble_eq_true rfl) dX10_orderSoftly_101
            · have c1372 := k_nle (a := 720) (b := x1363.toInt) (by decide) rfl c1372
              refine lv_iload_n hx hb dX10_orderSoftly_48 rfl (lv_at hl 1 rfl) ?_
              refine lv_if_eq (tgt := 101) hx hb dX10_orderSoftly_49 (by decide) (fun c1373 => ?_) (fun c1373 => ?_)
              · have c1373 := k_eq (a := x1364.toInt) (b := 0) rfl (by decide) c1373
                exact rt_v FX ((fun k => match k with | 0 => 0 | 1 => x1365 | _ => 0), (fun k => match k with | 0 => x1366 | 1 => x1367 | _ => fun _ => 0), (fun _ => fun _ => 0)) rfl h_x1366 (hP.sub [0, 1, 2, 3, 4, 5, 6, 7] rfl) (hD.sub [0, 1, 2, 3, 4, 5, 6, 7] (by decide +kernel) rfl) hS (Nat.le_of_ble_eq_true rfl) (Nat.le_of_ble_eq_true rfl) dX10_orderSoftly_101
              · have c1373 := k_ne (a := x1364.toInt) (b := 0) rfl (by decide) c1373
                refine lv_aload_n hx hb dX10_orderSoftly_52 rfl (lv_at hl 2 rfl) ?_
                refine lv_aload_n hx hb dX10_orderSoftly_53 rfl (lv_at hl 3 rfl) ?_
                refine lv_aload_n hx hb dX10_orderSoftly_54 rfl (lv_at hl 4 rfl) ?_
                refine call_V (As := [.ref d0, .ref m0]) (rest := []) (wr := [(wr4, .inl (g.2 0, 6, .inl x1367))]) FC hKn hZ (k_X10_leftByOrder l g h0 wr0 wr1 wr2 wr3 wr4 d0 dr0 dr1 dr2 dr3 dr4 dr5 dr6 dr7 dr8 dr9 m0 mr0 wsize x1365 wfitting wknowingDay wknowingPlan x1366 wwords dstates dreally ddays dheal dleak dlines dhearers dwords dplans dnews dmeanings mmeans (by omega) (by omega) (by omega) h_x1366 i_wwords (by omega) (by omega) (by omega) (by omega) (by omega) (by omega) (by omega) i_dmeanings) m_yX10_leftByOrder b_229 (ci := 10) rfl rfl rfl hP hD hS hA [0, 1, 3, 4, 5, 6, 7] [2] rfl (by decide +kernel) rfl (by decide) (by decide +kernel) rfl hl.1 rfl (Nat.le_of_ble_eq_true rfl) dX10_orderSoftly_55 ⟨(Nat.le_of_ble_eq_true rfl), (Nat.le_of_ble_eq_true rfl)⟩ ⟨(Nat.le_of_ble_eq_true rfl), (Nat.le_of_ble_eq_true rfl)⟩ (fun u1374 H locs q1375 hP hD hS => ?_)
                have hP : va_P g.1 vwCl [(wr4, .inl (g.2 0, 6, .inl x1367)), (h0, .inr (10, [.ref wr0, .ref wr1, .ref wr2, .ref wr3, .ref wr4, .int wsize, .int x1365, .int wfitting, .int wknowingDay, .int wknowingPlan])), (wr3, .inl (g.2 0, 6, .inl x1366)), (wr0, .inl (g.2 0, 10, .inl wwords)), (d0, .inr (0, [.int dstates, .int dreally, .int ddays, .int dheal, .int dleak, .int dlines, .int dhearers, .int dwords, .int dplans, .int dnews, .ref dr0, .ref dr1, .ref dr2, .ref dr3, .ref dr4, .ref dr5, .ref dr6, .ref dr7, .ref dr8, .ref dr9])), (dr5, .inl (g.2 0, 8, .inl dmeanings)), (m0, .inr (4, [.ref mr0])), (mr0, .inl (g.2 0, 256, .inl mmeans))] H := hP
                have hD : va_D A [(wr4, .inl (g.2 0, 6, .inl x1367)), (h0, .inr (10, [.ref wr0, .ref wr1, .ref wr2, .ref wr3, .ref wr4, .int wsize, .int x1365, .int wfitting, .int wknowingDay, .int wknowingPlan])), (wr3, .inl (g.2 0, 6, .inl x1366)), (wr0, .inl (g.2 0, 10, .inl wwords)), (d0, .inr (0, [.int dstates, .int dreally, .int ddays, .int dheal, .int dleak, .int dlines, .int dhearers, .int dwords, .int dplans, .int dnews, .ref dr0, .ref dr1, .ref dr2, .ref dr3, .ref dr4, .ref dr5, .ref dr6, .ref dr7, .ref dr8, .ref dr9])), (dr5, .inl (g.2 0, 8, .inl dmeanings)), (m0, .inr (4, [.ref mr0])), (mr0, .inl (g.2 0, 256, .inl mmeans))] := hD
                refine W.eq (g2 := F0 m 58 ls [.int (u1374.1 0)]) rfl ?_
                refine lv_istore (lv' := [(5, .int (u1374.1 0)), (4, .int x1363), (3, .int x1364), (0, .ref h0), (1, .ref d0), (2, .ref m0)]) hx hb dX10_orderSoftly_58 hl (by decide) rfl (fun ls hl => ?_)
                refine lv_iload hx hb dX10_orderSoftly_60 (lv_at hl 0 rfl) ?_
                refine lv_aload_n hx hb dX10_orderSoftly_62 rfl (lv_at hl 3 rfl) ?_
                refine g_get (C := RX10) (T := TX10) (N := 10) (ci := 10) (v := .int x1365) FC hKn hP i_X10 1 rfl rfl 6 (by decide) b_228 rfl dX10_orderSoftly_63 ?_
                refine lv_icmp_ge (tgt := 90) hx hb dX10_orderSoftly_66 (by decide) (fun c1376 => ?_) (fun c1376 => ?_)
                · have c1376 := k_le (a := x1365.toInt) (b := (u1374.1 0).toInt) rfl rfl c1376
                  refine lv_aload_n hx hb dX10_orderSoftly_90 rfl (lv_at hl 3 rfl) ?_
                  refine call_V (As := []) (rest := []) (wr := [(wr4, .inl (g.2 0, 6, .inl x1367)), (wr0, .inl (g.2 0, 10, .inl wwords)), (d0, .inr (0, [.int dstates, .int dreally, .int ddays, .int dheal, .int dleak, .int dlines, .int dhearers, .int dwords, .int dplans, .int dnews, .ref dr0, .ref dr1, .ref dr2, .ref dr3, .ref dr4, .ref dr5, .ref dr6, .ref dr7, .ref dr8, .ref dr9])), (dr5, .inl (g.2 0, 8, .inl dmeanings)), (m0, .inr (4, [.ref mr0])), (mr0, .inl (g.2 0, 256, .inl mmeans))]) FC hKn hZ (k_X10_nextOrder l g h0 wr0 wr1 wr2 wr3 wr4 wsize x1365 wfitting wknowingDay wknowingPlan x1366 (by omega) (by omega) (by omega) h_x1366) m_yX10_nextOrder b_230 (ci := 10) rfl rfl rfl hP hD hS hA [1, 2] [0, 3, 4, 5, 6, 7] rfl (by decide) rfl (by decide) (by decide +kernel) rfl hl.1 rfl (Nat.le_of_ble_eq_true rfl) dX10_orderSoftly_91 ⟨(Nat.le_of_ble_eq_true rfl), (Nat.le_of_ble_eq_true rfl)⟩ ⟨(Nat.le_of_ble_eq_true rfl), (Nat.le_of_ble_eq_true rfl)⟩ (fun u1377 H locs q1378 hP hD hS => ?_)
                  obtain ⟨q1378_0, q1378_1⟩ := q1378
                  have hP : va_P g.1 vwCl [(wr4, .inl (g.2 0, 6, .inl x1367)), (wr0, .inl (g.2 0, 10, .inl wwords)), (d0, .inr (0, [.int dstates, .int dreally, .int ddays, .int dheal, .int dleak, .int dlines, .int dhearers, .int dwords, .int dplans, .int dnews, .ref dr0, .ref dr1, .ref dr2, .ref dr3, .ref dr4, .ref dr5, .ref dr6, .ref dr7, .ref dr8, .ref dr9])), (dr5, .inl (g.2 0, 8, .inl dmeanings)), (m0, .inr (4, [.ref mr0])), (mr0, .inl (g.2 0, 256, .inl mmeans)), (h0, .inr (10, [.ref wr0, .ref wr1, .ref wr2, .ref wr3, .ref wr4, .int wsize, .int x1365, .int wfitting, .int wknowingDay, .int wknowingPlan])), (wr3, .inl (g.2 0, 6, .inl (u1377.2.1 0)))] H := hP
                  have hD : va_D A [(wr4, .inl (g.2 0, 6, .inl x1367)), (wr0, .inl (g.2 0, 10, .inl wwords)), (d0, .inr (0, [.int dstates, .int dreally, .int ddays, .int dheal, .int dleak, .int dlines, .int dhearers, .int dwords, .int dplans, .int dnews, .ref dr0, .ref dr1, .ref dr2, .ref dr3, .ref dr4, .ref dr5, .ref dr6, .ref dr7, .ref dr8, .ref dr9])), (dr5, .inl (g.2 0, 8, .inl dmeanings)), (m0, .inr (4, [.ref mr0])), (mr0, .inl (g.2 0, 256, .inl mmeans)), (h0, .inr (10, [.ref wr0, .ref wr1, .ref wr2, .ref wr3, .ref wr4, .int wsize, .int x1365, .int wfitting, .int wknowingDay, .int wknowingPlan])), (wr3, .inl (g.2 0, 6, .inl (u1377.2.1 0)))] := hD
                  refine W.eq (g2 := F0 m 94 ls [.int (u1377.1 0)]) rfl ?_
                  refine lv_istore_n (lv' := [(3, .int (u1377.1 0)), (5, .int (u1374.1 0)), (4, .int x1363), (0, .ref h0), (1, .ref d0), (2, .ref m0)]) hx hb dX10_orderSoftly_94 rfl hl (by decide) rfl (fun ls hl => ?_)
                  obtain ⟨z1379, e_z1379⟩ : ∃ y : Int32, y = x1363 + 1 := ⟨_, rfl⟩
                  have t_z1379 : z1379.toInt = x1363.toInt + 1 := by rw [e_z1379]; exact addk (by decide) (by omega) (by omega)
                  refine lv_iinc (v := z1379) (lv' := [(4, .int z1379), (3, .int (u1377.1 0)), (5, .int (u1374.1 0)), (0, .ref h0), (1, .ref d0), (2, .ref m0)]) hx hb dX10_orderSoftly_95 hl (k := 2) rfl (by rw [e_z1379]; rfl) (by decide) rfl (fun ls hl => ?_)
                  refine lv_goto (tgt := 40) hx hb dX10_orderSoftly_98 (by decide) ?_
                  exact ih1369 z1379 (u1377.1 0) x1365 (u1377.2.1 0) x1367 _ _ ls (by omega) (by omega) (by omega) q1378_1 (by omega) (hP.sub [6, 7, 0, 1, 2, 3, 4, 5] rfl) (hD.sub [6, 7, 0, 1, 2, 3, 4, 5] (by decide +kernel) rfl) hS (lv_sub hl [0, 1, 3, 4, 5] rfl)
                · have c1376 := k_nle (a := x1365.toInt) (b := (u1374.1 0).toInt) rfl rfl c1376
                  refine lv_aload_n hx hb dX10_orderSoftly_69 rfl (lv_at hl 3 rfl) ?_
                  refine lv_iload hx hb dX10_orderSoftly_70 (lv_at hl 0 rfl) ?_
                  refine g_put (C := RX10) (T := TX10) (N := 10) (ci := 10) (v := .int (u1374.1 0)) FC hKn hP hD hS i_X10 tyX10 tyX10_ok nmX10 1 rfl rfl 6 (by decide) b_228 rfl rfl rfl (Nat.le_of_ble_eq_true rfl) dX10_orderSoftly_72 (fun H locs hP hD hS => ?_)
                  have hP : va_P g.1 vwCl [(wr4, .inl (g.2 0, 6, .inl x1367)), (h0, .inr (10, [.ref wr0, .ref wr1, .ref wr2, .ref wr3, .ref wr4, .int wsize, .int (u1374.1 0), .int wfitting, .int wknowingDay, .int wknowingPlan])), (wr3, .inl (g.2 0, 6, .inl x1366)), (wr0, .inl (g.2 0, 10, .inl wwords)), (d0, .inr (0, [.int dstates, .int dreally, .int ddays, .int dheal, .int dleak, .int dlines, .int dhearers, .int dwords, .int dplans, .int dnews, .ref dr0, .ref dr1, .ref dr2, .ref dr3, .ref dr4, .ref dr5, .ref dr6, .ref dr7, .ref dr8, .ref dr9])), (dr5, .inl (g.2 0, 8, .inl dmeanings)), (m0, .inr (4, [.ref mr0])), (mr0, .inl (g.2 0, 256, .inl mmeans))] H := hP
                  have hD : va_D A [(wr4, .inl (g.2 0, 6, .inl x1367)), (h0, .inr (10, [.ref wr0, .ref wr1, .ref wr2, .ref wr3, .ref wr4, .int wsize, .int (u1374.1 0), .int wfitting, .int wknowingDay, .int wknowingPlan])), (wr3, .inl (g.2 0, 6, .inl x1366)), (wr0, .inl (g.2 0, 10, .inl wwords)), (d0, .inr (0, [.int dstates, .int dreally, .int ddays, .int dheal, .int dleak, .int dlines, .int dhearers, .int dwords, .int dplans, .int dnews, .ref dr0, .ref dr1, .ref dr2, .ref dr3, .ref dr4, .ref dr5, .ref dr6, .ref dr7, .ref dr8, .ref dr9])), (dr5, .inl (g.2 0, 8, .inl dmeanings)), (m0, .inr (4, [.ref mr0])), (mr0, .inl (g.2 0, 256, .inl mmeans))] := hD
                  refine lv_aload_n hx hb dX10_orderSoftly_75 rfl (lv_at hl 3 rfl) ?_
                  refine g_get (C := RX10) (T := TX10) (N := 10) (ci := 10) (v := .ref wr3) FC hKn hP i_X10 1 rfl rfl 3 (by decide) b_224 rfl dX10_orderSoftly_76 ?_
                  refine lv_iconst (v := 0) hx hb dX10_orderSoftly_79 (by decide) ?_
                  refine lv_aload_n hx hb dX10_orderSoftly_80 rfl (lv_at hl 3 rfl) ?_
                  refine g_get (C := RX10) (T := TX10) (N := 10) (ci := 10) (v := .ref wr4) FC hKn hP i_X10 1 rfl rfl 4 (by decide) b_231 rfl dX10_orderSoftly_81 ?_
                  refine lv_iconst (v := 0) hx hb dX10_orderSoftly_84 (by decide) ?_
                  refine lv_bipush (v := 6) hx hb dX10_orderSoftly_85 (by decide) ?_
                  refine va_copyi hx hb (by rw [hml]; exact hl.1.symm) hown (hB _ b_232) (hB _ b_145) (hB _ b_146) (hB _ b_147) hKn.1 hP hD hS 2 0 0 0 rfl rfl rfl rfl rfl (by decide) (by decide) (by decide) (by decide) (by decide) (fun _ _ => rfl) (Nat.le_of_ble_eq_true rfl) (Nat.le_of_ble_eq_true rfl) dX10_orderSoftly_87 (fun H locs hP hD hS => ?_)
                  have hP : va_P g.1 vwCl [(wr4, .inl (g.2 0, 6, .inl (va_cpy x1366 x1367 (0 : Int32).toNatClampNeg (0 : Int32).toNatClampNeg (6 : Int32).toNatClampNeg))), (h0, .inr (10, [.ref wr0, .ref wr1, .ref wr2, .ref wr3, .ref wr4, .int wsize, .int (u1374.1 0), .int wfitting, .int wknowingDay, .int wknowingPlan])), (wr3, .inl (g.2 0, 6, .inl x1366)), (wr0, .inl (g.2 0, 10, .inl wwords)), (d0, .inr (0, [.int dstates, .int dreally, .int ddays, .int dheal, .int dleak, .int dlines, .int dhearers, .int dwords, .int dplans, .int dnews, .ref dr0, .ref dr1, .ref dr2, .ref dr3, .ref dr4, .ref dr5, .ref dr6, .ref dr7, .ref dr8, .ref dr9])), (dr5, .inl (g.2 0, 8, .inl dmeanings)), (m0, .inr (4, [.ref mr0])), (mr0, .inl (g.2 0, 256, .inl mmeans))] H := hP
                  have hD : va_D A [(wr4, .inl (g.2 0, 6, .inl (va_cpy x1366 x1367 (0 : Int32).toNatClampNeg (0 : Int32).toNatClampNeg (6 : Int32).toNatClampNeg))), (h0, .inr (10, [.ref wr0, .ref wr1, .ref wr2, .ref wr3, .ref wr4, .int wsize, .int (u1374.1 0), .int wfitting, .int wknowingDay, .int wknowingPlan])), (wr3, .inl (g.2 0, 6, .inl x1366)), (wr0, .inl (g.2 0, 10, .inl wwords)), (d0, .inr (0, [.int dstates, .int dreally, .int ddays, .int dheal, .int dleak, .int dlines, .int dhearers, .int dwords, .int dplans, .int dnews, .ref dr0, .ref dr1, .ref dr2, .ref dr3, .ref dr4, .ref dr5, .ref dr6, .ref dr7, .ref dr8, .ref dr9])), (dr5, .inl (g.2 0, 8, .inl dmeanings)), (m0, .inr (4, [.ref mr0])), (mr0, .inl (g.2 0, 256, .inl mmeans))] := hD
                  generalize (va_cpy x1366 x1367 (0 : Int32).toNatClampNeg (0 : Int32).toNatClampNeg (6 : Int32).toNatClampNeg : Nat → Int32) = f1380 at hP hD
                  refine lv_aload_n hx hb dX10_orderSoftly_90 rfl (lv_at hl 3 rfl) ?_
                  refine call_V (As := []) (rest := []) (wr := [(wr4, .inl (g.2 0, 6, .inl f1380)), (wr0, .inl (g.2 0, 10, .inl wwords)), (d0, .inr (0, [.int dstates, .int dreally, .int ddays, .int dheal, .int dleak, .int dlines, .int dhearers, .int dwords, .int dplans, .int dnews, .ref dr0, .ref dr1, .ref dr2, .ref dr3, .ref dr4, .ref dr5, .ref dr6, .ref dr7, .ref dr8, .ref dr9])), (dr5, .inl (g.2 0, 8, .inl dmeanings)), (m0, .inr (4, [.ref mr0])), (mr0, .inl (g.2 0, 256, .inl mmeans))]) FC hKn hZ (k_X10_nextOrder l g h0 wr0 wr1 wr2 wr3 wr4 wsize (u1374.1 0) wfitting wknowingDay wknowingPlan x1366 (by omega) (by omega) (by omega) h_x1366) m_yX10_nextOrder b_230 (ci := 10) rfl rfl rfl hP hD hS hA [1, 2] [0, 3, 4, 5, 6, 7] rfl (by decide) rfl (by decide) (by decide +kernel) rfl hl.1 rfl (Nat.le_of_ble_eq_true rfl) dX10_orderSoftly_91 ⟨(Nat.le_of_ble_eq_true rfl), (Nat.le_of_ble_eq_true rfl)⟩ ⟨(Nat.le_of_ble_eq_true rfl), (Nat.le_of_ble_eq_true rfl)⟩ (fun u1381 H locs q1382 hP hD hS => ?_)
                  obtain ⟨q1382_0, q1382_1⟩ := q1382
                  have hP : va_P g.1 vwCl [(wr4, .inl (g.2 0, 6, .inl f1380)), (wr0, .inl (g.2 0, 10, .inl wwords)), (d0, .inr (0, [.int dstates, .int dreally, .int ddays, .int dheal, .int dleak, .int dlines, .int dhearers, .int dwords, .int dplans, .int dnews, .ref dr0, .ref dr1, .ref dr2, .ref dr3, .ref dr4, .ref dr5, .ref dr6, .ref dr7, .ref dr8, .ref dr9])), (dr5, .inl (g.2 0, 8, .inl dmeanings)), (m0, .inr (4, [.ref mr0])), (mr0, .inl (g.2 0, 256, .inl mmeans)), (h0, .inr (10, [.ref wr0, .ref wr1, .ref wr2, .ref wr3, .ref wr4, .int wsize, .int (u1374.1 0), .int wfitting, .int wknowingDay, .int wknowingPlan])), (wr3, .inl (g.2 0, 6, .inl (u1381.2.1 0)))] H := hP
                  have hD : va_D A [(wr4, .inl (g.2 0, 6, .inl f1380)), (wr0, .inl (g.2 0, 10, .inl wwords)), (d0, .inr (0, [.int dstates, .int dreally, .int ddays, .int dheal, .int dleak, .int dlines, .int dhearers, .int dwords, .int dplans, .int dnews, .ref dr0, .ref dr1, .ref dr2, .ref dr3, .ref dr4, .ref dr5, .ref dr6, .ref dr7, .ref dr8, .ref dr9])), (dr5, .inl (g.2 0, 8, .inl dmeanings)), (m0, .inr (4, [.ref mr0])), (mr0, .inl (g.2 0, 256, .inl mmeans)), (h0, .inr (10, [.ref wr0, .ref wr1, .ref wr2, .ref wr3, .ref wr4, .int wsize, .int (u1374.1 0), .int wfitting, .int wknowingDay, .int wknowingPlan])), (wr3, .inl (g.2 0, 6, .inl (u1381.2.1 0)))] := hD
                  refine W.eq (g2 := F0 m 94 ls [.int (u1381.1 0)]) rfl ?_
                  refine lv_istore_n (lv' := [(3, .int (u1381.1 0)), (5, .int (u1374.1 0)), (4, .int x1363), (0, .ref h0), (1, .ref d0), (2, .ref m0)]) hx hb dX10_orderSoftly_94 rfl hl (by decide) rfl (fun ls hl => ?_)
                  obtain ⟨z1383, e_z1383⟩ : ∃ y : Int32, y = x1363 + 1 := ⟨_, rfl⟩
                  have t_z1383 : z1383.toInt = x1363.toInt + 1 := by rw [e_z1383]; exact addk (by decide) (by omega) (by omega)
                  refine lv_iinc (v := z1383) (lv' := [(4, .int z1383), (3, .int (u1381.1 0)), (5, .int (u1374.1 0)), (0, .ref h0), (1, .ref d0), (2, .ref m0)]) hx hb dX10_orderSoftly_95 hl (k := 2) rfl (by rw [e_z1383]; rfl) (by decide) rfl (fun ls hl => ?_)
                  refine lv_goto (tgt := 40) hx hb dX10_orderSoftly_98 (by decide) ?_
                  exact ih1369 z1383 (u1381.1 0) (u1374.1 0) (u1381.2.1 0) f1380 _ _ ls (by omega) (by omega) (by omega) q1382_1 (by omega) (hP.sub [6, 7, 0, 1, 2, 3, 4, 5] rfl) (hD.sub [6, 7, 0, 1, 2, 3, 4, 5] (by decide +kernel) rfl) hS (lv_sub hl [0, 1, 3, 4, 5] rfl)
        have kc0 : (0 : Int32).toInt = 0 := by decide
        have kc1 : (1 : Int32).toInt = 1 := by decide
        have kc1000000000 : (1000000000 : Int32).toInt = 1000000000 := by decide
        exact lp1368 _ (0 : Int32) (1 : Int32) (1000000000 : Int32) x1230 wbestOrder _ _ ls (by decide) (by decide) (by decide) h_x1230 (Nat.lt_succ_self _) hP hD hS (lv_sub hl [0, 1, 2, 3, 4] rfl)
      · have c1235 := k_nle (a := wsize.toInt) (b := x1229.toInt) rfl rfl c1235
        refine lv_iload_n hx hb dX10_orderSoftly_10 rfl (lv_at hl 0 rfl) ?_
        refine lv_bipush (v := 6) hx hb dX10_orderSoftly_11 (by decide) ?_
        refine lv_icmp_ge (tgt := 29) hx hb dX10_orderSoftly_13 (by decide) (fun c1384 => ?_) (fun c1384 => ?_)
        · have c1384 := k_le (a := 6) (b := x1229.toInt) (by decide) rfl c1384
          exfalso; omega
        · have c1384 := k_nle (a := 6) (b := x1229.toInt) (by decide) rfl c1384
          refine lv_aload_n hx hb dX10_orderSoftly_16 rfl (lv_at hl 1 rfl) ?_
          refine g_get (C := RX10) (T := TX10) (N := 10) (ci := 10) (v := .ref wr3) FC hKn hP i_X10 0 rfl rfl 3 (by decide) b_224 rfl dX10_orderSoftly_17 ?_
          refine lv_iload_n hx hb dX10_orderSoftly_20 rfl (lv_at hl 0 rfl) ?_
          refine lv_iload_n hx hb dX10_orderSoftly_21 rfl (lv_at hl 0 rfl) ?_
          refine va_iast hx hb hKn.1 hP hD hS 1 0 rfl rfl (vp_in_iff.mpr ⟨by omega, by omega⟩) dX10_orderSoftly_22 (fun H locs hP hD hS => ?_)
          have hP : va_P g.1 vwCl [(h0, .inr (10, [.ref wr0, .ref wr1, .ref wr2, .ref wr3, .ref wr4, .int wsize, .int wleastOrdered, .int wfitting, .int wknowingDay, .int wknowingPlan])), (wr3, .inl (g.2 0, 6, .inl (upd x1230 (x1229.toNatClampNeg) x1229))), (wr4, .inl (g.2 0, 6, .inl wbestOrder)), (wr0, .inl (g.2 0, 10, .inl wwords)), (d0, .inr (0, [.int dstates, .int dreally, .int ddays, .int dheal, .int dleak, .int dlines, .int dhearers, .int dwords, .int dplans, .int dnews, .ref dr0, .ref dr1, .ref dr2, .ref dr3, .ref dr4, .ref dr5, .ref dr6, .ref dr7, .ref dr8, .ref dr9])), (dr5, .inl (g.2 0, 8, .inl dmeanings)), (m0, .inr (4, [.ref mr0])), (mr0, .inl (g.2 0, 256, .inl mmeans))] H := hP
          have hD : va_D A [(h0, .inr (10, [.ref wr0, .ref wr1, .ref wr2, .ref wr3, .ref wr4, .int wsize, .int wleastOrdered, .int wfitting, .int wknowingDay, .int wknowingPlan])), (wr3, .inl (g.2 0, 6, .inl (upd x1230 (x1229.toNatClampNeg) x1229))), (wr4, .inl (g.2 0, 6, .inl wbestOrder)), (wr0, .inl (g.2 0, 10, .inl wwords)), (d0, .inr (0, [.int dstates, .int dreally, .int ddays, .int dheal, .int dleak, .int dlines, .int dhearers, .int dwords, .int dplans, .int dnews, .ref dr0, .ref dr1, .ref dr2, .ref dr3, .ref dr4, .ref dr5, .ref dr6, .ref dr7, .ref dr8, .ref dr9])), (dr5, .inl (g.2 0, 8, .inl dmeanings)), (m0, .inr (4, [.ref mr0])), (mr0, .inl (g.2 0, 256, .inl mmeans))] := hD
          have a_f1385 : ab (upd x1230 (x1229.toNatClampNeg) x1229) 6 0 5 := ab_upd h_x1230 (by omega) (by omega)
          generalize (upd x1230 (x1229.toNatClampNeg) x1229 : Nat → Int32) = f1385 at hP hD a_f1385
          obtain ⟨z1386, e_z1386⟩ : ∃ y : Int32, y = x1229 + 1 := ⟨_, rfl⟩
          have t_z1386 : z1386.toInt = x1229.toInt + 1 := by rw [e_z1386]; exact addk (by decide) (by omega) (by omega)
          refine lv_iinc (v := z1386) (lv' := [(3, .int z1386), (0, .ref h0), (1, .ref d0), (2, .ref m0)]) hx hb dX10_orderSoftly_23 hl (k := 0) rfl (by rw [e_z1386]; rfl) (by decide) rfl (fun ls hl => ?_)
          refine lv_goto (tgt := 2) hx hb dX10_orderSoftly_26 (by decide) ?_
          exact ih1232 z1386 f1385 _ _ ls (by omega) a_f1385 (by omega) hP hD hS (lv_sub hl [0, 1, 2, 3] rfl)
  have kc0 : (0 : Int32).toInt = 0 := by decide
  exact lp1231 _ (0 : Int32) worder _ _ ls (by decide) i_worder (Nat.lt_succ_self _) hP hD hS (lv_sub hl [0, 1, 2, 3] rfl)
