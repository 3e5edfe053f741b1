set_option maxRecDepth 100000 in
set_option maxHeartbeats 4000000 in
theorem c_X0_everything (l : Launch) (g : GG) (h0 : Nat) (v0 : Nat) (v1 : Nat) (v2 : Nat) (v3 : Nat) (v4 : Nat) (v5 : Nat) (v6 : Nat) (v7 : Nat) (v8 : Nat) (v9 : Nat) : Ct l g yX0_everything cX0_everything 1 (some .int) { frames := 0, cells := 0, slots := 0, locals := 0 } [.ref h0] [(h0, .inr (0, [.int 0, .int 0, .int 0, .int 0, .int 0, .int 0, .int 0, .int 0, .int 0, .int 0, .ref v0, .ref v1, .ref v2, .ref v3, .ref v4, .ref v5, .ref v6, .ref v7, .ref v8, .ref v9]))] (S := Unit) (fun _ => some (.int 0)) (fun _ => True) (fun u => [(h0, .inr (0, [.int 0, .int 0, .int 0, .int 0, .int 0, .int 0, .int 0, .int 0, .int 0, .int 0, .ref v0, .ref v1, .ref v2, .ref v3, .ref v4, .ref v5, .ref v6, .ref v7, .ref v8, .ref v9]))]) := by
  refine Ct.of (by decide) (Nat.le_of_ble_eq_true rfl) ?_
  intro p e s m below meth c A ls FX hP hD hS hl
  obtain ⟨FC, hr, hlk, hKn, hA, hnm⟩ := id FX
  have FC : CallFix p m c cX0_everything 1 s _ BIG RX0 := FC
  obtain ⟨hx, hb, hml, hown, hB⟩ := id FC
  have hl : lv_has ls 1 [(0, .ref h0)] := hl
  refine lv_iconst (v := 1) hx hb dX0_everything_0 (by decide) ?_
  refine lv_aload_n hx hb dX0_everything_1 rfl (lv_at hl 0 rfl) ?_
  refine g_get (C := RX0) (T := TX0) (N := 20) (ci := 0) (v := .int 0) FC hKn hP i_X0 0 rfl rfl 0 (by decide) b_0 rfl dX0_everything_2 ?_
  refine lv_ishl hx hb dX0_everything_5 ?_
  refine tp_i (v := 1) (by decide) ?_
  refine lv_iconst (v := 1) hx hb dX0_everything_6 (by decide) ?_
  refine lv_isub hx hb dX0_everything_7 ?_
  refine tp_i (v := 0) (by decide) ?_
  exact rt_i FX () rfl trivial (hP.sub [0] rfl) (hD.sub [0] (by decide) rfl) hS (Nat.le_of_ble_eq_true rfl) (Nat.le_of_ble_eq_true rfl) dX0_everything_8
set_option maxRecDepth 100000 in
set_option maxHeartbeats 4000000 in
theorem c_X0_stands (l : Launch) (g : GG) (h0 : Nat) (v0 : Nat) (v1 : Nat) (v2 : Nat) (v3 : Nat) (v4 : Nat) (v5 : Nat) (v6 : Nat) (v7 : Nat) (v8 : Nat) (v9 : Nat) : Ct l g yX0_stands cX0_stands 1 (some .boolean) { frames := 0, cells := 0, slots := 0, locals := 0 } [.ref h0] [(h0, .inr (0, [.int 0, .int 0, .int 0, .int 0, .int 0, .int 0, .int 0, .int 0, .int 0, .int 0, .ref v0, .ref v1, .ref v2, .ref v3, .ref v4, .ref v5, .ref v6, .ref v7, .ref v8, .ref v9]))] (S := Unit) (fun _ => some (.int 0)) (fun _ => True) (fun u => [(h0, .inr (0, [.int 0, .int 0, .int 0, .int 0, .int 0, .int 0, .int 0, .int 0, .int 0, .int 0, .ref v0, .ref v1, .ref v2, .ref v3, .ref v4, .ref v5, .ref v6, .ref v7, .ref v8, .ref v9]))]) := by
  refine Ct.of (by decide) (Nat.le_of_ble_eq_true rfl) ?_
  intro p e s m below meth c A ls FX hP hD hS hl
  obtain ⟨FC, hr, hlk, hKn, hA, hnm⟩ := id FX
  have FC : CallFix p m c cX0_stands 1 s _ BIG RX0 := FC
  obtain ⟨hx, hb, hml, hown, hB⟩ := id FC
  have hl : lv_has ls 1 [(0, .ref h0)] := hl
  refine lv_aload_n hx hb dX0_stands_0 rfl (lv_at hl 0 rfl) ?_
  refine g_get (C := RX0) (T := TX0) (N := 20) (ci := 0) (v := .int 0) FC hKn hP i_X0 0 rfl rfl 5 (by decide) b_1 rfl dX0_stands_1 ?_
  refine lv_if_le (tgt := 11) hx hb dX0_stands_4 (by decide) (fun _ => ?_) (fun h => absurd h (by decide))
  refine lv_iconst (v := 0) hx hb dX0_stands_11 (by decide) ?_
  exact rt_z FX rfl () rfl trivial (hP.sub [0] rfl) (hD.sub [0] (by decide) rfl) hS (Nat.le_of_ble_eq_true rfl) (Nat.le_of_ble_eq_true rfl) dX0_stands_12
set_option maxRecDepth 100000 in
set_option maxHeartbeats 4000000 in
theorem c_X0_hasState (l : Launch) (g : GG) (h0 : Nat) (v0 : Nat) (v1 : Nat) (v2 : Nat) (v3 : Nat) (v4 : Nat) (v5 : Nat) (v6 : Nat) (v7 : Nat) (v8 : Nat) (v9 : Nat) (p1 : Int32) : Ct l g yX0_hasState cX0_hasState 2 (some .boolean) { frames := 0, cells := 0, slots := 0, locals := 0 } [.ref h0, .int p1] [(h0, .inr (0, [.int 0, .int 0, .int 0, .int 0, .int 0, .int 0, .int 0, .int 0, .int 0, .int 0, .ref v0, .ref v1, .ref v2, .ref v3, .ref v4, .ref v5, .ref v6, .ref v7, .ref v8, .ref v9]))] (S := Unit) (fun _ => some (.int 0)) (fun _ => True) (fun u => [(h0, .inr (0, [.int 0, .int 0, .int 0, .int 0, .int 0, .int 0, .int 0, .int 0, .int 0, .int 0, .ref v0, .ref v1, .ref v2, .ref v3, .ref v4, .ref v5, .ref v6, .ref v7, .ref v8, .ref v9]))]) := by
  refine Ct.of (by decide) (Nat.le_of_ble_eq_true rfl) ?_
  intro p e s m below meth c A ls FX hP hD hS hl
  obtain ⟨FC, hr, hlk, hKn, hA, hnm⟩ := id FX
  have FC : CallFix p m c cX0_hasState 2 s _ BIG RX0 := FC
  obtain ⟨hx, hb, hml, hown, hB⟩ := id FC
  have hl : lv_has ls 2 [(0, .ref h0), (1, .int p1)] := hl
  refine lv_iload_n hx hb dX0_hasState_0 rfl (lv_at hl 1 rfl) ?_
  refine lv_if_lt (tgt := 16) hx hb dX0_hasState_1 (by decide) (fun c1 => ?_) (fun c1 => ?_)
  · have c1 := k_lt (a := p1.toInt) (b := 0) rfl (by decide) c1
    refine lv_iconst (v := 0) hx hb dX0_hasState_16 (by decide) ?_
    exact rt_z FX rfl () rfl trivial (hP.sub [0] rfl) (hD.sub [0] (by decide) rfl) hS (Nat.le_of_ble_eq_true rfl) (Nat.le_of_ble_eq_true rfl) dX0_hasState_17
  · have c1 := k_nlt (a := p1.toInt) (b := 0) rfl (by decide) c1
    refine lv_iload_n hx hb dX0_hasState_4 rfl (lv_at hl 1 rfl) ?_
    refine lv_aload_n hx hb dX0_hasState_5 rfl (lv_at hl 0 rfl) ?_
    refine g_get (C := RX0) (T := TX0) (N := 20) (ci := 0) (v := .int 0) FC hKn hP i_X0 0 rfl rfl 0 (by decide) b_0 rfl dX0_hasState_6 ?_
    refine lv_icmp_ge (tgt := 16) hx hb dX0_hasState_9 (by decide) (fun c2 => ?_) (fun c2 => ?_)
    · have c2 := k_le (a := 0) (b := p1.toInt) (by decide) rfl c2
      refine lv_iconst (v := 0) hx hb dX0_hasState_16 (by decide) ?_
      exact rt_z FX rfl () rfl trivial (hP.sub [0] rfl) (hD.sub [0] (by decide) rfl) hS (Nat.le_of_ble_eq_true rfl) (Nat.le_of_ble_eq_true rfl) dX0_hasState_17
    · have c2 := k_nle (a := 0) (b := p1.toInt) (by decide) rfl c2
      exfalso; omega
set_option maxRecDepth 100000 in
set_option maxHeartbeats 4000000 in
theorem c_X0_hasDay (l : Launch) (g : GG) (h0 : Nat) (v0 : Nat) (v1 : Nat) (v2 : Nat) (v3 : Nat) (v4 : Nat) (v5 : Nat) (v6 : Nat) (v7 : Nat) (v8 : Nat) (v9 : Nat) (p1 : Int32) : Ct l g yX0_hasDay cX0_hasDay 2 (some .boolean) { frames := 0, cells := 0, slots := 0, locals := 0 } [.ref h0, .int p1] [(h0, .inr (0, [.int 0, .int 0, .int 0, .int 0, .int 0, .int 0, .int 0, .int 0, .int 0, .int 0, .ref v0, .ref v1, .ref v2, .ref v3, .ref v4, .ref v5, .ref v6, .ref v7, .ref v8, .ref v9]))] (S := Unit) (fun _ => some (.int 0)) (fun _ => True) (fun u => [(h0, .inr (0, [.int 0, .int 0, .int 0, .int 0, .int 0, .int 0, .int 0, .int 0, .int 0, .int 0, .ref v0, .ref v1, .ref v2, .ref v3, .ref v4, .ref v5, .ref v6, .ref v7, .ref v8, .ref v9]))]) := by
  refine Ct.of (by decide) (Nat.le_of_ble_eq_true rfl) ?_
  intro p e s m below meth c A ls FX hP hD hS hl
  obtain ⟨FC, hr, hlk, hKn, hA, hnm⟩ := id FX
  have FC : CallFix p m c cX0_hasDay 2 s _ BIG RX0 := FC
  obtain ⟨hx, hb, hml, hown, hB⟩ := id FC
  have hl : lv_has ls 2 [(0, .ref h0), (1, .int p1)] := hl
  refine lv_iload_n hx hb dX0_hasDay_0 rfl (lv_at hl 1 rfl) ?_
  refine lv_if_lt (tgt := 16) hx hb dX0_hasDay_1 (by decide) (fun c1 => ?_) (fun c1 => ?_)
  · have c1 := k_lt (a := p1.toInt) (b := 0) rfl (by decide) c1
    refine lv_iconst (v := 0) hx hb dX0_hasDay_16 (by decide) ?_
    exact rt_z FX rfl () rfl trivial (hP.sub [0] rfl) (hD.sub [0] (by decide) rfl) hS (Nat.le_of_ble_eq_true rfl) (Nat.le_of_ble_eq_true rfl) dX0_hasDay_17
  · have c1 := k_nlt (a := p1.toInt) (b := 0) rfl (by decide) c1
    refine lv_iload_n hx hb dX0_hasDay_4 rfl (lv_at hl 1 rfl) ?_
    refine lv_aload_n hx hb dX0_hasDay_5 rfl (lv_at hl 0 rfl) ?_
    refine g_get (C := RX0) (T := TX0) (N := 20) (ci := 0) (v := .int 0) FC hKn hP i_X0 0 rfl rfl 2 (by decide) b_2 rfl dX0_hasDay_6 ?_
    refine lv_icmp_ge (tgt := 16) hx hb dX0_hasDay_9 (by decide) (fun c2 => ?_) (fun c2 => ?_)
    · have c2 := k_le (a := 0) (b := p1.toInt) (by decide) rfl c2
      refine lv_iconst (v := 0) hx hb dX0_hasDay_16 (by decide) ?_
      exact rt_z FX rfl () rfl trivial (hP.sub [0] rfl) (hD.sub [0] (by decide) rfl) hS (Nat.le_of_ble_eq_true rfl) (Nat.le_of_ble_eq_true rfl) dX0_hasDay_17
    · have c2 := k_nle (a := 0) (b := p1.toInt) (by decide) rfl c2
      exfalso; omega
set_option maxRecDepth 100000 in
set_option maxHeartbeats 4000000 in
theorem c_X0_hasHearer (l : Launch) (g : GG) (h0 : Nat) (v0 : Nat) (v1 : Nat) (v2 : Nat) (v3 : Nat) (v4 : Nat) (v5 : Nat) (v6 : Nat) (v7 : Nat) (v8 : Nat) (v9 : Nat) (p1 : Int32) : Ct l g yX0_hasHearer cX0_hasHearer 2 (some .boolean) { frames := 0, cells := 0, slots := 0, locals := 0 } [.ref h0, .int p1] [(h0, .inr (0, [.int 0, .int 0, .int 0, .int 0, .int 0, .int 0, .int 0, .int 0, .int 0, .int 0, .ref v0, .ref v1, .ref v2, .ref v3, .ref v4, .ref v5, .ref v6, .ref v7, .ref v8, .ref v9]))] (S := Unit) (fun _ => some (.int 0)) (fun _ => True) (fun u => [(h0, .inr (0, [.int 0, .int 0, .int 0, .int 0, .int 0, .int 0, .int 0, .int 0, .int 0, .int 0, .ref v0, .ref v1, .ref v2, .ref v3, .ref v4, .ref v5, .ref v6, .ref v7, .ref v8, .ref v9]))]) := by
  refine Ct.of (by decide) (Nat.le_of_ble_eq_true rfl) ?_
  intro p e s m below meth c A ls FX hP hD hS hl
  obtain ⟨FC, hr, hlk, hKn, hA, hnm⟩ := id FX
  have FC : CallFix p m c cX0_hasHearer 2 s _ BIG RX0 := FC
  obtain ⟨hx, hb, hml, hown, hB⟩ := id FC
  have hl : lv_has ls 2 [(0, .ref h0), (1, .int p1)] := hl
  refine lv_iload_n hx hb dX0_hasHearer_0 rfl (lv_at hl 1 rfl) ?_
  refine lv_if_lt (tgt := 16) hx hb dX0_hasHearer_1 (by decide) (fun c1 => ?_) (fun c1 => ?_)
  · have c1 := k_lt (a := p1.toInt) (b := 0) rfl (by decide) c1
    refine lv_iconst (v := 0) hx hb dX0_hasHearer_16 (by decide) ?_
    exact rt_z FX rfl () rfl trivial (hP.sub [0] rfl) (hD.sub [0] (by decide) rfl) hS (Nat.le_of_ble_eq_true rfl) (Nat.le_of_ble_eq_true rfl) dX0_hasHearer_17
  · have c1 := k_nlt (a := p1.toInt) (b := 0) rfl (by decide) c1
    refine lv_iload_n hx hb dX0_hasHearer_4 rfl (lv_at hl 1 rfl) ?_
    refine lv_aload_n hx hb dX0_hasHearer_5 rfl (lv_at hl 0 rfl) ?_
    refine g_get (C := RX0) (T := TX0) (N := 20) (ci := 0) (v := .int 0) FC hKn hP i_X0 0 rfl rfl 6 (by decide) b_3 rfl dX0_hasHearer_6 ?_
    refine lv_icmp_ge (tgt := 16) hx hb dX0_hasHearer_9 (by decide) (fun c2 => ?_) (fun c2 => ?_)
    · have c2 := k_le (a := 0) (b := p1.toInt) (by decide) rfl c2
      refine lv_iconst (v := 0) hx hb dX0_hasHearer_16 (by decide) ?_
      exact rt_z FX rfl () rfl trivial (hP.sub [0] rfl) (hD.sub [0] (by decide) rfl) hS (Nat.le_of_ble_eq_true rfl) (Nat.le_of_ble_eq_true rfl) dX0_hasHearer_17
    · have c2 := k_nle (a := 0) (b := p1.toInt) (by decide) rfl c2
      exfalso; omega
set_option maxRecDepth 100000 in
set_option maxHeartbeats 4000000 in
theorem c_X0_hasWord (l : Launch) (g : GG) (h0 : Nat) (v0 : Nat) (v1 : Nat) (v2 : Nat) (v3 : Nat) (v4 : Nat) (v5 : Nat) (v6 : Nat) (v7 : Nat) (v8 : Nat) (v9 : Nat) (p1 : Int32) : Ct l g yX0_hasWord cX0_hasWord 2 (some .boolean) { frames := 0, cells := 0, slots := 0, locals := 0 } [.ref h0, .int p1] [(h0, .inr (0, [.int 0, .int 0, .int 0, .int 0, .int 0, .int 0, .int 0, .int 0, .int 0, .int 0, .ref v0, .ref v1, .ref v2, .ref v3, .ref v4, .ref v5, .ref v6, .ref v7, .ref v8, .ref v9]))] (S := Unit) (fun _ => some (.int 0)) (fun _ => True) (fun u => [(h0, .inr (0, [.int 0, .int 0, .int 0, .int 0, .int 0, .int 0, .int 0, .int 0, .int 0, .int 0, .ref v0, .ref v1, .ref v2, .ref v3, .ref v4, .ref v5, .ref v6, .ref v7, .ref v8, .ref v9]))]) := by
  refine Ct.of (by decide) (Nat.le_of_ble_eq_true rfl) ?_
  intro p e s m below meth c A ls FX hP hD hS hl
  obtain ⟨FC, hr, hlk, hKn, hA, hnm⟩ := id FX
  have FC : CallFix p m c cX0_hasWord 2 s _ BIG RX0 := FC
  obtain ⟨hx, hb, hml, hown, hB⟩ := id FC
  have hl : lv_has ls 2 [(0, .ref h0), (1, .int p1)] := hl
  refine lv_iload_n hx hb dX0_hasWord_0 rfl (lv_at hl 1 rfl) ?_
  refine lv_if_lt (tgt := 16) hx hb dX0_hasWord_1 (by decide) (fun c1 => ?_) (fun c1 => ?_)
  · have c1 := k_lt (a := p1.toInt) (b := 0) rfl (by decide) c1
    refine lv_iconst (v := 0) hx hb dX0_hasWord_16 (by decide) ?_
    exact rt_z FX rfl () rfl trivial (hP.sub [0] rfl) (hD.sub [0] (by decide) rfl) hS (Nat.le_of_ble_eq_true rfl) (Nat.le_of_ble_eq_true rfl) dX0_hasWord_17
  · have c1 := k_nlt (a := p1.toInt) (b := 0) rfl (by decide) c1
    refine lv_iload_n hx hb dX0_hasWord_4 rfl (lv_at hl 1 rfl) ?_
    refine lv_aload_n hx hb dX0_hasWord_5 rfl (lv_at hl 0 rfl) ?_
    refine g_get (C := RX0) (T := TX0) (N := 20) (ci := 0) (v := .int 0) FC hKn hP i_X0 0 rfl rfl 7 (by decide) b_4 rfl dX0_hasWord_6 ?_
    refine lv_icmp_ge (tgt := 16) hx hb dX0_hasWord_9 (by decide) (fun c2 => ?_) (fun c2 => ?_)
    · have c2 := k_le (a := 0) (b := p1.toInt) (by decide) rfl c2
      refine lv_iconst (v := 0) hx hb dX0_hasWord_16 (by decide) ?_
      exact rt_z FX rfl () rfl trivial (hP.sub [0] rfl) (hD.sub [0] (by decide) rfl) hS (Nat.le_of_ble_eq_true rfl) (Nat.le_of_ble_eq_true rfl) dX0_hasWord_17
    · have c2 := k_nle (a := 0) (b := p1.toInt) (by decide) rfl c2
      exfalso; omega
set_option maxRecDepth 100000 in
set_option maxHeartbeats 4000000 in
theorem c_X0_hasPlan (l : Launch) (g : GG) (h0 : Nat) (v0 : Nat) (v1 : Nat) (v2 : Nat) (v3 : Nat) (v4 : Nat) (v5 : Nat) (v6 : Nat) (v7 : Nat) (v8 : Nat) (v9 : Nat) (p1 : Int32) : Ct l g yX0_hasPlan cX0_hasPlan 2 (some .boolean) { frames := 0, cells := 0, slots := 0, locals := 0 } [.ref h0, .int p1] [(h0, .inr (0, [.int 0, .int 0, .int 0, .int 0, .int 0, .int 0, .int 0, .int 0, .int 0, .int 0, .ref v0, .ref v1, .ref v2, .ref v3, .ref v4, .ref v5, .ref v6, .ref v7, .ref v8, .ref v9]))] (S := Unit) (fun _ => some (.int 0)) (fun _ => True) (fun u => [(h0, .inr (0, [.int 0, .int 0, .int 0, .int 0, .int 0, .int 0, .int 0, .int 0, .int 0, .int 0, .ref v0, .ref v1, .ref v2, .ref v3, .ref v4, .ref v5, .ref v6, .ref v7, .ref v8, .ref v9]))]) := by
  refine Ct.of (by decide) (Nat.le_of_ble_eq_true rfl) ?_
  intro p e s m below meth c A ls FX hP hD hS hl
  obtain ⟨FC, hr, hlk, hKn, hA, hnm⟩ := id FX
  have FC : CallFix p m c cX0_hasPlan 2 s _ BIG RX0 := FC
  obtain ⟨hx, hb, hml, hown, hB⟩ := id FC
  have hl : lv_has ls 2 [(0, .ref h0), (1, .int p1)] := hl
  refine lv_iload_n hx hb dX0_hasPlan_0 rfl (lv_at hl 1 rfl) ?_
  refine lv_if_lt (tgt := 16) hx hb dX0_hasPlan_1 (by decide) (fun c1 => ?_) (fun c1 => ?_)
  · have c1 := k_lt (a := p1.toInt) (b := 0) rfl (by decide) c1
    refine lv_iconst (v := 0) hx hb dX0_hasPlan_16 (by decide) ?_
    exact rt_z FX rfl () rfl trivial (hP.sub [0] rfl) (hD.sub [0] (by decide) rfl) hS (Nat.le_of_ble_eq_true rfl) (Nat.le_of_ble_eq_true rfl) dX0_hasPlan_17
  · have c1 := k_nlt (a := p1.toInt) (b := 0) rfl (by decide) c1
    refine lv_iload_n hx hb dX0_hasPlan_4 rfl (lv_at hl 1 rfl) ?_
    refine lv_aload_n hx hb dX0_hasPlan_5 rfl (lv_at hl 0 rfl) ?_
    refine g_get (C := RX0) (T := TX0) (N := 20) (ci := 0) (v := .int 0) FC hKn hP i_X0 0 rfl rfl 8 (by decide) b_5 rfl dX0_hasPlan_6 ?_
    refine lv_icmp_ge (tgt := 16) hx hb dX0_hasPlan_9 (by decide) (fun c2 => ?_) (fun c2 => ?_)
    · have c2 := k_le (a := 0) (b := p1.toInt) (by decide) rfl c2
      refine lv_iconst (v := 0) hx hb dX0_hasPlan_16 (by decide) ?_
      exact rt_z FX rfl () rfl trivial (hP.sub [0] rfl) (hD.sub [0] (by decide) rfl) hS (Nat.le_of_ble_eq_true rfl) (Nat.le_of_ble_eq_true rfl) dX0_hasPlan_17
    · have c2 := k_nle (a := 0) (b := p1.toInt) (by decide) rfl c2
      exfalso; omega
set_option maxRecDepth 100000 in
set_option maxHeartbeats 4000000 in
theorem c_X0_hasNews (l : Launch) (g : GG) (h0 : Nat) (v0 : Nat) (v1 : Nat) (v2 : Nat) (v3 : Nat) (v4 : Nat) (v5 : Nat) (v6 : Nat) (v7 : Nat) (v8 : Nat) (v9 : Nat) (p1 : Int32) : Ct l g yX0_hasNews cX0_hasNews 2 (some .boolean) { frames := 0, cells := 0, slots := 0, locals := 0 } [.ref h0, .int p1] [(h0, .inr (0, [.int 0, .int 0, .int 0, .int 0, .int 0, .int 0, .int 0, .int 0, .int 0, .int 0, .ref v0, .ref v1, .ref v2, .ref v3, .ref v4, .ref v5, .ref v6, .ref v7, .ref v8, .ref v9]))] (S := Unit) (fun _ => some (.int 0)) (fun _ => True) (fun u => [(h0, .inr (0, [.int 0, .int 0, .int 0, .int 0, .int 0, .int 0, .int 0, .int 0, .int 0, .int 0, .ref v0, .ref v1, .ref v2, .ref v3, .ref v4, .ref v5, .ref v6, .ref v7, .ref v8, .ref v9]))]) := by
  refine Ct.of (by decide) (Nat.le_of_ble_eq_true rfl) ?_
  intro p e s m below meth c A ls FX hP hD hS hl
  obtain ⟨FC, hr, hlk, hKn, hA, hnm⟩ := id FX
  have FC : CallFix p m c cX0_hasNews 2 s _ BIG RX0 := FC
  obtain ⟨hx, hb, hml, hown, hB⟩ := id FC
  have hl : lv_has ls 2 [(0, .ref h0), (1, .int p1)] := hl
  refine lv_iload_n hx hb dX0_hasNews_0 rfl (lv_at hl 1 rfl) ?_
  refine lv_if_lt (tgt := 16) hx hb dX0_hasNews_1 (by decide) (fun c1 => ?_) (fun c1 => ?_)
  · have c1 := k_lt (a := p1.toInt) (b := 0) rfl (by decide) c1
    refine lv_iconst (v := 0) hx hb dX0_hasNews_16 (by decide) ?_
    exact rt_z FX rfl () rfl trivial (hP.sub [0] rfl) (hD.sub [0] (by decide) rfl) hS (Nat.le_of_ble_eq_true rfl) (Nat.le_of_ble_eq_true rfl) dX0_hasNews_17
  · have c1 := k_nlt (a := p1.toInt) (b := 0) rfl (by decide) c1
    refine lv_iload_n hx hb dX0_hasNews_4 rfl (lv_at hl 1 rfl) ?_
    refine lv_aload_n hx hb dX0_hasNews_5 rfl (lv_at hl 0 rfl) ?_
    refine g_get (C := RX0) (T := TX0) (N := 20) (ci := 0) (v := .int 0) FC hKn hP i_X0 0 rfl rfl 9 (by decide) b_6 rfl dX0_hasNews_6 ?_
    refine lv_icmp_ge (tgt := 16) hx hb dX0_hasNews_9 (by decide) (fun c2 => ?_) (fun c2 => ?_)
    · have c2 := k_le (a := 0) (b := p1.toInt) (by decide) rfl c2
      refine lv_iconst (v := 0) hx hb dX0_hasNews_16 (by decide) ?_
      exact rt_z FX rfl () rfl trivial (hP.sub [0] rfl) (hD.sub [0] (by decide) rfl) hS (Nat.le_of_ble_eq_true rfl) (Nat.le_of_ble_eq_true rfl) dX0_hasNews_17
    · have c2 := k_nle (a := 0) (b := p1.toInt) (by decide) rfl c2
      exfalso; omega
set_option maxRecDepth 100000 in
set_option maxHeartbeats 4000000 in
theorem c_X0_hasBelief (l : Launch) (g : GG) (h0 : Nat) (v0 : Nat) (v1 : Nat) (v2 : Nat) (v3 : Nat) (v4 : Nat) (v5 : Nat) (v6 : Nat) (v7 : Nat) (v8 : Nat) (v9 : Nat) (p1 : Int32) : Ct l g yX0_hasBelief cX0_hasBelief 2 (some .boolean) { frames := 1, cells := 0, slots := 0, locals := 20 } [.ref h0, .int p1] [(h0, .inr (0, [.int 0, .int 0, .int 0, .int 0, .int 0, .int 0, .int 0, .int 0, .int 0, .int 0, .ref v0, .ref v1, .ref v2, .ref v3, .ref v4, .ref v5, .ref v6, .ref v7, .ref v8, .ref v9]))] (S := Unit) (fun _ => some (.int 0)) (fun _ => True) (fun u => [(h0, .inr (0, [.int 0, .int 0, .int 0, .int 0, .int 0, .int 0, .int 0, .int 0, .int 0, .int 0, .ref v0, .ref v1, .ref v2, .ref v3, .ref v4, .ref v5, .ref v6, .ref v7, .ref v8, .ref v9]))]) := by
  refine Ct.of (by decide) (Nat.le_of_ble_eq_true rfl) ?_
  intro p e s m below meth c A ls FX hP hD hS hl
  obtain ⟨FC, hr, hlk, hKn, hA, hnm⟩ := id FX
  have FC : CallFix p m c cX0_hasBelief 2 s _ BIG RX0 := FC
  obtain ⟨hx, hb, hml, hown, hB⟩ := id FC
  have hl : lv_has ls 2 [(0, .ref h0), (1, .int p1)] := hl
  refine lv_iload_n hx hb dX0_hasBelief_0 rfl (lv_at hl 1 rfl) ?_
  refine lv_iconst (v := 1) hx hb dX0_hasBelief_1 (by decide) ?_
  refine lv_icmp_lt (tgt := 17) hx hb dX0_hasBelief_2 (by decide) (fun c1 => ?_) (fun c1 => ?_)
  · have c1 := k_lt (a := p1.toInt) (b := 1) rfl (by decide) c1
    refine lv_iconst (v := 0) hx hb dX0_hasBelief_17 (by decide) ?_
    exact rt_z FX rfl () rfl trivial (hP.sub [0] rfl) (hD.sub [0] (by decide) rfl) hS (Nat.le_of_ble_eq_true rfl) (Nat.le_of_ble_eq_true rfl) dX0_hasBelief_18
  · have c1 := k_nlt (a := p1.toInt) (b := 1) rfl (by decide) c1
    refine lv_iload_n hx hb dX0_hasBelief_5 rfl (lv_at hl 1 rfl) ?_
    refine lv_aload_n hx hb dX0_hasBelief_6 rfl (lv_at hl 0 rfl) ?_
    refine call_V (As := []) (rest := [.int p1]) (wr := []) FC hKn (c_X0_everything l g h0 v0 v1 v2 v3 v4 v5 v6 v7 v8 v9) m_yX0_everything b_7 (ci := 0) rfl rfl rfl hP hD hS hA [0] [] rfl (by decide) rfl (by decide) (by decide) rfl hl.1 rfl (Nat.le_of_ble_eq_true rfl) dX0_hasBelief_7 ⟨(Nat.le_of_ble_eq_true rfl), (Nat.le_of_ble_eq_true rfl)⟩ ⟨(Nat.le_of_ble_eq_true rfl), (Nat.le_of_ble_eq_true rfl)⟩ (fun u2 H locs _ hP hD hS => ?_)
    have hP : va_P g.1 vwCl [(h0, .inr (0, [.int 0, .int 0, .int 0, .int 0, .int 0, .int 0, .int 0, .int 0, .int 0, .int 0, .ref v0, .ref v1, .ref v2, .ref v3, .ref v4, .ref v5, .ref v6, .ref v7, .ref v8, .ref v9]))] H := hP
    have hD : va_D A [(h0, .inr (0, [.int 0, .int 0, .int 0, .int 0, .int 0, .int 0, .int 0, .int 0, .int 0, .int 0, .ref v0, .ref v1, .ref v2, .ref v3, .ref v4, .ref v5, .ref v6, .ref v7, .ref v8, .ref v9]))] := hD
    refine W.eq (g2 := F0 m 10 ls [.int 0, .int p1]) rfl ?_
    refine lv_icmp_gt (tgt := 17) hx hb dX0_hasBelief_10 (by decide) (fun c3 => ?_) (fun c3 => ?_)
    · have c3 := k_lt (a := 0) (b := p1.toInt) (by decide) rfl c3
      refine lv_iconst (v := 0) hx hb dX0_hasBelief_17 (by decide) ?_
      exact rt_z FX rfl () rfl trivial (hP.sub [0] rfl) (hD.sub [0] (by decide) rfl) hS (Nat.le_of_ble_eq_true rfl) (Nat.le_of_ble_eq_true rfl) dX0_hasBelief_18
    · have c3 := k_nlt (a := 0) (b := p1.toInt) (by decide) rfl c3
      exfalso; omega
set_option maxRecDepth 100000 in
set_option maxHeartbeats 4000000 in
theorem c_X11_isSlot (l : Launch) (g : GG) (p0 : Int32) : Ct l g yX11_isSlot cX11_isSlot 1 (some .boolean) { frames := 0, cells := 0, slots := 0, locals := 0 } [.int p0] [] (S := Unit) (fun _ => some (.int (sp_slot p0))) (fun _ => True) (fun u => []) := by
  refine Ct.of (by decide) (Nat.le_of_ble_eq_true rfl) ?_
  intro p e s m below meth c A ls FX hP hD hS hl
  obtain ⟨FC, hr, hlk, hKn, hA, hnm⟩ := id FX
  have FC : CallFix p m c cX11_isSlot 1 s _ BIG RX11 := FC
  obtain ⟨hx, hb, hml, hown, hB⟩ := id FC
  have hl : lv_has ls 1 [(0, .int p0)] := hl
  refine lv_iload_n hx hb dX11_isSlot_0 rfl (lv_at hl 0 rfl) ?_
  refine lv_if_lt (tgt := 13) hx hb dX11_isSlot_1 (by decide) (fun c1 => ?_) (fun c1 => ?_)
  · have c1 := k_lt (a := p0.toInt) (b := 0) rfl (by decide) c1
    refine lv_iconst (v := 0) hx hb dX11_isSlot_13 (by decide) ?_
    exact rt_z FX rfl () (congrArg (fun z => some (Value.int z)) (show (0 : Int32) = _ from by unfold sp_slot; (repeat' split) <;> first | rfl | (exfalso; omega))) trivial (hP.sub [] rfl) (hD.sub [] (by decide) rfl) hS (Nat.le_of_ble_eq_true rfl) (Nat.le_of_ble_eq_true rfl) dX11_isSlot_14
  · have c1 := k_nlt (a := p0.toInt) (b := 0) rfl (by decide) c1
    refine lv_iload_n hx hb dX11_isSlot_4 rfl (lv_at hl 0 rfl) ?_
    refine lv_iconst (v := 4) hx hb dX11_isSlot_5 (by decide) ?_
    refine lv_icmp_ge (tgt := 13) hx hb dX11_isSlot_6 (by decide) (fun c2 => ?_) (fun c2 => ?_)
    · have c2 := k_le (a := 4) (b := p0.toInt) (by decide) rfl c2
      refine lv_iconst (v := 0) hx hb dX11_isSlot_13 (by decide) ?_
      exact rt_z FX rfl () (congrArg (fun z => some (Value.int z)) (show (0 : Int32) = _ from by unfold sp_slot; (repeat' split) <;> first | rfl | (exfalso; omega))) trivial (hP.sub [] rfl) (hD.sub [] (by decide) rfl) hS (Nat.le_of_ble_eq_true rfl) (Nat.le_of_ble_eq_true rfl) dX11_isSlot_14
    · have c2 := k_nle (a := 4) (b := p0.toInt) (by decide) rfl c2
      refine lv_iconst (v := 1) hx hb dX11_isSlot_9 (by decide) ?_
      refine lv_goto (tgt := 14) hx hb dX11_isSlot_10 (by decide) ?_
      exact rt_z FX rfl () (congrArg (fun z => some (Value.int z)) (show (1 : Int32) = _ from by unfold sp_slot; (repeat' split) <;> first | rfl | (exfalso; omega))) trivial (hP.sub [] rfl) (hD.sub [] (by decide) rfl) hS (Nat.le_of_ble_eq_true rfl) (Nat.le_of_ble_eq_true rfl) dX11_isSlot_14
set_option maxRecDepth 100000 in
set_option maxHeartbeats 4000000 in
theorem c_X11_isSeed (l : Launch) (g : GG) (p0 : Int32) : Ct l g yX11_isSeed cX11_isSeed 1 (some .boolean) { frames := 0, cells := 0, slots := 0, locals := 0 } [.int p0] [] (S := Unit) (fun _ => some (.int (sp_seed p0))) (fun _ => True) (fun u => []) := by
  refine Ct.of (by decide) (Nat.le_of_ble_eq_true rfl) ?_
  intro p e s m below meth c A ls FX hP hD hS hl
  obtain ⟨FC, hr, hlk, hKn, hA, hnm⟩ := id FX
  have FC : CallFix p m c cX11_isSeed 1 s _ BIG RX11 := FC
  obtain ⟨hx, hb, hml, hown, hB⟩ := id FC
  have hl : lv_has ls 1 [(0, .int p0)] := hl
  refine lv_iload_n hx hb dX11_isSeed_0 rfl (lv_at hl 0 rfl) ?_
  refine lv_if_lt (tgt := 15) hx hb dX11_isSeed_1 (by decide) (fun c1 => ?_) (fun c1 => ?_)
  · have c1 := k_lt (a := p0.toInt) (b := 0) rfl (by decide) c1
    refine lv_iconst (v := 0) hx hb dX11_isSeed_15 (by decide) ?_
    exact rt_z FX rfl () (congrArg (fun z => some (Value.int z)) (show (0 : Int32) = _ from by unfold sp_seed; (repeat' split) <;> first | rfl | (exfalso; omega))) trivial (hP.sub [] rfl) (hD.sub [] (by decide) rfl) hS (Nat.le_of_ble_eq_true rfl) (Nat.le_of_ble_eq_true rfl) dX11_isSeed_16
  · have c1 := k_nlt (a := p0.toInt) (b := 0) rfl (by decide) c1
    refine lv_iload_n hx hb dX11_isSeed_4 rfl (lv_at hl 0 rfl) ?_
    refine lv_ldcw hx hb hown (hB _ b_8) dX11_isSeed_5 ?_
    refine lv_icmp_gt (tgt := 15) hx hb dX11_isSeed_8 (by decide) (fun c2 => ?_) (fun c2 => ?_)
    · have c2 := k_lt (a := 2000000000) (b := p0.toInt) (by decide) rfl c2
      refine lv_iconst (v := 0) hx hb dX11_isSeed_15 (by decide) ?_
      exact rt_z FX rfl () (congrArg (fun z => some (Value.int z)) (show (0 : Int32) = _ from by unfold sp_seed; (repeat' split) <;> first | rfl | (exfalso; omega))) trivial (hP.sub [] rfl) (hD.sub [] (by decide) rfl) hS (Nat.le_of_ble_eq_true rfl) (Nat.le_of_ble_eq_true rfl) dX11_isSeed_16
    · have c2 := k_nlt (a := 2000000000) (b := p0.toInt) (by decide) rfl c2
      refine lv_iconst (v := 1) hx hb dX11_isSeed_11 (by decide) ?_
      refine lv_goto (tgt := 16) hx hb dX11_isSeed_12 (by decide) ?_
      exact rt_z FX rfl () (congrArg (fun z => some (Value.int z)) (show (1 : Int32) = _ from by unfold sp_seed; (repeat' split) <;> first | rfl | (exfalso; omega))) trivial (hP.sub [] rfl) (hD.sub [] (by decide) rfl) hS (Nat.le_of_ble_eq_true rfl) (Nat.le_of_ble_eq_true rfl) dX11_isSeed_16
set_option maxRecDepth 100000 in
set_option maxHeartbeats 4000000 in
theorem c_X11_takeWeek (l : Launch) (g : GG) (h0 : Nat) (h1 : Nat) (w0 : Nat) (w2 : Nat) (w3 : Nat) (w4 : Nat) (w5 : Nat) (w6 : Nat) (w7 : Nat) (w8 : Nat) (w9 : Nat) (w10 : Nat) (v0 : Nat) (v1 : Nat) (v2 : Nat) (v3 : Nat) (v4 : Nat) (v5 : Nat) (v6 : Nat) (v7 : Nat) (v8 : Nat) (v9 : Nat) (p1 : Int32) : Ct l g yX11_takeWeek cX11_takeWeek 3 (some .int) { frames := 1, cells := 0, slots := 0, locals := 20 } [.ref h0, .int p1] [(h0, .inr (11, [.ref w0, .ref h1, .ref w2, .ref w3, .ref w4, .ref w5, .ref w6, .ref w7, .ref w8, .ref w9, .ref w10])), (h1, .inr (0, [.int 0, .int 0, .int 0, .int 0, .int 0, .int 0, .int 0, .int 0, .int 0, .int 0, .ref v0, .ref v1, .ref v2, .ref v3, .ref v4, .ref v5, .ref v6, .ref v7, .ref v8, .ref v9]))] (S := Unit) (fun _ => some (.int (-2))) (fun _ => True) (fun u => [(h0, .inr (11, [.ref w0, .ref h1, .ref w2, .ref w3, .ref w4, .ref w5, .ref w6, .ref w7, .ref w8, .ref w9, .ref w10])), (h1, .inr (0, [.int 0, .int 0, .int 0, .int 0, .int 0, .int 0, .int 0, .int 0, .int 0, .int 0, .ref v0, .ref v1, .ref v2, .ref v3, .ref v4, .ref v5, .ref v6, .ref v7, .ref v8, .ref v9]))]) := by
  refine Ct.of (by decide) (Nat.le_of_ble_eq_true rfl) ?_
  intro p e s m below meth c A ls FX hP hD hS hl
  obtain ⟨FC, hr, hlk, hKn, hA, hnm⟩ := id FX
  have FC : CallFix p m c cX11_takeWeek 3 s _ BIG RX11 := FC
  obtain ⟨hx, hb, hml, hown, hB⟩ := id FC
  have hl : lv_has ls 3 [(0, .ref h0), (1, .int p1)] := hl
  refine lv_iload_n hx hb dX11_takeWeek_0 rfl (lv_at hl 1 rfl) ?_
  refine call_S (As := [.int p1]) (rest := []) (wr := [(h0, .inr (11, [.ref w0, .ref h1, .ref w2, .ref w3, .ref w4, .ref w5, .ref w6, .ref w7, .ref w8, .ref w9, .ref w10])), (h1, .inr (0, [.int 0, .int 0, .int 0, .int 0, .int 0, .int 0, .int 0, .int 0, .int 0, .int 0, .ref v0, .ref v1, .ref v2, .ref v3, .ref v4, .ref v5, .ref v6, .ref v7, .ref v8, .ref v9]))]) FC hKn (c_X11_isSlot l g p1) m_yX11_isSlot b_9 hP hD hS hA [] [0, 1] rfl (by decide) rfl (by decide) (by decide) rfl hl.1 rfl (Nat.le_of_ble_eq_true rfl) dX11_takeWeek_1 ⟨(Nat.le_of_ble_eq_true rfl), (Nat.le_of_ble_eq_true rfl)⟩ ⟨(Nat.le_of_ble_eq_true rfl), (Nat.le_of_ble_eq_true rfl)⟩ (fun u1 H locs _ hP hD hS => ?_)
  have hP : va_P g.1 vwCl [(h0, .inr (11, [.ref w0, .ref h1, .ref w2, .ref w3, .ref w4, .ref w5, .ref w6, .ref w7, .ref w8, .ref w9, .ref w10])), (h1, .inr (0, [.int 0, .int 0, .int 0, .int 0, .int 0, .int 0, .int 0, .int 0, .int 0, .int 0, .ref v0, .ref v1, .ref v2, .ref v3, .ref v4, .ref v5, .ref v6, .ref v7, .ref v8, .ref v9]))] H := hP
  have hD : va_D A [(h0, .inr (11, [.ref w0, .ref h1, .ref w2, .ref w3, .ref w4, .ref w5, .ref w6, .ref w7, .ref w8, .ref w9, .ref w10])), (h1, .inr (0, [.int 0, .int 0, .int 0, .int 0, .int 0, .int 0, .int 0, .int 0, .int 0, .int 0, .ref v0, .ref v1, .ref v2, .ref v3, .ref v4, .ref v5, .ref v6, .ref v7, .ref v8, .ref v9]))] := hD
  refine W.eq (g2 := F0 m 4 ls [.int (sp_slot p1)]) rfl ?_
  by_cases c2 : 0 ≤ p1.toInt ∧ p1.toInt ≤ 3
  · refine tp_i (v := 1) (if_pos c2) ?_
    refine lv_if_eq (tgt := 17) hx hb dX11_takeWeek_4 (by decide) (fun h => absurd h (by decide)) (fun _ => ?_)
    refine lv_aload_n hx hb dX11_takeWeek_7 rfl (lv_at hl 0 rfl) ?_
    refine g_get (C := RX11) (T := TX11) (N := 11) (ci := 11) (v := .ref h1) FC hKn hP i_X11 0 rfl rfl 1 (by decide) b_10 rfl dX11_takeWeek_8 ?_
    refine call_VN (As := []) (rest := []) (wr := [(h0, .inr (11, [.ref w0, .ref h1, .ref w2, .ref w3, .ref w4, .ref w5, .ref w6, .ref w7, .ref w8, .ref w9, .ref w10]))]) FC hKn (c_X0_stands l g h1 v0 v1 v2 v3 v4 v5 v6 v7 v8 v9) m_yX0_stands b_11 (ci := 0) rfl rfl rfl hP hD hS hA [1] [0] rfl (by decide) rfl (by decide) (by decide) rfl hl.1 rfl (Nat.le_of_ble_eq_true rfl) dX11_takeWeek_11 ⟨(Nat.le_of_ble_eq_true rfl), (Nat.le_of_ble_eq_true rfl)⟩ ⟨(Nat.le_of_ble_eq_true rfl), (Nat.le_of_ble_eq_true rfl)⟩ (fun u3 H locs _ hP hD hS => ?_)
    have hP : va_P g.1 vwCl [(h0, .inr (11, [.ref w0, .ref h1, .ref w2, .ref w3, .ref w4, .ref w5, .ref w6, .ref w7, .ref w8, .ref w9, .ref w10])), (h1, .inr (0, [.int 0, .int 0, .int 0, .int 0, .int 0, .int 0, .int 0, .int 0, .int 0, .int 0, .ref v0, .ref v1, .ref v2, .ref v3, .ref v4, .ref v5, .ref v6, .ref v7, .ref v8, .ref v9]))] H := hP
    have hD : va_D A [(h0, .inr (11, [.ref w0, .ref h1, .ref w2, .ref w3, .ref w4, .ref w5, .ref w6, .ref w7, .ref w8, .ref w9, .ref w10])), (h1, .inr (0, [.int 0, .int 0, .int 0, .int 0, .int 0, .int 0, .int 0, .int 0, .int 0, .int 0, .ref v0, .ref v1, .ref v2, .ref v3, .ref v4, .ref v5, .ref v6, .ref v7, .ref v8, .ref v9]))] := hD
    refine W.eq (g2 := F0 m 14 ls [.int 0]) rfl ?_
    refine lv_if_ne (tgt := 20) hx hb dX11_takeWeek_14 (by decide) (fun h => absurd h (by decide)) (fun _ => ?_)
    refine lv_bipush (v := -2) hx hb dX11_takeWeek_17 (by decide) ?_
    exact rt_i FX () rfl trivial (hP.sub [0, 1] rfl) (hD.sub [0, 1] (by decide) rfl) hS (Nat.le_of_ble_eq_true rfl) (Nat.le_of_ble_eq_true rfl) dX11_takeWeek_19
  · refine tp_i (v := 0) (if_neg c2) ?_
    refine lv_if_eq (tgt := 17) hx hb dX11_takeWeek_4 (by decide) (fun _ => ?_) (fun h => absurd h (by decide))
    refine lv_bipush (v := -2) hx hb dX11_takeWeek_17 (by decide) ?_
    exact rt_i FX () rfl trivial (hP.sub [0, 1] rfl) (hD.sub [0, 1] (by decide) rfl) hS (Nat.le_of_ble_eq_true rfl) (Nat.le_of_ble_eq_true rfl) dX11_takeWeek_19
set_option maxRecDepth 100000 in
set_option maxHeartbeats 4000000 in
theorem c_X11_feelWeek (l : Launch) (g : GG) (h0 : Nat) (h1 : Nat) (w0 : Nat) (w2 : Nat) (w3 : Nat) (w4 : Nat) (w5 : Nat) (w6 : Nat) (w7 : Nat) (w8 : Nat) (w9 : Nat) (w10 : Nat) (v0 : Nat) (v1 : Nat) (v2 : Nat) (v3 : Nat) (v4 : Nat) (v5 : Nat) (v6 : Nat) (v7 : Nat) (v8 : Nat) (v9 : Nat) (p1 : Int32) (p2 : Int32) : Ct l g yX11_feelWeek cX11_feelWeek 4 (some .int) { frames := 1, cells := 0, slots := 0, locals := 21 } [.ref h0, .int p1, .int p2] [(h0, .inr (11, [.ref w0, .ref h1, .ref w2, .ref w3, .ref w4, .ref w5, .ref w6, .ref w7, .ref w8, .ref w9, .ref w10])), (h1, .inr (0, [.int 0, .int 0, .int 0, .int 0, .int 0, .int 0, .int 0, .int 0, .int 0, .int 0, .ref v0, .ref v1, .ref v2, .ref v3, .ref v4, .ref v5, .ref v6, .ref v7, .ref v8, .ref v9]))] (S := Unit) (fun _ => some (.int (-2))) (fun _ => True) (fun u => [(h0, .inr (11, [.ref w0, .ref h1, .ref w2, .ref w3, .ref w4, .ref w5, .ref w6, .ref w7, .ref w8, .ref w9, .ref w10])), (h1, .inr (0, [.int 0, .int 0, .int 0, .int 0, .int 0, .int 0, .int 0, .int 0, .int 0, .int 0, .ref v0, .ref v1, .ref v2, .ref v3, .ref v4, .ref v5, .ref v6, .ref v7, .ref v8, .ref v9]))]) := by
  refine Ct.of (by decide) (Nat.le_of_ble_eq_true rfl) ?_
  intro p e s m below meth c A ls FX hP hD hS hl
  obtain ⟨FC, hr, hlk, hKn, hA, hnm⟩ := id FX
  have FC : CallFix p m c cX11_feelWeek 4 s _ BIG RX11 := FC
  obtain ⟨hx, hb, hml, hown, hB⟩ := id FC
  have hl : lv_has ls 4 [(0, .ref h0), (1, .int p1), (2, .int p2)] := hl
  refine lv_aload_n hx hb dX11_feelWeek_0 rfl (lv_at hl 0 rfl) ?_
  refine g_get (C := RX11) (T := TX11) (N := 11) (ci := 11) (v := .ref h1) FC hKn hP i_X11 0 rfl rfl 1 (by decide) b_10 rfl dX11_feelWeek_1 ?_
  refine lv_iload_n hx hb dX11_feelWeek_4 rfl (lv_at hl 2 rfl) ?_
  refine call_VN (As := [.int p2]) (rest := []) (wr := [(h0, .inr (11, [.ref w0, .ref h1, .ref w2, .ref w3, .ref w4, .ref w5, .ref w6, .ref w7, .ref w8, .ref w9, .ref w10]))]) FC hKn (c_X0_hasHearer l g h1 v0 v1 v2 v3 v4 v5 v6 v7 v8 v9 p2) m_yX0_hasHearer b_12 (ci := 0) rfl rfl rfl hP hD hS hA [1] [0] rfl (by decide) rfl (by decide) (by decide) rfl hl.1 rfl (Nat.le_of_ble_eq_true rfl) dX11_feelWeek_5 ⟨(Nat.le_of_ble_eq_true rfl), (Nat.le_of_ble_eq_true rfl)⟩ ⟨(Nat.le_of_ble_eq_true rfl), (Nat.le_of_ble_eq_true rfl)⟩ (fun u1 H locs _ hP hD hS => ?_)
  have hP : va_P g.1 vwCl [(h0, .inr (11, [.ref w0, .ref h1, .ref w2, .ref w3, .ref w4, .ref w5, .ref w6, .ref w7, .ref w8, .ref w9, .ref w10])), (h1, .inr (0, [.int 0, .int 0, .int 0, .int 0, .int 0, .int 0, .int 0, .int 0, .int 0, .int 0, .ref v0, .ref v1, .ref v2, .ref v3, .ref v4, .ref v5, .ref v6, .ref v7, .ref v8, .ref v9]))] H := hP
  have hD : va_D A [(h0, .inr (11, [.ref w0, .ref h1, .ref w2, .ref w3, .ref w4, .ref w5, .ref w6, .ref w7, .ref w8, .ref w9, .ref w10])), (h1, .inr (0, [.int 0, .int 0, .int 0, .int 0, .int 0, .int 0, .int 0, .int 0, .int 0, .int 0, .ref v0, .ref v1, .ref v2, .ref v3, .ref v4, .ref v5, .ref v6, .ref v7, .ref v8, .ref v9]))] := hD
  refine W.eq (g2 := F0 m 8 ls [.int 0]) rfl ?_
  refine lv_if_ne (tgt := 14) hx hb dX11_feelWeek_8 (by decide) (fun h => absurd h (by decide)) (fun _ => ?_)
  refine lv_bipush (v := -2) hx hb dX11_feelWeek_11 (by decide) ?_
  exact rt_i FX () rfl trivial (hP.sub [0, 1] rfl) (hD.sub [0, 1] (by decide) rfl) hS (Nat.le_of_ble_eq_true rfl) (Nat.le_of_ble_eq_true rfl) dX11_feelWeek_13
set_option maxRecDepth 100000 in
set_option maxHeartbeats 4000000 in
theorem c_X11_orderWeek (l : Launch) (g : GG) (h0 : Nat) (h1 : Nat) (w0 : Nat) (w2 : Nat) (w3 : Nat) (w4 : Nat) (w5 : Nat) (w6 : Nat) (w7 : Nat) (w8 : Nat) (w9 : Nat) (w10 : Nat) (v0 : Nat) (v1 : Nat) (v2 : Nat) (v3 : Nat) (v4 : Nat) (v5 : Nat) (v6 : Nat) (v7 : Nat) (v8 : Nat) (v9 : Nat) (p1 : Int32) (p2 : Int32) : Ct l g yX11_orderWeek cX11_orderWeek 4 (some .int) { frames := 1, cells := 0, slots := 0, locals := 21 } [.ref h0, .int p1, .int p2] [(h0, .inr (11, [.ref w0, .ref h1, .ref w2, .ref w3, .ref w4, .ref w5, .ref w6, .ref w7, .ref w8, .ref w9, .ref w10])), (h1, .inr (0, [.int 0, .int 0, .int 0, .int 0, .int 0, .int 0, .int 0, .int 0, .int 0, .int 0, .ref v0, .ref v1, .ref v2, .ref v3, .ref v4, .ref v5, .ref v6, .ref v7, .ref v8, .ref v9]))] (S := Unit) (fun _ => some (.int (-2))) (fun _ => True) (fun u => [(h0, .inr (11, [.ref w0, .ref h1, .ref w2, .ref w3, .ref w4, .ref w5, .ref w6, .ref w7, .ref w8, .ref w9, .ref w10])), (h1, .inr (0, [.int 0, .int 0, .int 0, .int 0, .int 0, .int 0, .int 0, .int 0, .int 0, .int 0, .ref v0, .ref v1, .ref v2, .ref v3, .ref v4, .ref v5, .ref v6, .ref v7, .ref v8, .ref v9]))]) := by
  refine Ct.of (by decide) (Nat.le_of_ble_eq_true rfl) ?_
  intro p e s m below meth c A ls FX hP hD hS hl
  obtain ⟨FC, hr, hlk, hKn, hA, hnm⟩ := id FX
  have FC : CallFix p m c cX11_orderWeek 4 s _ BIG RX11 := FC
  obtain ⟨hx, hb, hml, hown, hB⟩ := id FC
  have hl : lv_has ls 4 [(0, .ref h0), (1, .int p1), (2, .int p2)] := hl
  refine lv_aload_n hx hb dX11_orderWeek_0 rfl (lv_at hl 0 rfl) ?_
  refine g_get (C := RX11) (T := TX11) (N := 11) (ci := 11) (v := .ref h1) FC hKn hP i_X11 0 rfl rfl 1 (by decide) b_10 rfl dX11_orderWeek_1 ?_
  refine lv_iload_n hx hb dX11_orderWeek_4 rfl (lv_at hl 2 rfl) ?_
  refine call_VN (As := [.int p2]) (rest := []) (wr := [(h0, .inr (11, [.ref w0, .ref h1, .ref w2, .ref w3, .ref w4, .ref w5, .ref w6, .ref w7, .ref w8, .ref w9, .ref w10]))]) FC hKn (c_X0_hasHearer l g h1 v0 v1 v2 v3 v4 v5 v6 v7 v8 v9 p2) m_yX0_hasHearer b_12 (ci := 0) rfl rfl rfl hP hD hS hA [1] [0] rfl (by decide) rfl (by decide) (by decide) rfl hl.1 rfl (Nat.le_of_ble_eq_true rfl) dX11_orderWeek_5 ⟨(Nat.le_of_ble_eq_true rfl), (Nat.le_of_ble_eq_true rfl)⟩ ⟨(Nat.le_of_ble_eq_true rfl), (Nat.le_of_ble_eq_true rfl)⟩ (fun u1 H locs _ hP hD hS => ?_)
  have hP : va_P g.1 vwCl [(h0, .inr (11, [.ref w0, .ref h1, .ref w2, .ref w3, .ref w4, .ref w5, .ref w6, .ref w7, .ref w8, .ref w9, .ref w10])), (h1, .inr (0, [.int 0, .int 0, .int 0, .int 0, .int 0, .int 0, .int 0, .int 0, .int 0, .int 0, .ref v0, .ref v1, .ref v2, .ref v3, .ref v4, .ref v5, .ref v6, .ref v7, .ref v8, .ref v9]))] H := hP
  have hD : va_D A [(h0, .inr (11, [.ref w0, .ref h1, .ref w2, .ref w3, .ref w4, .ref w5, .ref w6, .ref w7, .ref w8, .ref w9, .ref w10])), (h1, .inr (0, [.int 0, .int 0, .int 0, .int 0, .int 0, .int 0, .int 0, .int 0, .int 0, .int 0, .ref v0, .ref v1, .ref v2, .ref v3, .ref v4, .ref v5, .ref v6, .ref v7, .ref v8, .ref v9]))] := hD
  refine W.eq (g2 := F0 m 8 ls [.int 0]) rfl ?_
  refine lv_if_ne (tgt := 14) hx hb dX11_orderWeek_8 (by decide) (fun h => absurd h (by decide)) (fun _ => ?_)
  refine lv_bipush (v := -2) hx hb dX11_orderWeek_11 (by decide) ?_
  exact rt_i FX () rfl trivial (hP.sub [0, 1] rfl) (hD.sub [0, 1] (by decide) rfl) hS (Nat.le_of_ble_eq_true rfl) (Nat.le_of_ble_eq_true rfl) dX11_orderWeek_13
set_option maxRecDepth 100000 in
set_option maxHeartbeats 4000000 in
theorem c_X11_reckonWeek (l : Launch) (g : GG) (h0 : Nat) (h1 : Nat) (w0 : Nat) (w2 : Nat) (w3 : Nat) (w4 : Nat) (w5 : Nat) (w6 : Nat) (w7 : Nat) (w8 : Nat) (w9 : Nat) (w10 : Nat) (v0 : Nat) (v1 : Nat) (v2 : Nat) (v3 : Nat) (v4 : Nat) (v5 : Nat) (v6 : Nat) (v7 : Nat) (v8 : Nat) (v9 : Nat) (p1 : Int32) (p2 : Int32) : Ct l g yX11_reckonWeek cX11_reckonWeek 4 (some .int) { frames := 1, cells := 0, slots := 0, locals := 21 } [.ref h0, .int p1, .int p2] [(h0, .inr (11, [.ref w0, .ref h1, .ref w2, .ref w3, .ref w4, .ref w5, .ref w6, .ref w7, .ref w8, .ref w9, .ref w10])), (h1, .inr (0, [.int 0, .int 0, .int 0, .int 0, .int 0, .int 0, .int 0, .int 0, .int 0, .int 0, .ref v0, .ref v1, .ref v2, .ref v3, .ref v4, .ref v5, .ref v6, .ref v7, .ref v8, .ref v9]))] (S := Unit) (fun _ => some (.int (-2))) (fun _ => True) (fun u => [(h0, .inr (11, [.ref w0, .ref h1, .ref w2, .ref w3, .ref w4, .ref w5, .ref w6, .ref w7, .ref w8, .ref w9, .ref w10])), (h1, .inr (0, [.int 0, .int 0, .int 0, .int 0, .int 0, .int 0, .int 0, .int 0, .int 0, .int 0, .ref v0, .ref v1, .ref v2, .ref v3, .ref v4, .ref v5, .ref v6, .ref v7, .ref v8, .ref v9]))]) := by
  refine Ct.of (by decide) (Nat.le_of_ble_eq_true rfl) ?_
  intro p e s m below meth c A ls FX hP hD hS hl
  obtain ⟨FC, hr, hlk, hKn, hA, hnm⟩ := id FX
  have FC : CallFix p m c cX11_reckonWeek 4 s _ BIG RX11 := FC
  obtain ⟨hx, hb, hml, hown, hB⟩ := id FC
  have hl : lv_has ls 4 [(0, .ref h0), (1, .int p1), (2, .int p2)] := hl
  refine lv_aload_n hx hb dX11_reckonWeek_0 rfl (lv_at hl 0 rfl) ?_
  refine g_get (C := RX11) (T := TX11) (N := 11) (ci := 11) (v := .ref h1) FC hKn hP i_X11 0 rfl rfl 1 (by decide) b_10 rfl dX11_reckonWeek_1 ?_
  refine lv_iload_n hx hb dX11_reckonWeek_4 rfl (lv_at hl 2 rfl) ?_
  refine call_VN (As := [.int p2]) (rest := []) (wr := [(h0, .inr (11, [.ref w0, .ref h1, .ref w2, .ref w3, .ref w4, .ref w5, .ref w6, .ref w7, .ref w8, .ref w9, .ref w10]))]) FC hKn (c_X0_hasHearer l g h1 v0 v1 v2 v3 v4 v5 v6 v7 v8 v9 p2) m_yX0_hasHearer b_12 (ci := 0) rfl rfl rfl hP hD hS hA [1] [0] rfl (by decide) rfl (by decide) (by decide) rfl hl.1 rfl (Nat.le_of_ble_eq_true rfl) dX11_reckonWeek_5 ⟨(Nat.le_of_ble_eq_true rfl), (Nat.le_of_ble_eq_true rfl)⟩ ⟨(Nat.le_of_ble_eq_true rfl), (Nat.le_of_ble_eq_true rfl)⟩ (fun u1 H locs _ hP hD hS => ?_)
  have hP : va_P g.1 vwCl [(h0, .inr (11, [.ref w0, .ref h1, .ref w2, .ref w3, .ref w4, .ref w5, .ref w6, .ref w7, .ref w8, .ref w9, .ref w10])), (h1, .inr (0, [.int 0, .int 0, .int 0, .int 0, .int 0, .int 0, .int 0, .int 0, .int 0, .int 0, .ref v0, .ref v1, .ref v2, .ref v3, .ref v4, .ref v5, .ref v6, .ref v7, .ref v8, .ref v9]))] H := hP
  have hD : va_D A [(h0, .inr (11, [.ref w0, .ref h1, .ref w2, .ref w3, .ref w4, .ref w5, .ref w6, .ref w7, .ref w8, .ref w9, .ref w10])), (h1, .inr (0, [.int 0, .int 0, .int 0, .int 0, .int 0, .int 0, .int 0, .int 0, .int 0, .int 0, .ref v0, .ref v1, .ref v2, .ref v3, .ref v4, .ref v5, .ref v6, .ref v7, .ref v8, .ref v9]))] := hD
  refine W.eq (g2 := F0 m 8 ls [.int 0]) rfl ?_
  refine lv_if_ne (tgt := 14) hx hb dX11_reckonWeek_8 (by decide) (fun h => absurd h (by decide)) (fun _ => ?_)
  refine lv_bipush (v := -2) hx hb dX11_reckonWeek_11 (by decide) ?_
  exact rt_i FX () rfl trivial (hP.sub [0, 1] rfl) (hD.sub [0, 1] (by decide) rfl) hS (Nat.le_of_ble_eq_true rfl) (Nat.le_of_ble_eq_true rfl) dX11_reckonWeek_13
set_option maxRecDepth 100000 in
set_option maxHeartbeats 4000000 in
theorem c_X11_wordOfBest (l : Launch) (g : GG) (h0 : Nat) (h1 : Nat) (w0 : Nat) (w2 : Nat) (w3 : Nat) (w4 : Nat) (w5 : Nat) (w6 : Nat) (w7 : Nat) (w8 : Nat) (w9 : Nat) (w10 : Nat) (v0 : Nat) (v1 : Nat) (v2 : Nat) (v3 : Nat) (v4 : Nat) (v5 : Nat) (v6 : Nat) (v7 : Nat) (v8 : Nat) (v9 : Nat) (p1 : Int32) (p2 : Int32) (p3 : Int32) (p4 : Int32) : Ct l g yX11_wordOfBest cX11_wordOfBest 5 (some .int) { frames := 1, cells := 0, slots := 0, locals := 21 } [.ref h0, .int p1, .int p2, .int p3, .int p4] [(h0, .inr (11, [.ref w0, .ref h1, .ref w2, .ref w3, .ref w4, .ref w5, .ref w6, .ref w7, .ref w8, .ref w9, .ref w10])), (h1, .inr (0, [.int 0, .int 0, .int 0, .int 0, .int 0, .int 0, .int 0, .int 0, .int 0, .int 0, .ref v0, .ref v1, .ref v2, .ref v3, .ref v4, .ref v5, .ref v6, .ref v7, .ref v8, .ref v9]))] (S := Unit) (fun _ => some (.int (-2))) (fun _ => True) (fun u => [(h0, .inr (11, [.ref w0, .ref h1, .ref w2, .ref w3, .ref w4, .ref w5, .ref w6, .ref w7, .ref w8, .ref w9, .ref w10])), (h1, .inr (0, [.int 0, .int 0, .int 0, .int 0, .int 0, .int 0, .int 0, .int 0, .int 0, .int 0, .ref v0, .ref v1, .ref v2, .ref v3, .ref v4, .ref v5, .ref v6, .ref v7, .ref v8, .ref v9]))]) := by
  refine Ct.of (by decide) (Nat.le_of_ble_eq_true rfl) ?_
  intro p e s m below meth c A ls FX hP hD hS hl
  obtain ⟨FC, hr, hlk, hKn, hA, hnm⟩ := id FX
  have FC : CallFix p m c cX11_wordOfBest 5 s _ BIG RX11 := FC
  obtain ⟨hx, hb, hml, hown, hB⟩ := id FC
  have hl : lv_has ls 5 [(0, .ref h0), (1, .int p1), (2, .int p2), (3, .int p3), (4, .int p4)] := hl
  refine lv_aload_n hx hb dX11_wordOfBest_0 rfl (lv_at hl 0 rfl) ?_
  refine g_get (C := RX11) (T := TX11) (N := 11) (ci := 11) (v := .ref h1) FC hKn hP i_X11 0 rfl rfl 1 (by decide) b_10 rfl dX11_wordOfBest_1 ?_
  refine lv_iload_n hx hb dX11_wordOfBest_4 rfl (lv_at hl 1 rfl) ?_
  refine call_VN (As := [.int p1]) (rest := []) (wr := [(h0, .inr (11, [.ref w0, .ref h1, .ref w2, .ref w3, .ref w4, .ref w5, .ref w6, .ref w7, .ref w8, .ref w9, .ref w10]))]) FC hKn (c_X0_hasHearer l g h1 v0 v1 v2 v3 v4 v5 v6 v7 v8 v9 p1) m_yX0_hasHearer b_12 (ci := 0) rfl rfl rfl hP hD hS hA [1] [0] rfl (by decide) rfl (by decide) (by decide) rfl hl.1 rfl (Nat.le_of_ble_eq_true rfl) dX11_wordOfBest_5 ⟨(Nat.le_of_ble_eq_true rfl), (Nat.le_of_ble_eq_true rfl)⟩ ⟨(Nat.le_of_ble_eq_true rfl), (Nat.le_of_ble_eq_true rfl)⟩ (fun u1 H locs _ hP hD hS => ?_)
  have hP : va_P g.1 vwCl [(h0, .inr (11, [.ref w0, .ref h1, .ref w2, .ref w3, .ref w4, .ref w5, .ref w6, .ref w7, .ref w8, .ref w9, .ref w10])), (h1, .inr (0, [.int 0, .int 0, .int 0, .int 0, .int 0, .int 0, .int 0, .int 0, .int 0, .int 0, .ref v0, .ref v1, .ref v2, .ref v3, .ref v4, .ref v5, .ref v6, .ref v7, .ref v8, .ref v9]))] H := hP
  have hD : va_D A [(h0, .inr (11, [.ref w0, .ref h1, .ref w2, .ref w3, .ref w4, .ref w5, .ref w6, .ref w7, .ref w8, .ref w9, .ref w10])), (h1, .inr (0, [.int 0, .int 0, .int 0, .int 0, .int 0, .int 0, .int 0, .int 0, .int 0, .int 0, .ref v0, .ref v1, .ref v2, .ref v3, .ref v4, .ref v5, .ref v6, .ref v7, .ref v8, .ref v9]))] := hD
  refine W.eq (g2 := F0 m 8 ls [.int 0]) rfl ?_
  refine lv_if_eq (tgt := 22) hx hb dX11_wordOfBest_8 (by decide) (fun _ => ?_) (fun h => absurd h (by decide))
  refine lv_bipush (v := -2) hx hb dX11_wordOfBest_22 (by decide) ?_
  exact rt_i FX () rfl trivial (hP.sub [0, 1] rfl) (hD.sub [0, 1] (by decide) rfl) hS (Nat.le_of_ble_eq_true rfl) (Nat.le_of_ble_eq_true rfl) dX11_wordOfBest_24
set_option maxRecDepth 100000 in
set_option maxHeartbeats 4000000 in
theorem c_X11_grade (l : Launch) (g : GG) (h0 : Nat) (h1 : Nat) (w0 : Nat) (w2 : Nat) (w3 : Nat) (w4 : Nat) (w5 : Nat) (w6 : Nat) (w7 : Nat) (w8 : Nat) (w9 : Nat) (w10 : Nat) (v0 : Nat) (v1 : Nat) (v2 : Nat) (v3 : Nat) (v4 : Nat) (v5 : Nat) (v6 : Nat) (v7 : Nat) (v8 : Nat) (v9 : Nat) (p1 : Int32) : Ct l g yX11_grade cX11_grade 2 (some .int) { frames := 1, cells := 0, slots := 0, locals := 21 } [.ref h0, .int p1] [(h0, .inr (11, [.ref w0, .ref h1, .ref w2, .ref w3, .ref w4, .ref w5, .ref w6, .ref w7, .ref w8, .ref w9, .ref w10])), (h1, .inr (0, [.int 0, .int 0, .int 0, .int 0, .int 0, .int 0, .int 0, .int 0, .int 0, .int 0, .ref v0, .ref v1, .ref v2, .ref v3, .ref v4, .ref v5, .ref v6, .ref v7, .ref v8, .ref v9]))] (S := Unit) (fun _ => some (.int (-2))) (fun _ => True) (fun u => [(h0, .inr (11, [.ref w0, .ref h1, .ref w2, .ref w3, .ref w4, .ref w5, .ref w6, .ref w7, .ref w8, .ref w9, .ref w10])), (h1, .inr (0, [.int 0, .int 0, .int 0, .int 0, .int 0, .int 0, .int 0, .int 0, .int 0, .int 0, .ref v0, .ref v1, .ref v2, .ref v3, .ref v4, .ref v5, .ref v6, .ref v7, .ref v8, .ref v9]))]) := by
  refine Ct.of (by decide) (Nat.le_of_ble_eq_true rfl) ?_
  intro p e s m below meth c A ls FX hP hD hS hl
  obtain ⟨FC, hr, hlk, hKn, hA, hnm⟩ := id FX
  have FC : CallFix p m c cX11_grade 2 s _ BIG RX11 := FC
  obtain ⟨hx, hb, hml, hown, hB⟩ := id FC
  have hl : lv_has ls 2 [(0, .ref h0), (1, .int p1)] := hl
  refine lv_aload_n hx hb dX11_grade_0 rfl (lv_at hl 0 rfl) ?_
  refine g_get (C := RX11) (T := TX11) (N := 11) (ci := 11) (v := .ref h1) FC hKn hP i_X11 0 rfl rfl 1 (by decide) b_10 rfl dX11_grade_1 ?_
  refine lv_iload_n hx hb dX11_grade_4 rfl (lv_at hl 1 rfl) ?_
  refine call_VN (As := [.int p1]) (rest := []) (wr := [(h0, .inr (11, [.ref w0, .ref h1, .ref w2, .ref w3, .ref w4, .ref w5, .ref w6, .ref w7, .ref w8, .ref w9, .ref w10]))]) FC hKn (c_X0_hasState l g h1 v0 v1 v2 v3 v4 v5 v6 v7 v8 v9 p1) m_yX0_hasState b_13 (ci := 0) rfl rfl rfl hP hD hS hA [1] [0] rfl (by decide) rfl (by decide) (by decide) rfl hl.1 rfl (Nat.le_of_ble_eq_true rfl) dX11_grade_5 ⟨(Nat.le_of_ble_eq_true rfl), (Nat.le_of_ble_eq_true rfl)⟩ ⟨(Nat.le_of_ble_eq_true rfl), (Nat.le_of_ble_eq_true rfl)⟩ (fun u1 H locs _ hP hD hS => ?_)
  have hP : va_P g.1 vwCl [(h0, .inr (11, [.ref w0, .ref h1, .ref w2, .ref w3, .ref w4, .ref w5, .ref w6, .ref w7, .ref w8, .ref w9, .ref w10])), (h1, .inr (0, [.int 0, .int 0, .int 0, .int 0, .int 0, .int 0, .int 0, .int 0, .int 0, .int 0, .ref v0, .ref v1, .ref v2, .ref v3, .ref v4, .ref v5, .ref v6, .ref v7, .ref v8, .ref v9]))] H := hP
  have hD : va_D A [(h0, .inr (11, [.ref w0, .ref h1, .ref w2, .ref w3, .ref w4, .ref w5, .ref w6, .ref w7, .ref w8, .ref w9, .ref w10])), (h1, .inr (0, [.int 0, .int 0, .int 0, .int 0, .int 0, .int 0, .int 0, .int 0, .int 0, .int 0, .ref v0, .ref v1, .ref v2, .ref v3, .ref v4, .ref v5, .ref v6, .ref v7, .ref v8, .ref v9]))] := hD
  refine W.eq (g2 := F0 m 8 ls [.int 0]) rfl ?_
  refine lv_if_eq (tgt := 23) hx hb dX11_grade_8 (by decide) (fun _ => ?_) (fun h => absurd h (by decide))
  refine lv_bipush (v := -2) hx hb dX11_grade_23 (by decide) ?_
  exact rt_i FX () rfl trivial (hP.sub [0, 1] rfl) (hD.sub [0, 1] (by decide) rfl) hS (Nat.le_of_ble_eq_true rfl) (Nat.le_of_ble_eq_true rfl) dX11_grade_25
set_option maxRecDepth 100000 in
set_option maxHeartbeats 4000000 in
theorem c_X11_thinks (l : Launch) (g : GG) (h0 : Nat) (h1 : Nat) (w0 : Nat) (w2 : Nat) (w3 : Nat) (w4 : Nat) (w5 : Nat) (w6 : Nat) (w7 : Nat) (w8 : Nat) (w9 : Nat) (w10 : Nat) (v0 : Nat) (v1 : Nat) (v2 : Nat) (v3 : Nat) (v4 : Nat) (v5 : Nat) (v6 : Nat) (v7 : Nat) (v8 : Nat) (v9 : Nat) (p1 : Int32) (p2 : Int32) : Ct l g yX11_thinks cX11_thinks 3 (some .int) { frames := 1, cells := 0, slots := 0, locals := 21 } [.ref h0, .int p1, .int p2] [(h0, .inr (11, [.ref w0, .ref h1, .ref w2, .ref w3, .ref w4, .ref w5, .ref w6, .ref w7, .ref w8, .ref w9, .ref w10])), (h1, .inr (0, [.int 0, .int 0, .int 0, .int 0, .int 0, .int 0, .int 0, .int 0, .int 0, .int 0, .ref v0, .ref v1, .ref v2, .ref v3, .ref v4, .ref v5, .ref v6, .ref v7, .ref v8, .ref v9]))] (S := Unit) (fun _ => some (.int (-2))) (fun _ => True) (fun u => [(h0, .inr (11, [.ref w0, .ref h1, .ref w2, .ref w3, .ref w4, .ref w5, .ref w6, .ref w7, .ref w8, .ref w9, .ref w10])), (h1, .inr (0, [.int 0, .int 0, .int 0, .int 0, .int 0, .int 0, .int 0, .int 0, .int 0, .int 0, .ref v0, .ref v1, .ref v2, .ref v3, .ref v4, .ref v5, .ref v6, .ref v7, .ref v8, .ref v9]))]) := by
  refine Ct.of (by decide) (Nat.le_of_ble_eq_true rfl) ?_
  intro p e s m below meth c A ls FX hP hD hS hl
  obtain ⟨FC, hr, hlk, hKn, hA, hnm⟩ := id FX
  have FC : CallFix p m c cX11_thinks 3 s _ BIG RX11 := FC
  obtain ⟨hx, hb, hml, hown, hB⟩ := id FC
  have hl : lv_has ls 3 [(0, .ref h0), (1, .int p1), (2, .int p2)] := hl
  refine lv_aload_n hx hb dX11_thinks_0 rfl (lv_at hl 0 rfl) ?_
  refine g_get (C := RX11) (T := TX11) (N := 11) (ci := 11) (v := .ref h1) FC hKn hP i_X11 0 rfl rfl 1 (by decide) b_10 rfl dX11_thinks_1 ?_
  refine lv_iload_n hx hb dX11_thinks_4 rfl (lv_at hl 1 rfl) ?_
  refine call_VN (As := [.int p1]) (rest := []) (wr := [(h0, .inr (11, [.ref w0, .ref h1, .ref w2, .ref w3, .ref w4, .ref w5, .ref w6, .ref w7, .ref w8, .ref w9, .ref w10]))]) FC hKn (c_X0_hasHearer l g h1 v0 v1 v2 v3 v4 v5 v6 v7 v8 v9 p1) m_yX0_hasHearer b_12 (ci := 0) rfl rfl rfl hP hD hS hA [1] [0] rfl (by decide) rfl (by decide) (by decide) rfl hl.1 rfl (Nat.le_of_ble_eq_true rfl) dX11_thinks_5 ⟨(Nat.le_of_ble_eq_true rfl), (Nat.le_of_ble_eq_true rfl)⟩ ⟨(Nat.le_of_ble_eq_true rfl), (Nat.le_of_ble_eq_true rfl)⟩ (fun u1 H locs _ hP hD hS => ?_)
  have hP : va_P g.1 vwCl [(h0, .inr (11, [.ref w0, .ref h1, .ref w2, .ref w3, .ref w4, .ref w5, .ref w6, .ref w7, .ref w8, .ref w9, .ref w10])), (h1, .inr (0, [.int 0, .int 0, .int 0, .int 0, .int 0, .int 0, .int 0, .int 0, .int 0, .int 0, .ref v0, .ref v1, .ref v2, .ref v3, .ref v4, .ref v5, .ref v6, .ref v7, .ref v8, .ref v9]))] H := hP
  have hD : va_D A [(h0, .inr (11, [.ref w0, .ref h1, .ref w2, .ref w3, .ref w4, .ref w5, .ref w6, .ref w7, .ref w8, .ref w9, .ref w10])), (h1, .inr (0, [.int 0, .int 0, .int 0, .int 0, .int 0, .int 0, .int 0, .int 0, .int 0, .int 0, .ref v0, .ref v1, .ref v2, .ref v3, .ref v4, .ref v5, .ref v6, .ref v7, .ref v8, .ref v9]))] := hD
  refine W.eq (g2 := F0 m 8 ls [.int 0]) rfl ?_
  refine lv_if_ne (tgt := 14) hx hb dX11_thinks_8 (by decide) (fun h => absurd h (by decide)) (fun _ => ?_)
  refine lv_bipush (v := -2) hx hb dX11_thinks_11 (by decide) ?_
  exact rt_i FX () rfl trivial (hP.sub [0, 1] rfl) (hD.sub [0, 1] (by decide) rfl) hS (Nat.le_of_ble_eq_true rfl) (Nat.le_of_ble_eq_true rfl) dX11_thinks_13
set_option maxRecDepth 100000 in
set_option maxHeartbeats 4000000 in
theorem c_X11_word (l : Launch) (g : GG) (h0 : Nat) (h1 : Nat) (w0 : Nat) (w2 : Nat) (w3 : Nat) (w4 : Nat) (w5 : Nat) (w6 : Nat) (w7 : Nat) (w8 : Nat) (w9 : Nat) (w10 : Nat) (v0 : Nat) (v1 : Nat) (v2 : Nat) (v3 : Nat) (v4 : Nat) (v5 : Nat) (v6 : Nat) (v7 : Nat) (v8 : Nat) (v9 : Nat) (p1 : Int32) (p2 : Int32) : Ct l g yX11_word cX11_word 3 (some .int) { frames := 1, cells := 0, slots := 0, locals := 21 } [.ref h0, .int p1, .int p2] [(h0, .inr (11, [.ref w0, .ref h1, .ref w2, .ref w3, .ref w4, .ref w5, .ref w6, .ref w7, .ref w8, .ref w9, .ref w10])), (h1, .inr (0, [.int 0, .int 0, .int 0, .int 0, .int 0, .int 0, .int 0, .int 0, .int 0, .int 0, .ref v0, .ref v1, .ref v2, .ref v3, .ref v4, .ref v5, .ref v6, .ref v7, .ref v8, .ref v9]))] (S := Unit) (fun _ => some (.int (-2))) (fun _ => True) (fun u => [(h0, .inr (11, [.ref w0, .ref h1, .ref w2, .ref w3, .ref w4, .ref w5, .ref w6, .ref w7, .ref w8, .ref w9, .ref w10])), (h1, .inr (0, [.int 0, .int 0, .int 0, .int 0, .int 0, .int 0, .int 0, .int 0, .int 0, .int 0, .ref v0, .ref v1, .ref v2, .ref v3, .ref v4, .ref v5, .ref v6, .ref v7, .ref v8, .ref v9]))]) := by
  refine Ct.of (by decide) (Nat.le_of_ble_eq_true rfl) ?_
  intro p e s m below meth c A ls FX hP hD hS hl
  obtain ⟨FC, hr, hlk, hKn, hA, hnm⟩ := id FX
  have FC : CallFix p m c cX11_word 3 s _ BIG RX11 := FC
  obtain ⟨hx, hb, hml, hown, hB⟩ := id FC
  have hl : lv_has ls 3 [(0, .ref h0), (1, .int p1), (2, .int p2)] := hl
  refine lv_aload_n hx hb dX11_word_0 rfl (lv_at hl 0 rfl) ?_
  refine g_get (C := RX11) (T := TX11) (N := 11) (ci := 11) (v := .ref h1) FC hKn hP i_X11 0 rfl rfl 1 (by decide) b_10 rfl dX11_word_1 ?_
  refine lv_iload_n hx hb dX11_word_4 rfl (lv_at hl 1 rfl) ?_
  refine call_VN (As := [.int p1]) (rest := []) (wr := [(h0, .inr (11, [.ref w0, .ref h1, .ref w2, .ref w3, .ref w4, .ref w5, .ref w6, .ref w7, .ref w8, .ref w9, .ref w10]))]) FC hKn (c_X0_hasWord l g h1 v0 v1 v2 v3 v4 v5 v6 v7 v8 v9 p1) m_yX0_hasWord b_14 (ci := 0) rfl rfl rfl hP hD hS hA [1] [0] rfl (by decide) rfl (by decide) (by decide) rfl hl.1 rfl (Nat.le_of_ble_eq_true rfl) dX11_word_5 ⟨(Nat.le_of_ble_eq_true rfl), (Nat.le_of_ble_eq_true rfl)⟩ ⟨(Nat.le_of_ble_eq_true rfl), (Nat.le_of_ble_eq_true rfl)⟩ (fun u1 H locs _ hP hD hS => ?_)
  have hP : va_P g.1 vwCl [(h0, .inr (11, [.ref w0, .ref h1, .ref w2, .ref w3, .ref w4, .ref w5, .ref w6, .ref w7, .ref w8, .ref w9, .ref w10])), (h1, .inr (0, [.int 0, .int 0, .int 0, .int 0, .int 0, .int 0, .int 0, .int 0, .int 0, .int 0, .ref v0, .ref v1, .ref v2, .ref v3, .ref v4, .ref v5, .ref v6, .ref v7, .ref v8, .ref v9]))] H := hP
  have hD : va_D A [(h0, .inr (11, [.ref w0, .ref h1, .ref w2, .ref w3, .ref w4, .ref w5, .ref w6, .ref w7, .ref w8, .ref w9, .ref w10])), (h1, .inr (0, [.int 0, .int 0, .int 0, .int 0, .int 0, .int 0, .int 0, .int 0, .int 0, .int 0, .ref v0, .ref v1, .ref v2, .ref v3, .ref v4, .ref v5, .ref v6, .ref v7, .ref v8, .ref v9]))] := hD
  refine W.eq (g2 := F0 m 8 ls [.int 0]) rfl ?_
  refine lv_if_ne (tgt := 14) hx hb dX11_word_8 (by decide) (fun h => absurd h (by decide)) (fun _ => ?_)
  refine lv_bipush (v := -2) hx hb dX11_word_11 (by decide) ?_
  exact rt_i FX () rfl trivial (hP.sub [0, 1] rfl) (hD.sub [0, 1] (by decide) rfl) hS (Nat.le_of_ble_eq_true rfl) (Nat.le_of_ble_eq_true rfl) dX11_word_13
set_option maxRecDepth 100000 in
set_option maxHeartbeats 4000000 in
theorem c_X11_plan (l : Launch) (g : GG) (h0 : Nat) (h1 : Nat) (w0 : Nat) (w2 : Nat) (w3 : Nat) (w4 : Nat) (w5 : Nat) (w6 : Nat) (w7 : Nat) (w8 : Nat) (w9 : Nat) (w10 : Nat) (v0 : Nat) (v1 : Nat) (v2 : Nat) (v3 : Nat) (v4 : Nat) (v5 : Nat) (v6 : Nat) (v7 : Nat) (v8 : Nat) (v9 : Nat) (p1 : Int32) (p2 : Int32) : Ct l g yX11_plan cX11_plan 3 (some .int) { frames := 1, cells := 0, slots := 0, locals := 21 } [.ref h0, .int p1, .int p2] [(h0, .inr (11, [.ref w0, .ref h1, .ref w2, .ref w3, .ref w4, .ref w5, .ref w6, .ref w7, .ref w8, .ref w9, .ref w10])), (h1, .inr (0, [.int 0, .int 0, .int 0, .int 0, .int 0, .int 0, .int 0, .int 0, .int 0, .int 0, .ref v0, .ref v1, .ref v2, .ref v3, .ref v4, .ref v5, .ref v6, .ref v7, .ref v8, .ref v9]))] (S := Unit) (fun _ => some (.int (-2))) (fun _ => True) (fun u => [(h0, .inr (11, [.ref w0, .ref h1, .ref w2, .ref w3, .ref w4, .ref w5, .ref w6, .ref w7, .ref w8, .ref w9, .ref w10])), (h1, .inr (0, [.int 0, .int 0, .int 0, .int 0, .int 0, .int 0, .int 0, .int 0, .int 0, .int 0, .ref v0, .ref v1, .ref v2, .ref v3, .ref v4, .ref v5, .ref v6, .ref v7, .ref v8, .ref v9]))]) := by
  refine Ct.of (by decide) (Nat.le_of_ble_eq_true rfl) ?_
  intro p e s m below meth c A ls FX hP hD hS hl
  obtain ⟨FC, hr, hlk, hKn, hA, hnm⟩ := id FX
  have FC : CallFix p m c cX11_plan 3 s _ BIG RX11 := FC
  obtain ⟨hx, hb, hml, hown, hB⟩ := id FC
  have hl : lv_has ls 3 [(0, .ref h0), (1, .int p1), (2, .int p2)] := hl
  refine lv_aload_n hx hb dX11_plan_0 rfl (lv_at hl 0 rfl) ?_
  refine g_get (C := RX11) (T := TX11) (N := 11) (ci := 11) (v := .ref h1) FC hKn hP i_X11 0 rfl rfl 1 (by decide) b_10 rfl dX11_plan_1 ?_
  refine lv_iload_n hx hb dX11_plan_4 rfl (lv_at hl 1 rfl) ?_
  refine call_VN (As := [.int p1]) (rest := []) (wr := [(h0, .inr (11, [.ref w0, .ref h1, .ref w2, .ref w3, .ref w4, .ref w5, .ref w6, .ref w7, .ref w8, .ref w9, .ref w10]))]) FC hKn (c_X0_hasPlan l g h1 v0 v1 v2 v3 v4 v5 v6 v7 v8 v9 p1) m_yX0_hasPlan b_15 (ci := 0) rfl rfl rfl hP hD hS hA [1] [0] rfl (by decide) rfl (by decide) (by decide) rfl hl.1 rfl (Nat.le_of_ble_eq_true rfl) dX11_plan_5 ⟨(Nat.le_of_ble_eq_true rfl), (Nat.le_of_ble_eq_true rfl)⟩ ⟨(Nat.le_of_ble_eq_true rfl), (Nat.le_of_ble_eq_true rfl)⟩ (fun u1 H locs _ hP hD hS => ?_)
  have hP : va_P g.1 vwCl [(h0, .inr (11, [.ref w0, .ref h1, .ref w2, .ref w3, .ref w4, .ref w5, .ref w6, .ref w7, .ref w8, .ref w9, .ref w10])), (h1, .inr (0, [.int 0, .int 0, .int 0, .int 0, .int 0, .int 0, .int 0, .int 0, .int 0, .int 0, .ref v0, .ref v1, .ref v2, .ref v3, .ref v4, .ref v5, .ref v6, .ref v7, .ref v8, .ref v9]))] H := hP
  have hD : va_D A [(h0, .inr (11, [.ref w0, .ref h1, .ref w2, .ref w3, .ref w4, .ref w5, .ref w6, .ref w7, .ref w8, .ref w9, .ref w10])), (h1, .inr (0, [.int 0, .int 0, .int 0, .int 0, .int 0, .int 0, .int 0, .int 0, .int 0, .int 0, .ref v0, .ref v1, .ref v2, .ref v3, .ref v4, .ref v5, .ref v6, .ref v7, .ref v8, .ref v9]))] := hD
  refine W.eq (g2 := F0 m 8 ls [.int 0]) rfl ?_
  refine lv_if_ne (tgt := 14) hx hb dX11_plan_8 (by decide) (fun h => absurd h (by decide)) (fun _ => ?_)
  refine lv_bipush (v := -2) hx hb dX11_plan_11 (by decide) ?_
  exact rt_i FX () rfl trivial (hP.sub [0, 1] rfl) (hD.sub [0, 1] (by decide) rfl) hS (Nat.le_of_ble_eq_true rfl) (Nat.le_of_ble_eq_true rfl) dX11_plan_13
set_option maxRecDepth 100000 in
set_option maxHeartbeats 4000000 in
theorem c_X11_news (l : Launch) (g : GG) (h0 : Nat) (h1 : Nat) (w0 : Nat) (w2 : Nat) (w3 : Nat) (w4 : Nat) (w5 : Nat) (w6 : Nat) (w7 : Nat) (w8 : Nat) (w9 : Nat) (w10 : Nat) (v0 : Nat) (v1 : Nat) (v2 : Nat) (v3 : Nat) (v4 : Nat) (v5 : Nat) (v6 : Nat) (v7 : Nat) (v8 : Nat) (v9 : Nat) (p1 : Int32) : Ct l g yX11_news cX11_news 2 (some .int) { frames := 1, cells := 0, slots := 0, locals := 21 } [.ref h0, .int p1] [(h0, .inr (11, [.ref w0, .ref h1, .ref w2, .ref w3, .ref w4, .ref w5, .ref w6, .ref w7, .ref w8, .ref w9, .ref w10])), (h1, .inr (0, [.int 0, .int 0, .int 0, .int 0, .int 0, .int 0, .int 0, .int 0, .int 0, .int 0, .ref v0, .ref v1, .ref v2, .ref v3, .ref v4, .ref v5, .ref v6, .ref v7, .ref v8, .ref v9]))] (S := Unit) (fun _ => some (.int (-1000))) (fun _ => True) (fun u => [(h0, .inr (11, [.ref w0, .ref h1, .ref w2, .ref w3, .ref w4, .ref w5, .ref w6, .ref w7, .ref w8, .ref w9, .ref w10])), (h1, .inr (0, [.int 0, .int 0, .int 0, .int 0, .int 0, .int 0, .int 0, .int 0, .int 0, .int 0, .ref v0, .ref v1, .ref v2, .ref v3, .ref v4, .ref v5, .ref v6, .ref v7, .ref v8, .ref v9]))]) := by
  refine Ct.of (by decide) (Nat.le_of_ble_eq_true rfl) ?_
  intro p e s m below meth c A ls FX hP hD hS hl
  obtain ⟨FC, hr, hlk, hKn, hA, hnm⟩ := id FX
  have FC : CallFix p m c cX11_news 2 s _ BIG RX11 := FC
  obtain ⟨hx, hb, hml, hown, hB⟩ := id FC
  have hl : lv_has ls 2 [(0, .ref h0), (1, .int p1)] := hl
  refine lv_aload_n hx hb dX11_news_0 rfl (lv_at hl 0 rfl) ?_
  refine g_get (C := RX11) (T := TX11) (N := 11) (ci := 11) (v := .ref h1) FC hKn hP i_X11 0 rfl rfl 1 (by decide) b_10 rfl dX11_news_1 ?_
  refine lv_iload_n hx hb dX11_news_4 rfl (lv_at hl 1 rfl) ?_
  refine call_VN (As := [.int p1]) (rest := []) (wr := [(h0, .inr (11, [.ref w0, .ref h1, .ref w2, .ref w3, .ref w4, .ref w5, .ref w6, .ref w7, .ref w8, .ref w9, .ref w10]))]) FC hKn (c_X0_hasNews l g h1 v0 v1 v2 v3 v4 v5 v6 v7 v8 v9 p1) m_yX0_hasNews b_16 (ci := 0) rfl rfl rfl hP hD hS hA [1] [0] rfl (by decide) rfl (by decide) (by decide) rfl hl.1 rfl (Nat.le_of_ble_eq_true rfl) dX11_news_5 ⟨(Nat.le_of_ble_eq_true rfl), (Nat.le_of_ble_eq_true rfl)⟩ ⟨(Nat.le_of_ble_eq_true rfl), (Nat.le_of_ble_eq_true rfl)⟩ (fun u1 H locs _ hP hD hS => ?_)
  have hP : va_P g.1 vwCl [(h0, .inr (11, [.ref w0, .ref h1, .ref w2, .ref w3, .ref w4, .ref w5, .ref w6, .ref w7, .ref w8, .ref w9, .ref w10])), (h1, .inr (0, [.int 0, .int 0, .int 0, .int 0, .int 0, .int 0, .int 0, .int 0, .int 0, .int 0, .ref v0, .ref v1, .ref v2, .ref v3, .ref v4, .ref v5, .ref v6, .ref v7, .ref v8, .ref v9]))] H := hP
  have hD : va_D A [(h0, .inr (11, [.ref w0, .ref h1, .ref w2, .ref w3, .ref w4, .ref w5, .ref w6, .ref w7, .ref w8, .ref w9, .ref w10])), (h1, .inr (0, [.int 0, .int 0, .int 0, .int 0, .int 0, .int 0, .int 0, .int 0, .int 0, .int 0, .ref v0, .ref v1, .ref v2, .ref v3, .ref v4, .ref v5, .ref v6, .ref v7, .ref v8, .ref v9]))] := hD
  refine W.eq (g2 := F0 m 8 ls [.int 0]) rfl ?_
  refine lv_if_eq (tgt := 23) hx hb dX11_news_8 (by decide) (fun _ => ?_) (fun h => absurd h (by decide))
  refine lv_sipush (v := -1000) hx hb dX11_news_23 (by decide) ?_
  exact rt_i FX () rfl trivial (hP.sub [0, 1] rfl) (hD.sub [0, 1] (by decide) rfl) hS (Nat.le_of_ble_eq_true rfl) (Nat.le_of_ble_eq_true rfl) dX11_news_26
set_option maxRecDepth 100000 in
set_option maxHeartbeats 4000000 in
theorem c_X11_tells (l : Launch) (g : GG) (h0 : Nat) (h1 : Nat) (w0 : Nat) (w2 : Nat) (w3 : Nat) (w4 : Nat) (w5 : Nat) (w6 : Nat) (w7 : Nat) (w8 : Nat) (w9 : Nat) (w10 : Nat) (v0 : Nat) (v1 : Nat) (v2 : Nat) (v3 : Nat) (v4 : Nat) (v5 : Nat) (v6 : Nat) (v7 : Nat) (v8 : Nat) (v9 : Nat) (p1 : Int32) : Ct l g yX11_tells cX11_tells 2 (some .int) { frames := 1, cells := 0, slots := 0, locals := 21 } [.ref h0, .int p1] [(h0, .inr (11, [.ref w0, .ref h1, .ref w2, .ref w3, .ref w4, .ref w5, .ref w6, .ref w7, .ref w8, .ref w9, .ref w10])), (h1, .inr (0, [.int 0, .int 0, .int 0, .int 0, .int 0, .int 0, .int 0, .int 0, .int 0, .int 0, .ref v0, .ref v1, .ref v2, .ref v3, .ref v4, .ref v5, .ref v6, .ref v7, .ref v8, .ref v9]))] (S := Unit) (fun _ => some (.int (-2))) (fun _ => True) (fun u => [(h0, .inr (11, [.ref w0, .ref h1, .ref w2, .ref w3, .ref w4, .ref w5, .ref w6, .ref w7, .ref w8, .ref w9, .ref w10])), (h1, .inr (0, [.int 0, .int 0, .int 0, .int 0, .int 0, .int 0, .int 0, .int 0, .int 0, .int 0, .ref v0, .ref v1, .ref v2, .ref v3, .ref v4, .ref v5, .ref v6, .ref v7, .ref v8, .ref v9]))]) := by
  refine Ct.of (by decide) (Nat.le_of_ble_eq_true rfl) ?_
  intro p e s m below meth c A ls FX hP hD hS hl
  obtain ⟨FC, hr, hlk, hKn, hA, hnm⟩ := id FX
  have FC : CallFix p m c cX11_tells 2 s _ BIG RX11 := FC
  obtain ⟨hx, hb, hml, hown, hB⟩ := id FC
  have hl : lv_has ls 2 [(0, .ref h0), (1, .int p1)] := hl
  refine lv_aload_n hx hb dX11_tells_0 rfl (lv_at hl 0 rfl) ?_
  refine g_get (C := RX11) (T := TX11) (N := 11) (ci := 11) (v := .ref h1) FC hKn hP i_X11 0 rfl rfl 1 (by decide) b_10 rfl dX11_tells_1 ?_
  refine lv_iload_n hx hb dX11_tells_4 rfl (lv_at hl 1 rfl) ?_
  refine call_VN (As := [.int p1]) (rest := []) (wr := [(h0, .inr (11, [.ref w0, .ref h1, .ref w2, .ref w3, .ref w4, .ref w5, .ref w6, .ref w7, .ref w8, .ref w9, .ref w10]))]) FC hKn (c_X0_hasHearer l g h1 v0 v1 v2 v3 v4 v5 v6 v7 v8 v9 p1) m_yX0_hasHearer b_12 (ci := 0) rfl rfl rfl hP hD hS hA [1] [0] rfl (by decide) rfl (by decide) (by decide) rfl hl.1 rfl (Nat.le_of_ble_eq_true rfl) dX11_tells_5 ⟨(Nat.le_of_ble_eq_true rfl), (Nat.le_of_ble_eq_true rfl)⟩ ⟨(Nat.le_of_ble_eq_true rfl), (Nat.le_of_ble_eq_true rfl)⟩ (fun u1 H locs _ hP hD hS => ?_)
  have hP : va_P g.1 vwCl [(h0, .inr (11, [.ref w0, .ref h1, .ref w2, .ref w3, .ref w4, .ref w5, .ref w6, .ref w7, .ref w8, .ref w9, .ref w10])), (h1, .inr (0, [.int 0, .int 0, .int 0, .int 0, .int 0, .int 0, .int 0, .int 0, .int 0, .int 0, .ref v0, .ref v1, .ref v2, .ref v3, .ref v4, .ref v5, .ref v6, .ref v7, .ref v8, .ref v9]))] H := hP
  have hD : va_D A [(h0, .inr (11, [.ref w0, .ref h1, .ref w2, .ref w3, .ref w4, .ref w5, .ref w6, .ref w7, .ref w8, .ref w9, .ref w10])), (h1, .inr (0, [.int 0, .int 0, .int 0, .int 0, .int 0, .int 0, .int 0, .int 0, .int 0, .int 0, .ref v0, .ref v1, .ref v2, .ref v3, .ref v4, .ref v5, .ref v6, .ref v7, .ref v8, .ref v9]))] := hD
  refine W.eq (g2 := F0 m 8 ls [.int 0]) rfl ?_
  refine lv_if_eq (tgt := 23) hx hb dX11_tells_8 (by decide) (fun _ => ?_) (fun h => absurd h (by decide))
  refine lv_bipush (v := -2) hx hb dX11_tells_23 (by decide) ?_
  exact rt_i FX () rfl trivial (hP.sub [0, 1] rfl) (hD.sub [0, 1] (by decide) rfl) hS (Nat.le_of_ble_eq_true rfl) (Nat.le_of_ble_eq_true rfl) dX11_tells_25
set_option maxRecDepth 100000 in
set_option maxHeartbeats 4000000 in
theorem c_X11_mean (l : Launch) (g : GG) (h0 : Nat) (h1 : Nat) (w0 : Nat) (w2 : Nat) (w3 : Nat) (w4 : Nat) (w5 : Nat) (w6 : Nat) (w7 : Nat) (w8 : Nat) (w9 : Nat) (w10 : Nat) (v0 : Nat) (v1 : Nat) (v2 : Nat) (v3 : Nat) (v4 : Nat) (v5 : Nat) (v6 : Nat) (v7 : Nat) (v8 : Nat) (v9 : Nat) (p1 : Int32) (p2 : Int32) : Ct l g yX11_mean cX11_mean 3 (some .int) { frames := 1, cells := 0, slots := 0, locals := 21 } [.ref h0, .int p1, .int p2] [(h0, .inr (11, [.ref w0, .ref h1, .ref w2, .ref w3, .ref w4, .ref w5, .ref w6, .ref w7, .ref w8, .ref w9, .ref w10])), (h1, .inr (0, [.int 0, .int 0, .int 0, .int 0, .int 0, .int 0, .int 0, .int 0, .int 0, .int 0, .ref v0, .ref v1, .ref v2, .ref v3, .ref v4, .ref v5, .ref v6, .ref v7, .ref v8, .ref v9]))] (S := Unit) (fun _ => some (.int (-2))) (fun _ => True) (fun u => [(h0, .inr (11, [.ref w0, .ref h1, .ref w2, .ref w3, .ref w4, .ref w5, .ref w6, .ref w7, .ref w8, .ref w9, .ref w10])), (h1, .inr (0, [.int 0, .int 0, .int 0, .int 0, .int 0, .int 0, .int 0, .int 0, .int 0, .int 0, .ref v0, .ref v1, .ref v2, .ref v3, .ref v4, .ref v5, .ref v6, .ref v7, .ref v8, .ref v9]))]) := by
  refine Ct.of (by decide) (Nat.le_of_ble_eq_true rfl) ?_
  intro p e s m below meth c A ls FX hP hD hS hl
  obtain ⟨FC, hr, hlk, hKn, hA, hnm⟩ := id FX
  have FC : CallFix p m c cX11_mean 3 s _ BIG RX11 := FC
  obtain ⟨hx, hb, hml, hown, hB⟩ := id FC
  have hl : lv_has ls 3 [(0, .ref h0), (1, .int p1), (2, .int p2)] := hl
  refine lv_aload_n hx hb dX11_mean_0 rfl (lv_at hl 0 rfl) ?_
  refine g_get (C := RX11) (T := TX11) (N := 11) (ci := 11) (v := .ref h1) FC hKn hP i_X11 0 rfl rfl 1 (by decide) b_10 rfl dX11_mean_1 ?_
  refine lv_iload_n hx hb dX11_mean_4 rfl (lv_at hl 1 rfl) ?_
  refine call_VN (As := [.int p1]) (rest := []) (wr := [(h0, .inr (11, [.ref w0, .ref h1, .ref w2, .ref w3, .ref w4, .ref w5, .ref w6, .ref w7, .ref w8, .ref w9, .ref w10]))]) FC hKn (c_X0_hasHearer l g h1 v0 v1 v2 v3 v4 v5 v6 v7 v8 v9 p1) m_yX0_hasHearer b_12 (ci := 0) rfl rfl rfl hP hD hS hA [1] [0] rfl (by decide) rfl (by decide) (by decide) rfl hl.1 rfl (Nat.le_of_ble_eq_true rfl) dX11_mean_5 ⟨(Nat.le_of_ble_eq_true rfl), (Nat.le_of_ble_eq_true rfl)⟩ ⟨(Nat.le_of_ble_eq_true rfl), (Nat.le_of_ble_eq_true rfl)⟩ (fun u1 H locs _ hP hD hS => ?_)
  have hP : va_P g.1 vwCl [(h0, .inr (11, [.ref w0, .ref h1, .ref w2, .ref w3, .ref w4, .ref w5, .ref w6, .ref w7, .ref w8, .ref w9, .ref w10])), (h1, .inr (0, [.int 0, .int 0, .int 0, .int 0, .int 0, .int 0, .int 0, .int 0, .int 0, .int 0, .ref v0, .ref v1, .ref v2, .ref v3, .ref v4, .ref v5, .ref v6, .ref v7, .ref v8, .ref v9]))] H := hP
  have hD : va_D A [(h0, .inr (11, [.ref w0, .ref h1, .ref w2, .ref w3, .ref w4, .ref w5, .ref w6, .ref w7, .ref w8, .ref w9, .ref w10])), (h1, .inr (0, [.int 0, .int 0, .int 0, .int 0, .int 0, .int 0, .int 0, .int 0, .int 0, .int 0, .ref v0, .ref v1, .ref v2, .ref v3, .ref v4, .ref v5, .ref v6, .ref v7, .ref v8, .ref v9]))] := hD
  refine W.eq (g2 := F0 m 8 ls [.int 0]) rfl ?_
  refine lv_if_eq (tgt := 22) hx hb dX11_mean_8 (by decide) (fun _ => ?_) (fun h => absurd h (by decide))
  refine lv_bipush (v := -2) hx hb dX11_mean_22 (by decide) ?_
  exact rt_i FX () rfl trivial (hP.sub [0, 1] rfl) (hD.sub [0, 1] (by decide) rfl) hS (Nat.le_of_ble_eq_true rfl) (Nat.le_of_ble_eq_true rfl) dX11_mean_24
set_option maxRecDepth 100000 in
set_option maxHeartbeats 4000000 in
theorem c_X11_chance (l : Launch) (g : GG) (h0 : Nat) (h1 : Nat) (w0 : Nat) (w2 : Nat) (w3 : Nat) (w4 : Nat) (w5 : Nat) (w6 : Nat) (w7 : Nat) (w8 : Nat) (w9 : Nat) (w10 : Nat) (v0 : Nat) (v1 : Nat) (v2 : Nat) (v3 : Nat) (v4 : Nat) (v5 : Nat) (v6 : Nat) (v7 : Nat) (v8 : Nat) (v9 : Nat) (p1 : Int32) (p2 : Int32) (p3 : Int32) (p4 : Int32) : Ct l g yX11_chance cX11_chance 5 (some .int) { frames := 1, cells := 0, slots := 0, locals := 21 } [.ref h0, .int p1, .int p2, .int p3, .int p4] [(h0, .inr (11, [.ref w0, .ref h1, .ref w2, .ref w3, .ref w4, .ref w5, .ref w6, .ref w7, .ref w8, .ref w9, .ref w10])), (h1, .inr (0, [.int 0, .int 0, .int 0, .int 0, .int 0, .int 0, .int 0, .int 0, .int 0, .int 0, .ref v0, .ref v1, .ref v2, .ref v3, .ref v4, .ref v5, .ref v6, .ref v7, .ref v8, .ref v9]))] (S := Unit) (fun _ => some (.int (-2))) (fun _ => True) (fun u => [(h0, .inr (11, [.ref w0, .ref h1, .ref w2, .ref w3, .ref w4, .ref w5, .ref w6, .ref w7, .ref w8, .ref w9, .ref w10])), (h1, .inr (0, [.int 0, .int 0, .int 0, .int 0, .int 0, .int 0, .int 0, .int 0, .int 0, .int 0, .ref v0, .ref v1, .ref v2, .ref v3, .ref v4, .ref v5, .ref v6, .ref v7, .ref v8, .ref v9]))]) := by
  refine Ct.of (by decide) (Nat.le_of_ble_eq_true rfl) ?_
  intro p e s m below meth c A ls FX hP hD hS hl
  obtain ⟨FC, hr, hlk, hKn, hA, hnm⟩ := id FX
  have FC : CallFix p m c cX11_chance 5 s _ BIG RX11 := FC
  obtain ⟨hx, hb, hml, hown, hB⟩ := id FC
  have hl : lv_has ls 5 [(0, .ref h0), (1, .int p1), (2, .int p2), (3, .int p3), (4, .int p4)] := hl
  refine lv_aload_n hx hb dX11_chance_0 rfl (lv_at hl 0 rfl) ?_
  refine g_get (C := RX11) (T := TX11) (N := 11) (ci := 11) (v := .ref h1) FC hKn hP i_X11 0 rfl rfl 1 (by decide) b_10 rfl dX11_chance_1 ?_
  refine lv_iload_n hx hb dX11_chance_4 rfl (lv_at hl 1 rfl) ?_
  refine call_VN (As := [.int p1]) (rest := []) (wr := [(h0, .inr (11, [.ref w0, .ref h1, .ref w2, .ref w3, .ref w4, .ref w5, .ref w6, .ref w7, .ref w8, .ref w9, .ref w10]))]) FC hKn (c_X0_hasHearer l g h1 v0 v1 v2 v3 v4 v5 v6 v7 v8 v9 p1) m_yX0_hasHearer b_12 (ci := 0) rfl rfl rfl hP hD hS hA [1] [0] rfl (by decide) rfl (by decide) (by decide) rfl hl.1 rfl (Nat.le_of_ble_eq_true rfl) dX11_chance_5 ⟨(Nat.le_of_ble_eq_true rfl), (Nat.le_of_ble_eq_true rfl)⟩ ⟨(Nat.le_of_ble_eq_true rfl), (Nat.le_of_ble_eq_true rfl)⟩ (fun u1 H locs _ hP hD hS => ?_)
  have hP : va_P g.1 vwCl [(h0, .inr (11, [.ref w0, .ref h1, .ref w2, .ref w3, .ref w4, .ref w5, .ref w6, .ref w7, .ref w8, .ref w9, .ref w10])), (h1, .inr (0, [.int 0, .int 0, .int 0, .int 0, .int 0, .int 0, .int 0, .int 0, .int 0, .int 0, .ref v0, .ref v1, .ref v2, .ref v3, .ref v4, .ref v5, .ref v6, .ref v7, .ref v8, .ref v9]))] H := hP
  have hD : va_D A [(h0, .inr (11, [.ref w0, .ref h1, .ref w2, .ref w3, .ref w4, .ref w5, .ref w6, .ref w7, .ref w8, .ref w9, .ref w10])), (h1, .inr (0, [.int 0, .int 0, .int 0, .int 0, .int 0, .int 0, .int 0, .int 0, .int 0, .int 0, .ref v0, .ref v1, .ref v2, .ref v3, .ref v4, .ref v5, .ref v6, .ref v7, .ref v8, .ref v9]))] := hD
  refine W.eq (g2 := F0 m 8 ls [.int 0]) rfl ?_
  refine lv_if_eq (tgt := 22) hx hb dX11_chance_8 (by decide) (fun _ => ?_) (fun h => absurd h (by decide))
  refine lv_bipush (v := -2) hx hb dX11_chance_22 (by decide) ?_
  exact rt_i FX () rfl trivial (hP.sub [0, 1] rfl) (hD.sub [0, 1] (by decide) rfl) hS (Nat.le_of_ble_eq_true rfl) (Nat.le_of_ble_eq_true rfl) dX11_chance_24
set_option maxRecDepth 100000 in
set_option maxHeartbeats 4000000 in
theorem c_X11_behind (l : Launch) (g : GG) (h0 : Nat) (h1 : Nat) (w0 : Nat) (w2 : Nat) (w3 : Nat) (w4 : Nat) (w5 : Nat) (w6 : Nat) (w7 : Nat) (w8 : Nat) (w9 : Nat) (w10 : Nat) (v0 : Nat) (v1 : Nat) (v2 : Nat) (v3 : Nat) (v4 : Nat) (v5 : Nat) (v6 : Nat) (v7 : Nat) (v8 : Nat) (v9 : Nat) (p1 : Int32) (p2 : Int32) : Ct l g yX11_behind cX11_behind 3 (some .int) { frames := 2, cells := 0, slots := 0, locals := 41 } [.ref h0, .int p1, .int p2] [(h0, .inr (11, [.ref w0, .ref h1, .ref w2, .ref w3, .ref w4, .ref w5, .ref w6, .ref w7, .ref w8, .ref w9, .ref w10])), (h1, .inr (0, [.int 0, .int 0, .int 0, .int 0, .int 0, .int 0, .int 0, .int 0, .int 0, .int 0, .ref v0, .ref v1, .ref v2, .ref v3, .ref v4, .ref v5, .ref v6, .ref v7, .ref v8, .ref v9]))] (S := Unit) (fun _ => some (.int (-2))) (fun _ => True) (fun u => [(h0, .inr (11, [.ref w0, .ref h1, .ref w2, .ref w3, .ref w4, .ref w5, .ref w6, .ref w7, .ref w8, .ref w9, .ref w10])), (h1, .inr (0, [.int 0, .int 0, .int 0, .int 0, .int 0, .int 0, .int 0, .int 0, .int 0, .int 0, .ref v0, .ref v1, .ref v2, .ref v3, .ref v4, .ref v5, .ref v6, .ref v7, .ref v8, .ref v9]))]) := by
  refine Ct.of (by decide) (Nat.le_of_ble_eq_true rfl) ?_
  intro p e s m below meth c A ls FX hP hD hS hl
  obtain ⟨FC, hr, hlk, hKn, hA, hnm⟩ := id FX
  have FC : CallFix p m c cX11_behind 3 s _ BIG RX11 := FC
  obtain ⟨hx, hb, hml, hown, hB⟩ := id FC
  have hl : lv_has ls 3 [(0, .ref h0), (1, .int p1), (2, .int p2)] := hl
  refine lv_aload_n hx hb dX11_behind_0 rfl (lv_at hl 0 rfl) ?_
  refine g_get (C := RX11) (T := TX11) (N := 11) (ci := 11) (v := .ref h1) FC hKn hP i_X11 0 rfl rfl 1 (by decide) b_10 rfl dX11_behind_1 ?_
  refine lv_iload_n hx hb dX11_behind_4 rfl (lv_at hl 1 rfl) ?_
  refine call_VN (As := [.int p1]) (rest := []) (wr := [(h0, .inr (11, [.ref w0, .ref h1, .ref w2, .ref w3, .ref w4, .ref w5, .ref w6, .ref w7, .ref w8, .ref w9, .ref w10]))]) FC hKn (c_X0_hasBelief l g h1 v0 v1 v2 v3 v4 v5 v6 v7 v8 v9 p1) m_yX0_hasBelief b_17 (ci := 0) rfl rfl rfl hP hD hS hA [1] [0] rfl (by decide) rfl (by decide) (by decide) rfl hl.1 rfl (Nat.le_of_ble_eq_true rfl) dX11_behind_5 ⟨(Nat.le_of_ble_eq_true rfl), (Nat.le_of_ble_eq_true rfl)⟩ ⟨(Nat.le_of_ble_eq_true rfl), (Nat.le_of_ble_eq_true rfl)⟩ (fun u1 H locs _ hP hD hS => ?_)
  have hP : va_P g.1 vwCl [(h0, .inr (11, [.ref w0, .ref h1, .ref w2, .ref w3, .ref w4, .ref w5, .ref w6, .ref w7, .ref w8, .ref w9, .ref w10])), (h1, .inr (0, [.int 0, .int 0, .int 0, .int 0, .int 0, .int 0, .int 0, .int 0, .int 0, .int 0, .ref v0, .ref v1, .ref v2, .ref v3, .ref v4, .ref v5, .ref v6, .ref v7, .ref v8, .ref v9]))] H := hP
  have hD : va_D A [(h0, .inr (11, [.ref w0, .ref h1, .ref w2, .ref w3, .ref w4, .ref w5, .ref w6, .ref w7, .ref w8, .ref w9, .ref w10])), (h1, .inr (0, [.int 0, .int 0, .int 0, .int 0, .int 0, .int 0, .int 0, .int 0, .int 0, .int 0, .ref v0, .ref v1, .ref v2, .ref v3, .ref v4, .ref v5, .ref v6, .ref v7, .ref v8, .ref v9]))] := hD
  refine W.eq (g2 := F0 m 8 ls [.int 0]) rfl ?_
  refine lv_if_eq (tgt := 22) hx hb dX11_behind_8 (by decide) (fun _ => ?_) (fun h => absurd h (by decide))
  refine lv_bipush (v := -2) hx hb dX11_behind_22 (by decide) ?_
  exact rt_i FX () rfl trivial (hP.sub [0, 1] rfl) (hD.sub [0, 1] (by decide) rfl) hS (Nat.le_of_ble_eq_true rfl) (Nat.le_of_ble_eq_true rfl) dX11_behind_24
set_option maxRecDepth 100000 in
set_option maxHeartbeats 4000000 in
theorem c_X11_hurt (l : Launch) (g : GG) (h0 : Nat) (h1 : Nat) (w0 : Nat) (w2 : Nat) (w3 : Nat) (w4 : Nat) (w5 : Nat) (w6 : Nat) (w7 : Nat) (w8 : Nat) (w9 : Nat) (w10 : Nat) (v0 : Nat) (v1 : Nat) (v2 : Nat) (v3 : Nat) (v4 : Nat) (v5 : Nat) (v6 : Nat) (v7 : Nat) (v8 : Nat) (v9 : Nat) (p1 : Int32) (p2 : Int32) (p3 : Int32) : Ct l g yX11_hurt cX11_hurt 4 (some .int) { frames := 1, cells := 0, slots := 0, locals := 21 } [.ref h0, .int p1, .int p2, .int p3] [(h0, .inr (11, [.ref w0, .ref h1, .ref w2, .ref w3, .ref w4, .ref w5, .ref w6, .ref w7, .ref w8, .ref w9, .ref w10])), (h1, .inr (0, [.int 0, .int 0, .int 0, .int 0, .int 0, .int 0, .int 0, .int 0, .int 0, .int 0, .ref v0, .ref v1, .ref v2, .ref v3, .ref v4, .ref v5, .ref v6, .ref v7, .ref v8, .ref v9]))] (S := Unit) (fun _ => some (.int (-2))) (fun _ => True) (fun u => [(h0, .inr (11, [.ref w0, .ref h1, .ref w2, .ref w3, .ref w4, .ref w5, .ref w6, .ref w7, .ref w8, .ref w9, .ref w10])), (h1, .inr (0, [.int 0, .int 0, .int 0, .int 0, .int 0, .int 0, .int 0, .int 0, .int 0, .int 0, .ref v0, .ref v1, .ref v2, .ref v3, .ref v4, .ref v5, .ref v6, .ref v7, .ref v8, .ref v9]))]) := by
  refine Ct.of (by decide) (Nat.le_of_ble_eq_true rfl) ?_
  intro p e s m below meth c A ls FX hP hD hS hl
  obtain ⟨FC, hr, hlk, hKn, hA, hnm⟩ := id FX
  have FC : CallFix p m c cX11_hurt 4 s _ BIG RX11 := FC
  obtain ⟨hx, hb, hml, hown, hB⟩ := id FC
  have hl : lv_has ls 4 [(0, .ref h0), (1, .int p1), (2, .int p2), (3, .int p3)] := hl
  refine lv_aload_n hx hb dX11_hurt_0 rfl (lv_at hl 0 rfl) ?_
  refine g_get (C := RX11) (T := TX11) (N := 11) (ci := 11) (v := .ref h1) FC hKn hP i_X11 0 rfl rfl 1 (by decide) b_10 rfl dX11_hurt_1 ?_
  refine lv_iload_n hx hb dX11_hurt_4 rfl (lv_at hl 1 rfl) ?_
  refine call_VN (As := [.int p1]) (rest := []) (wr := [(h0, .inr (11, [.ref w0, .ref h1, .ref w2, .ref w3, .ref w4, .ref w5, .ref w6, .ref w7, .ref w8, .ref w9, .ref w10]))]) FC hKn (c_X0_hasHearer l g h1 v0 v1 v2 v3 v4 v5 v6 v7 v8 v9 p1) m_yX0_hasHearer b_12 (ci := 0) rfl rfl rfl hP hD hS hA [1] [0] rfl (by decide) rfl (by decide) (by decide) rfl hl.1 rfl (Nat.le_of_ble_eq_true rfl) dX11_hurt_5 ⟨(Nat.le_of_ble_eq_true rfl), (Nat.le_of_ble_eq_true rfl)⟩ ⟨(Nat.le_of_ble_eq_true rfl), (Nat.le_of_ble_eq_true rfl)⟩ (fun u1 H locs _ hP hD hS => ?_)
  have hP : va_P g.1 vwCl [(h0, .inr (11, [.ref w0, .ref h1, .ref w2, .ref w3, .ref w4, .ref w5, .ref w6, .ref w7, .ref w8, .ref w9, .ref w10])), (h1, .inr (0, [.int 0, .int 0, .int 0, .int 0, .int 0, .int 0, .int 0, .int 0, .int 0, .int 0, .ref v0, .ref v1, .ref v2, .ref v3, .ref v4, .ref v5, .ref v6, .ref v7, .ref v8, .ref v9]))] H := hP
  have hD : va_D A [(h0, .inr (11, [.ref w0, .ref h1, .ref w2, .ref w3, .ref w4, .ref w5, .ref w6, .ref w7, .ref w8, .ref w9, .ref w10])), (h1, .inr (0, [.int 0, .int 0, .int 0, .int 0, .int 0, .int 0, .int 0, .int 0, .int 0, .int 0, .ref v0, .ref v1, .ref v2, .ref v3, .ref v4, .ref v5, .ref v6, .ref v7, .ref v8, .ref v9]))] := hD
  refine W.eq (g2 := F0 m 8 ls [.int 0]) rfl ?_
  refine lv_if_eq (tgt := 33) hx hb dX11_hurt_8 (by decide) (fun _ => ?_) (fun h => absurd h (by decide))
  refine lv_bipush (v := -2) hx hb dX11_hurt_33 (by decide) ?_
  exact rt_i FX () rfl trivial (hP.sub [0, 1] rfl) (hD.sub [0, 1] (by decide) rfl) hS (Nat.le_of_ble_eq_true rfl) (Nat.le_of_ble_eq_true rfl) dX11_hurt_35
set_option maxRecDepth 100000 in
set_option maxHeartbeats 4000000 in
theorem c_X11_softest (l : Launch) (g : GG) (h0 : Nat) (h1 : Nat) (w0 : Nat) (w2 : Nat) (w3 : Nat) (w4 : Nat) (w5 : Nat) (w6 : Nat) (w7 : Nat) (w8 : Nat) (w9 : Nat) (w10 : Nat) (v0 : Nat) (v1 : Nat) (v2 : Nat) (v3 : Nat) (v4 : Nat) (v5 : Nat) (v6 : Nat) (v7 : Nat) (v8 : Nat) (v9 : Nat) (p1 : Int32) (p2 : Int32) : Ct l g yX11_softest cX11_softest 7 (some .int) { frames := 1, cells := 0, slots := 0, locals := 21 } [.ref h0, .int p1, .int p2] [(h0, .inr (11, [.ref w0, .ref h1, .ref w2, .ref w3, .ref w4, .ref w5, .ref w6, .ref w7, .ref w8, .ref w9, .ref w10])), (h1, .inr (0, [.int 0, .int 0, .int 0, .int 0, .int 0, .int 0, .int 0, .int 0, .int 0, .int 0, .ref v0, .ref v1, .ref v2, .ref v3, .ref v4, .ref v5, .ref v6, .ref v7, .ref v8, .ref v9]))] (S := Unit) (fun _ => some (.int (-2))) (fun _ => True) (fun u => [(h0, .inr (11, [.ref w0, .ref h1, .ref w2, .ref w3, .ref w4, .ref w5, .ref w6, .ref w7, .ref w8, .ref w9, .ref w10])), (h1, .inr (0, [.int 0, .int 0, .int 0, .int 0, .int 0, .int 0, .int 0, .int 0, .int 0, .int 0, .ref v0, .ref v1, .ref v2, .ref v3, .ref v4, .ref v5, .ref v6, .ref v7, .ref v8, .ref v9]))]) := by
  refine Ct.of (by decide) (Nat.le_of_ble_eq_true rfl) ?_
  intro p e s m below meth c A ls FX hP hD hS hl
  obtain ⟨FC, hr, hlk, hKn, hA, hnm⟩ := id FX
  have FC : CallFix p m c cX11_softest 7 s _ BIG RX11 := FC
  obtain ⟨hx, hb, hml, hown, hB⟩ := id FC
  have hl : lv_has ls 7 [(0, .ref h0), (1, .int p1), (2, .int p2)] := hl
  refine lv_aload_n hx hb dX11_softest_0 rfl (lv_at hl 0 rfl) ?_
  refine g_get (C := RX11) (T := TX11) (N := 11) (ci := 11) (v := .ref h1) FC hKn hP i_X11 0 rfl rfl 1 (by decide) b_10 rfl dX11_softest_1 ?_
  refine lv_iload_n hx hb dX11_softest_4 rfl (lv_at hl 1 rfl) ?_
  refine call_VN (As := [.int p1]) (rest := []) (wr := [(h0, .inr (11, [.ref w0, .ref h1, .ref w2, .ref w3, .ref w4, .ref w5, .ref w6, .ref w7, .ref w8, .ref w9, .ref w10]))]) FC hKn (c_X0_hasHearer l g h1 v0 v1 v2 v3 v4 v5 v6 v7 v8 v9 p1) m_yX0_hasHearer b_12 (ci := 0) rfl rfl rfl hP hD hS hA [1] [0] rfl (by decide) rfl (by decide) (by decide) rfl hl.1 rfl (Nat.le_of_ble_eq_true rfl) dX11_softest_5 ⟨(Nat.le_of_ble_eq_true rfl), (Nat.le_of_ble_eq_true rfl)⟩ ⟨(Nat.le_of_ble_eq_true rfl), (Nat.le_of_ble_eq_true rfl)⟩ (fun u1 H locs _ hP hD hS => ?_)
  have hP : va_P g.1 vwCl [(h0, .inr (11, [.ref w0, .ref h1, .ref w2, .ref w3, .ref w4, .ref w5, .ref w6, .ref w7, .ref w8, .ref w9, .ref w10])), (h1, .inr (0, [.int 0, .int 0, .int 0, .int 0, .int 0, .int 0, .int 0, .int 0, .int 0, .int 0, .ref v0, .ref v1, .ref v2, .ref v3, .ref v4, .ref v5, .ref v6, .ref v7, .ref v8, .ref v9]))] H := hP
  have hD : va_D A [(h0, .inr (11, [.ref w0, .ref h1, .ref w2, .ref w3, .ref w4, .ref w5, .ref w6, .ref w7, .ref w8, .ref w9, .ref w10])), (h1, .inr (0, [.int 0, .int 0, .int 0, .int 0, .int 0, .int 0, .int 0, .int 0, .int 0, .int 0, .ref v0, .ref v1, .ref v2, .ref v3, .ref v4, .ref v5, .ref v6, .ref v7, .ref v8, .ref v9]))] := hD
  refine W.eq (g2 := F0 m 8 ls [.int 0]) rfl ?_
  refine lv_if_eq (tgt := 22) hx hb dX11_softest_8 (by decide) (fun _ => ?_) (fun h => absurd h (by decide))
  refine lv_bipush (v := -2) hx hb dX11_softest_22 (by decide) ?_
  exact rt_i FX () rfl trivial (hP.sub [0, 1] rfl) (hD.sub [0, 1] (by decide) rfl) hS (Nat.le_of_ble_eq_true rfl) (Nat.le_of_ble_eq_true rfl) dX11_softest_24
set_option maxRecDepth 100000 in
set_option maxHeartbeats 4000000 in
theorem c_X11_believes (l : Launch) (g : GG) (h0 : Nat) (h1 : Nat) (w0 : Nat) (w2 : Nat) (w3 : Nat) (w4 : Nat) (w5 : Nat) (w6 : Nat) (w7 : Nat) (w8 : Nat) (w9 : Nat) (w10 : Nat) (v0 : Nat) (v1 : Nat) (v2 : Nat) (v3 : Nat) (v4 : Nat) (v5 : Nat) (v6 : Nat) (v7 : Nat) (v8 : Nat) (v9 : Nat) (p1 : Int32) : Ct l g yX11_believes cX11_believes 3 (some .int) { frames := 2, cells := 0, slots := 0, locals := 42 } [.ref h0, .int p1] [(h0, .inr (11, [.ref w0, .ref h1, .ref w2, .ref w3, .ref w4, .ref w5, .ref w6, .ref w7, .ref w8, .ref w9, .ref w10])), (h1, .inr (0, [.int 0, .int 0, .int 0, .int 0, .int 0, .int 0, .int 0, .int 0, .int 0, .int 0, .ref v0, .ref v1, .ref v2, .ref v3, .ref v4, .ref v5, .ref v6, .ref v7, .ref v8, .ref v9]))] (S := Unit) (fun _ => some (.int (-2))) (fun _ => True) (fun u => [(h0, .inr (11, [.ref w0, .ref h1, .ref w2, .ref w3, .ref w4, .ref w5, .ref w6, .ref w7, .ref w8, .ref w9, .ref w10])), (h1, .inr (0, [.int 0, .int 0, .int 0, .int 0, .int 0, .int 0, .int 0, .int 0, .int 0, .int 0, .ref v0, .ref v1, .ref v2, .ref v3, .ref v4, .ref v5, .ref v6, .ref v7, .ref v8, .ref v9]))]) := by
  refine Ct.of (by decide) (Nat.le_of_ble_eq_true rfl) ?_
  intro p e s m below meth c A ls FX hP hD hS hl
  obtain ⟨FC, hr, hlk, hKn, hA, hnm⟩ := id FX
  have FC : CallFix p m c cX11_believes 3 s _ BIG RX11 := FC
  obtain ⟨hx, hb, hml, hown, hB⟩ := id FC
  have hl : lv_has ls 3 [(0, .ref h0), (1, .int p1)] := hl
  refine lv_aload_n hx hb dX11_believes_0 rfl (lv_at hl 0 rfl) ?_
  refine lv_iload_n hx hb dX11_believes_1 rfl (lv_at hl 1 rfl) ?_
  refine call_V (As := [.int p1]) (rest := []) (wr := []) FC hKn (c_X11_takeWeek l g h0 h1 w0 w2 w3 w4 w5 w6 w7 w8 w9 w10 v0 v1 v2 v3 v4 v5 v6 v7 v8 v9 p1) m_yX11_takeWeek b_18 (ci := 11) rfl rfl rfl hP hD hS hA [0, 1] [] rfl (by decide) rfl (by decide) (by decide) rfl hl.1 rfl (Nat.le_of_ble_eq_true rfl) dX11_believes_2 ⟨(Nat.le_of_ble_eq_true rfl), (Nat.le_of_ble_eq_true rfl)⟩ ⟨(Nat.le_of_ble_eq_true rfl), (Nat.le_of_ble_eq_true rfl)⟩ (fun u1 H locs _ hP hD hS => ?_)
  have hP : va_P g.1 vwCl [(h0, .inr (11, [.ref w0, .ref h1, .ref w2, .ref w3, .ref w4, .ref w5, .ref w6, .ref w7, .ref w8, .ref w9, .ref w10])), (h1, .inr (0, [.int 0, .int 0, .int 0, .int 0, .int 0, .int 0, .int 0, .int 0, .int 0, .int 0, .ref v0, .ref v1, .ref v2, .ref v3, .ref v4, .ref v5, .ref v6, .ref v7, .ref v8, .ref v9]))] H := hP
  have hD : va_D A [(h0, .inr (11, [.ref w0, .ref h1, .ref w2, .ref w3, .ref w4, .ref w5, .ref w6, .ref w7, .ref w8, .ref w9, .ref w10])), (h1, .inr (0, [.int 0, .int 0, .int 0, .int 0, .int 0, .int 0, .int 0, .int 0, .int 0, .int 0, .ref v0, .ref v1, .ref v2, .ref v3, .ref v4, .ref v5, .ref v6, .ref v7, .ref v8, .ref v9]))] := hD
  refine W.eq (g2 := F0 m 5 ls [.int (-2)]) rfl ?_
  refine lv_istore_n (lv' := [(2, .int (-2)), (0, .ref h0), (1, .int p1)]) hx hb dX11_believes_5 rfl hl (by decide) rfl (fun ls hl => ?_)
  refine lv_iload_n hx hb dX11_believes_6 rfl (lv_at hl 0 rfl) ?_
  refine lv_if_ge (tgt := 14) hx hb dX11_believes_7 (by decide) (fun h => absurd h (by decide)) (fun _ => ?_)
  refine lv_iload_n hx hb dX11_believes_10 rfl (lv_at hl 0 rfl) ?_
  refine lv_goto (tgt := 25) hx hb dX11_believes_11 (by decide) ?_
  exact rt_i FX () rfl trivial (hP.sub [0, 1] rfl) (hD.sub [0, 1] (by decide) rfl) hS (Nat.le_of_ble_eq_true rfl) (Nat.le_of_ble_eq_true rfl) dX11_believes_25
set_option maxRecDepth 100000 in
set_option maxHeartbeats 4000000 in
theorem c_X11_hurts (l : Launch) (g : GG) (h0 : Nat) (h1 : Nat) (w0 : Nat) (w2 : Nat) (w3 : Nat) (w4 : Nat) (w5 : Nat) (w6 : Nat) (w7 : Nat) (w8 : Nat) (w9 : Nat) (w10 : Nat) (v0 : Nat) (v1 : Nat) (v2 : Nat) (v3 : Nat) (v4 : Nat) (v5 : Nat) (v6 : Nat) (v7 : Nat) (v8 : Nat) (v9 : Nat) (p1 : Int32) (p2 : Int32) : Ct l g yX11_hurts cX11_hurts 4 (some .int) { frames := 2, cells := 0, slots := 0, locals := 44 } [.ref h0, .int p1, .int p2] [(h0, .inr (11, [.ref w0, .ref h1, .ref w2, .ref w3, .ref w4, .ref w5, .ref w6, .ref w7, .ref w8, .ref w9, .ref w10])), (h1, .inr (0, [.int 0, .int 0, .int 0, .int 0, .int 0, .int 0, .int 0, .int 0, .int 0, .int 0, .ref v0, .ref v1, .ref v2, .ref v3, .ref v4, .ref v5, .ref v6, .ref v7, .ref v8, .ref v9]))] (S := Unit) (fun _ => some (.int (-2))) (fun _ => True) (fun u => [(h0, .inr (11, [.ref w0, .ref h1, .ref w2, .ref w3, .ref w4, .ref w5, .ref w6, .ref w7, .ref w8, .ref w9, .ref w10])), (h1, .inr (0, [.int 0, .int 0, .int 0, .int 0, .int 0, .int 0, .int 0, .int 0, .int 0, .int 0, .ref v0, .ref v1, .ref v2, .ref v3, .ref v4, .ref v5, .ref v6, .ref v7, .ref v8, .ref v9]))]) := by
  refine Ct.of (by decide) (Nat.le_of_ble_eq_true rfl) ?_
  intro p e s m below meth c A ls FX hP hD hS hl
  obtain ⟨FC, hr, hlk, hKn, hA, hnm⟩ := id FX
  have FC : CallFix p m c cX11_hurts 4 s _ BIG RX11 := FC
  obtain ⟨hx, hb, hml, hown, hB⟩ := id FC
  have hl : lv_has ls 4 [(0, .ref h0), (1, .int p1), (2, .int p2)] := hl
  refine lv_aload_n hx hb dX11_hurts_0 rfl (lv_at hl 0 rfl) ?_
  refine lv_iload_n hx hb dX11_hurts_1 rfl (lv_at hl 1 rfl) ?_
  refine lv_iload_n hx hb dX11_hurts_2 rfl (lv_at hl 2 rfl) ?_
  refine call_V (As := [.int p1, .int p2]) (rest := []) (wr := []) FC hKn (c_X11_feelWeek l g h0 h1 w0 w2 w3 w4 w5 w6 w7 w8 w9 w10 v0 v1 v2 v3 v4 v5 v6 v7 v8 v9 p1 p2) m_yX11_feelWeek b_19 (ci := 11) rfl rfl rfl hP hD hS hA [0, 1] [] rfl (by decide) rfl (by decide) (by decide) rfl hl.1 rfl (Nat.le_of_ble_eq_true rfl) dX11_hurts_3 ⟨(Nat.le_of_ble_eq_true rfl), (Nat.le_of_ble_eq_true rfl)⟩ ⟨(Nat.le_of_ble_eq_true rfl), (Nat.le_of_ble_eq_true rfl)⟩ (fun u1 H locs _ hP hD hS => ?_)
  have hP : va_P g.1 vwCl [(h0, .inr (11, [.ref w0, .ref h1, .ref w2, .ref w3, .ref w4, .ref w5, .ref w6, .ref w7, .ref w8, .ref w9, .ref w10])), (h1, .inr (0, [.int 0, .int 0, .int 0, .int 0, .int 0, .int 0, .int 0, .int 0, .int 0, .int 0, .ref v0, .ref v1, .ref v2, .ref v3, .ref v4, .ref v5, .ref v6, .ref v7, .ref v8, .ref v9]))] H := hP
  have hD : va_D A [(h0, .inr (11, [.ref w0, .ref h1, .ref w2, .ref w3, .ref w4, .ref w5, .ref w6, .ref w7, .ref w8, .ref w9, .ref w10])), (h1, .inr (0, [.int 0, .int 0, .int 0, .int 0, .int 0, .int 0, .int 0, .int 0, .int 0, .int 0, .ref v0, .ref v1, .ref v2, .ref v3, .ref v4, .ref v5, .ref v6, .ref v7, .ref v8, .ref v9]))] := hD
  refine W.eq (g2 := F0 m 6 ls [.int (-2)]) rfl ?_
  refine lv_istore_n (lv' := [(3, .int (-2)), (0, .ref h0), (1, .int p1), (2, .int p2)]) hx hb dX11_hurts_6 rfl hl (by decide) rfl (fun ls hl => ?_)
  refine lv_iload_n hx hb dX11_hurts_7 rfl (lv_at hl 0 rfl) ?_
  refine lv_if_ge (tgt := 15) hx hb dX11_hurts_8 (by decide) (fun h => absurd h (by decide)) (fun _ => ?_)
  refine lv_iload_n hx hb dX11_hurts_11 rfl (lv_at hl 0 rfl) ?_
  refine lv_goto (tgt := 22) hx hb dX11_hurts_12 (by decide) ?_
  exact rt_i FX () rfl trivial (hP.sub [0, 1] rfl) (hD.sub [0, 1] (by decide) rfl) hS (Nat.le_of_ble_eq_true rfl) (Nat.le_of_ble_eq_true rfl) dX11_hurts_22
set_option maxRecDepth 100000 in
set_option maxHeartbeats 4000000 in
theorem c_X11_worst (l : Launch) (g : GG) (h0 : Nat) (h1 : Nat) (w0 : Nat) (w2 : Nat) (w3 : Nat) (w4 : Nat) (w5 : Nat) (w6 : Nat) (w7 : Nat) (w8 : Nat) (w9 : Nat) (w10 : Nat) (v0 : Nat) (v1 : Nat) (v2 : Nat) (v3 : Nat) (v4 : Nat) (v5 : Nat) (v6 : Nat) (v7 : Nat) (v8 : Nat) (v9 : Nat) (p1 : Int32) (p2 : Int32) : Ct l g yX11_worst cX11_worst 4 (some .int) { frames := 2, cells := 0, slots := 0, locals := 44 } [.ref h0, .int p1, .int p2] [(h0, .inr (11, [.ref w0, .ref h1, .ref w2, .ref w3, .ref w4, .ref w5, .ref w6, .ref w7, .ref w8, .ref w9, .ref w10])), (h1, .inr (0, [.int 0, .int 0, .int 0, .int 0, .int 0, .int 0, .int 0, .int 0, .int 0, .int 0, .ref v0, .ref v1, .ref v2, .ref v3, .ref v4, .ref v5, .ref v6, .ref v7, .ref v8, .ref v9]))] (S := Unit) (fun _ => some (.int (-2))) (fun _ => True) (fun u => [(h0, .inr (11, [.ref w0, .ref h1, .ref w2, .ref w3, .ref w4, .ref w5, .ref w6, .ref w7, .ref w8, .ref w9, .ref w10])), (h1, .inr (0, [.int 0, .int 0, .int 0, .int 0, .int 0, .int 0, .int 0, .int 0, .int 0, .int 0, .ref v0, .ref v1, .ref v2, .ref v3, .ref v4, .ref v5, .ref v6, .ref v7, .ref v8, .ref v9]))]) := by
  refine Ct.of (by decide) (Nat.le_of_ble_eq_true rfl) ?_
  intro p e s m below meth c A ls FX hP hD hS hl
  obtain ⟨FC, hr, hlk, hKn, hA, hnm⟩ := id FX
  have FC : CallFix p m c cX11_worst 4 s _ BIG RX11 := FC
  obtain ⟨hx, hb, hml, hown, hB⟩ := id FC
  have hl : lv_has ls 4 [(0, .ref h0), (1, .int p1), (2, .int p2)] := hl
  refine lv_aload_n hx hb dX11_worst_0 rfl (lv_at hl 0 rfl) ?_
  refine lv_iload_n hx hb dX11_worst_1 rfl (lv_at hl 1 rfl) ?_
  refine lv_iload_n hx hb dX11_worst_2 rfl (lv_at hl 2 rfl) ?_
  refine call_V (As := [.int p1, .int p2]) (rest := []) (wr := []) FC hKn (c_X11_feelWeek l g h0 h1 w0 w2 w3 w4 w5 w6 w7 w8 w9 w10 v0 v1 v2 v3 v4 v5 v6 v7 v8 v9 p1 p2) m_yX11_feelWeek b_19 (ci := 11) rfl rfl rfl hP hD hS hA [0, 1] [] rfl (by decide) rfl (by decide) (by decide) rfl hl.1 rfl (Nat.le_of_ble_eq_true rfl) dX11_worst_3 ⟨(Nat.le_of_ble_eq_true rfl), (Nat.le_of_ble_eq_true rfl)⟩ ⟨(Nat.le_of_ble_eq_true rfl), (Nat.le_of_ble_eq_true rfl)⟩ (fun u1 H locs _ hP hD hS => ?_)
  have hP : va_P g.1 vwCl [(h0, .inr (11, [.ref w0, .ref h1, .ref w2, .ref w3, .ref w4, .ref w5, .ref w6, .ref w7, .ref w8, .ref w9, .ref w10])), (h1, .inr (0, [.int 0, .int 0, .int 0, .int 0, .int 0, .int 0, .int 0, .int 0, .int 0, .int 0, .ref v0, .ref v1, .ref v2, .ref v3, .ref v4, .ref v5, .ref v6, .ref v7, .ref v8, .ref v9]))] H := hP
  have hD : va_D A [(h0, .inr (11, [.ref w0, .ref h1, .ref w2, .ref w3, .ref w4, .ref w5, .ref w6, .ref w7, .ref w8, .ref w9, .ref w10])), (h1, .inr (0, [.int 0, .int 0, .int 0, .int 0, .int 0, .int 0, .int 0, .int 0, .int 0, .int 0, .ref v0, .ref v1, .ref v2, .ref v3, .ref v4, .ref v5, .ref v6, .ref v7, .ref v8, .ref v9]))] := hD
  refine W.eq (g2 := F0 m 6 ls [.int (-2)]) rfl ?_
  refine lv_istore_n (lv' := [(3, .int (-2)), (0, .ref h0), (1, .int p1), (2, .int p2)]) hx hb dX11_worst_6 rfl hl (by decide) rfl (fun ls hl => ?_)
  refine lv_iload_n hx hb dX11_worst_7 rfl (lv_at hl 0 rfl) ?_
  refine lv_if_ge (tgt := 15) hx hb dX11_worst_8 (by decide) (fun h => absurd h (by decide)) (fun _ => ?_)
  refine lv_iload_n hx hb dX11_worst_11 rfl (lv_at hl 0 rfl) ?_
  refine lv_goto (tgt := 22) hx hb dX11_worst_12 (by decide) ?_
  exact rt_i FX () rfl trivial (hP.sub [0, 1] rfl) (hD.sub [0, 1] (by decide) rfl) hS (Nat.le_of_ble_eq_true rfl) (Nat.le_of_ble_eq_true rfl) dX11_worst_22
set_option maxRecDepth 100000 in
set_option maxHeartbeats 4000000 in
theorem c_X11_left (l : Launch) (g : GG) (h0 : Nat) (h1 : Nat) (w0 : Nat) (w2 : Nat) (w3 : Nat) (w4 : Nat) (w5 : Nat) (w6 : Nat) (w7 : Nat) (w8 : Nat) (w9 : Nat) (w10 : Nat) (v0 : Nat) (v1 : Nat) (v2 : Nat) (v3 : Nat) (v4 : Nat) (v5 : Nat) (v6 : Nat) (v7 : Nat) (v8 : Nat) (v9 : Nat) (p1 : Int32) (p2 : Int32) : Ct l g yX11_left cX11_left 4 (some .int) { frames := 2, cells := 0, slots := 0, locals := 44 } [.ref h0, .int p1, .int p2] [(h0, .inr (11, [.ref w0, .ref h1, .ref w2, .ref w3, .ref w4, .ref w5, .ref w6, .ref w7, .ref w8, .ref w9, .ref w10])), (h1, .inr (0, [.int 0, .int 0, .int 0, .int 0, .int 0, .int 0, .int 0, .int 0, .int 0, .int 0, .ref v0, .ref v1, .ref v2, .ref v3, .ref v4, .ref v5, .ref v6, .ref v7, .ref v8, .ref v9]))] (S := Unit) (fun _ => some (.int (-2))) (fun _ => True) (fun u => [(h0, .inr (11, [.ref w0, .ref h1, .ref w2, .ref w3, .ref w4, .ref w5, .ref w6, .ref w7, .ref w8, .ref w9, .ref w10])), (h1, .inr (0, [.int 0, .int 0, .int 0, .int 0, .int 0, .int 0, .int 0, .int 0, .int 0, .int 0, .ref v0, .ref v1, .ref v2, .ref v3, .ref v4, .ref v5, .ref v6, .ref v7, .ref v8, .ref v9]))]) := by
  refine Ct.of (by decide) (Nat.le_of_ble_eq_true rfl) ?_
  intro p e s m below meth c A ls FX hP hD hS hl
  obtain ⟨FC, hr, hlk, hKn, hA, hnm⟩ := id FX
  have FC : CallFix p m c cX11_left 4 s _ BIG RX11 := FC
  obtain ⟨hx, hb, hml, hown, hB⟩ := id FC
  have hl : lv_has ls 4 [(0, .ref h0), (1, .int p1), (2, .int p2)] := hl
  refine lv_aload_n hx hb dX11_left_0 rfl (lv_at hl 0 rfl) ?_
  refine lv_iload_n hx hb dX11_left_1 rfl (lv_at hl 1 rfl) ?_
  refine lv_iload_n hx hb dX11_left_2 rfl (lv_at hl 2 rfl) ?_
  refine call_V (As := [.int p1, .int p2]) (rest := []) (wr := []) FC hKn (c_X11_feelWeek l g h0 h1 w0 w2 w3 w4 w5 w6 w7 w8 w9 w10 v0 v1 v2 v3 v4 v5 v6 v7 v8 v9 p1 p2) m_yX11_feelWeek b_19 (ci := 11) rfl rfl rfl hP hD hS hA [0, 1] [] rfl (by decide) rfl (by decide) (by decide) rfl hl.1 rfl (Nat.le_of_ble_eq_true rfl) dX11_left_3 ⟨(Nat.le_of_ble_eq_true rfl), (Nat.le_of_ble_eq_true rfl)⟩ ⟨(Nat.le_of_ble_eq_true rfl), (Nat.le_of_ble_eq_true rfl)⟩ (fun u1 H locs _ hP hD hS => ?_)
  have hP : va_P g.1 vwCl [(h0, .inr (11, [.ref w0, .ref h1, .ref w2, .ref w3, .ref w4, .ref w5, .ref w6, .ref w7, .ref w8, .ref w9, .ref w10])), (h1, .inr (0, [.int 0, .int 0, .int 0, .int 0, .int 0, .int 0, .int 0, .int 0, .int 0, .int 0, .ref v0, .ref v1, .ref v2, .ref v3, .ref v4, .ref v5, .ref v6, .ref v7, .ref v8, .ref v9]))] H := hP
  have hD : va_D A [(h0, .inr (11, [.ref w0, .ref h1, .ref w2, .ref w3, .ref w4, .ref w5, .ref w6, .ref w7, .ref w8, .ref w9, .ref w10])), (h1, .inr (0, [.int 0, .int 0, .int 0, .int 0, .int 0, .int 0, .int 0, .int 0, .int 0, .int 0, .ref v0, .ref v1, .ref v2, .ref v3, .ref v4, .ref v5, .ref v6, .ref v7, .ref v8, .ref v9]))] := hD
  refine W.eq (g2 := F0 m 6 ls [.int (-2)]) rfl ?_
  refine lv_istore_n (lv' := [(3, .int (-2)), (0, .ref h0), (1, .int p1), (2, .int p2)]) hx hb dX11_left_6 rfl hl (by decide) rfl (fun ls hl => ?_)
  refine lv_iload_n hx hb dX11_left_7 rfl (lv_at hl 0 rfl) ?_
  refine lv_if_ge (tgt := 15) hx hb dX11_left_8 (by decide) (fun h => absurd h (by decide)) (fun _ => ?_)
  refine lv_iload_n hx hb dX11_left_11 rfl (lv_at hl 0 rfl) ?_
  refine lv_goto (tgt := 26) hx hb dX11_left_12 (by decide) ?_
  exact rt_i FX () rfl trivial (hP.sub [0, 1] rfl) (hD.sub [0, 1] (by decide) rfl) hS (Nat.le_of_ble_eq_true rfl) (Nat.le_of_ble_eq_true rfl) dX11_left_26
set_option maxRecDepth 100000 in
set_option maxHeartbeats 4000000 in
theorem c_X11_lies (l : Launch) (g : GG) (h0 : Nat) (h1 : Nat) (w0 : Nat) (w2 : Nat) (w3 : Nat) (w4 : Nat) (w5 : Nat) (w6 : Nat) (w7 : Nat) (w8 : Nat) (w9 : Nat) (w10 : Nat) (v0 : Nat) (v1 : Nat) (v2 : Nat) (v3 : Nat) (v4 : Nat) (v5 : Nat) (v6 : Nat) (v7 : Nat) (v8 : Nat) (v9 : Nat) (p1 : Int32) : Ct l g yX11_lies cX11_lies 3 (some .int) { frames := 2, cells := 0, slots := 0, locals := 42 } [.ref h0, .int p1] [(h0, .inr (11, [.ref w0, .ref h1, .ref w2, .ref w3, .ref w4, .ref w5, .ref w6, .ref w7, .ref w8, .ref w9, .ref w10])), (h1, .inr (0, [.int 0, .int 0, .int 0, .int 0, .int 0, .int 0, .int 0, .int 0, .int 0, .int 0, .ref v0, .ref v1, .ref v2, .ref v3, .ref v4, .ref v5, .ref v6, .ref v7, .ref v8, .ref v9]))] (S := Unit) (fun _ => some (.int (-2))) (fun _ => True) (fun u => [(h0, .inr (11, [.ref w0, .ref h1, .ref w2, .ref w3, .ref w4, .ref w5, .ref w6, .ref w7, .ref w8, .ref w9, .ref w10])), (h1, .inr (0, [.int 0, .int 0, .int 0, .int 0, .int 0, .int 0, .int 0, .int 0, .int 0, .int 0, .ref v0, .ref v1, .ref v2, .ref v3, .ref v4, .ref v5, .ref v6, .ref v7, .ref v8, .ref v9]))]) := by
  refine Ct.of (by decide) (Nat.le_of_ble_eq_true rfl) ?_
  intro p e s m below meth c A ls FX hP hD hS hl
  obtain ⟨FC, hr, hlk, hKn, hA, hnm⟩ := id FX
  have FC : CallFix p m c cX11_lies 3 s _ BIG RX11 := FC
  obtain ⟨hx, hb, hml, hown, hB⟩ := id FC
  have hl : lv_has ls 3 [(0, .ref h0), (1, .int p1)] := hl
  refine lv_aload_n hx hb dX11_lies_0 rfl (lv_at hl 0 rfl) ?_
  refine lv_iload_n hx hb dX11_lies_1 rfl (lv_at hl 1 rfl) ?_
  refine call_V (As := [.int p1]) (rest := []) (wr := []) FC hKn (c_X11_takeWeek l g h0 h1 w0 w2 w3 w4 w5 w6 w7 w8 w9 w10 v0 v1 v2 v3 v4 v5 v6 v7 v8 v9 p1) m_yX11_takeWeek b_18 (ci := 11) rfl rfl rfl hP hD hS hA [0, 1] [] rfl (by decide) rfl (by decide) (by decide) rfl hl.1 rfl (Nat.le_of_ble_eq_true rfl) dX11_lies_2 ⟨(Nat.le_of_ble_eq_true rfl), (Nat.le_of_ble_eq_true rfl)⟩ ⟨(Nat.le_of_ble_eq_true rfl), (Nat.le_of_ble_eq_true rfl)⟩ (fun u1 H locs _ hP hD hS => ?_)
  have hP : va_P g.1 vwCl [(h0, .inr (11, [.ref w0, .ref h1, .ref w2, .ref w3, .ref w4, .ref w5, .ref w6, .ref w7, .ref w8, .ref w9, .ref w10])), (h1, .inr (0, [.int 0, .int 0, .int 0, .int 0, .int 0, .int 0, .int 0, .int 0, .int 0, .int 0, .ref v0, .ref v1, .ref v2, .ref v3, .ref v4, .ref v5, .ref v6, .ref v7, .ref v8, .ref v9]))] H := hP
  have hD : va_D A [(h0, .inr (11, [.ref w0, .ref h1, .ref w2, .ref w3, .ref w4, .ref w5, .ref w6, .ref w7, .ref w8, .ref w9, .ref w10])), (h1, .inr (0, [.int 0, .int 0, .int 0, .int 0, .int 0, .int 0, .int 0, .int 0, .int 0, .int 0, .ref v0, .ref v1, .ref v2, .ref v3, .ref v4, .ref v5, .ref v6, .ref v7, .ref v8, .ref v9]))] := hD
  refine W.eq (g2 := F0 m 5 ls [.int (-2)]) rfl ?_
  refine lv_istore_n (lv' := [(2, .int (-2)), (0, .ref h0), (1, .int p1)]) hx hb dX11_lies_5 rfl hl (by decide) rfl (fun ls hl => ?_)
  refine lv_iload_n hx hb dX11_lies_6 rfl (lv_at hl 0 rfl) ?_
  refine lv_if_ge (tgt := 14) hx hb dX11_lies_7 (by decide) (fun h => absurd h (by decide)) (fun _ => ?_)
  refine lv_iload_n hx hb dX11_lies_10 rfl (lv_at hl 0 rfl) ?_
  refine lv_goto (tgt := 25) hx hb dX11_lies_11 (by decide) ?_
  exact rt_i FX () rfl trivial (hP.sub [0, 1] rfl) (hD.sub [0, 1] (by decide) rfl) hS (Nat.le_of_ble_eq_true rfl) (Nat.le_of_ble_eq_true rfl) dX11_lies_25
set_option maxRecDepth 100000 in
set_option maxHeartbeats 4000000 in
theorem c_X11_shames (l : Launch) (g : GG) (h0 : Nat) (h1 : Nat) (w0 : Nat) (w2 : Nat) (w3 : Nat) (w4 : Nat) (w5 : Nat) (w6 : Nat) (w7 : Nat) (w8 : Nat) (w9 : Nat) (w10 : Nat) (v0 : Nat) (v1 : Nat) (v2 : Nat) (v3 : Nat) (v4 : Nat) (v5 : Nat) (v6 : Nat) (v7 : Nat) (v8 : Nat) (v9 : Nat) (p1 : Int32) : Ct l g yX11_shames cX11_shames 3 (some .int) { frames := 2, cells := 0, slots := 0, locals := 42 } [.ref h0, .int p1] [(h0, .inr (11, [.ref w0, .ref h1, .ref w2, .ref w3, .ref w4, .ref w5, .ref w6, .ref w7, .ref w8, .ref w9, .ref w10])), (h1, .inr (0, [.int 0, .int 0, .int 0, .int 0, .int 0, .int 0, .int 0, .int 0, .int 0, .int 0, .ref v0, .ref v1, .ref v2, .ref v3, .ref v4, .ref v5, .ref v6, .ref v7, .ref v8, .ref v9]))] (S := Unit) (fun _ => some (.int (-2))) (fun _ => True) (fun u => [(h0, .inr (11, [.ref w0, .ref h1, .ref w2, .ref w3, .ref w4, .ref w5, .ref w6, .ref w7, .ref w8, .ref w9, .ref w10])), (h1, .inr (0, [.int 0, .int 0, .int 0, .int 0, .int 0, .int 0, .int 0, .int 0, .int 0, .int 0, .ref v0, .ref v1, .ref v2, .ref v3, .ref v4, .ref v5, .ref v6, .ref v7, .ref v8, .ref v9]))]) := by
  refine Ct.of (by decide) (Nat.le_of_ble_eq_true rfl) ?_
  intro p e s m below meth c A ls FX hP hD hS hl
  obtain ⟨FC, hr, hlk, hKn, hA, hnm⟩ := id FX
  have FC : CallFix p m c cX11_shames 3 s _ BIG RX11 := FC
  obtain ⟨hx, hb, hml, hown, hB⟩ := id FC
  have hl : lv_has ls 3 [(0, .ref h0), (1, .int p1)] := hl
  refine lv_aload_n hx hb dX11_shames_0 rfl (lv_at hl 0 rfl) ?_
  refine lv_iload_n hx hb dX11_shames_1 rfl (lv_at hl 1 rfl) ?_
  refine call_V (As := [.int p1]) (rest := []) (wr := []) FC hKn (c_X11_takeWeek l g h0 h1 w0 w2 w3 w4 w5 w6 w7 w8 w9 w10 v0 v1 v2 v3 v4 v5 v6 v7 v8 v9 p1) m_yX11_takeWeek b_18 (ci := 11) rfl rfl rfl hP hD hS hA [0, 1] [] rfl (by decide) rfl (by decide) (by decide) rfl hl.1 rfl (Nat.le_of_ble_eq_true rfl) dX11_shames_2 ⟨(Nat.le_of_ble_eq_true rfl), (Nat.le_of_ble_eq_true rfl)⟩ ⟨(Nat.le_of_ble_eq_true rfl), (Nat.le_of_ble_eq_true rfl)⟩ (fun u1 H locs _ hP hD hS => ?_)
  have hP : va_P g.1 vwCl [(h0, .inr (11, [.ref w0, .ref h1, .ref w2, .ref w3, .ref w4, .ref w5, .ref w6, .ref w7, .ref w8, .ref w9, .ref w10])), (h1, .inr (0, [.int 0, .int 0, .int 0, .int 0, .int 0, .int 0, .int 0, .int 0, .int 0, .int 0, .ref v0, .ref v1, .ref v2, .ref v3, .ref v4, .ref v5, .ref v6, .ref v7, .ref v8, .ref v9]))] H := hP
  have hD : va_D A [(h0, .inr (11, [.ref w0, .ref h1, .ref w2, .ref w3, .ref w4, .ref w5, .ref w6, .ref w7, .ref w8, .ref w9, .ref w10])), (h1, .inr (0, [.int 0, .int 0, .int 0, .int 0, .int 0, .int 0, .int 0, .int 0, .int 0, .int 0, .ref v0, .ref v1, .ref v2, .ref v3, .ref v4, .ref v5, .ref v6, .ref v7, .ref v8, .ref v9]))] := hD
  refine W.eq (g2 := F0 m 5 ls [.int (-2)]) rfl ?_
  refine lv_istore_n (lv' := [(2, .int (-2)), (0, .ref h0), (1, .int p1)]) hx hb dX11_shames_5 rfl hl (by decide) rfl (fun ls hl => ?_)
  refine lv_iload_n hx hb dX11_shames_6 rfl (lv_at hl 0 rfl) ?_
  refine lv_if_ge (tgt := 14) hx hb dX11_shames_7 (by decide) (fun h => absurd h (by decide)) (fun _ => ?_)
  refine lv_iload_n hx hb dX11_shames_10 rfl (lv_at hl 0 rfl) ?_
  refine lv_goto (tgt := 25) hx hb dX11_shames_11 (by decide) ?_
  exact rt_i FX () rfl trivial (hP.sub [0, 1] rfl) (hD.sub [0, 1] (by decide) rfl) hS (Nat.le_of_ble_eq_true rfl) (Nat.le_of_ble_eq_true rfl) dX11_shames_25
set_option maxRecDepth 100000 in
set_option maxHeartbeats 4000000 in
theorem c_X11_known (l : Launch) (g : GG) (h0 : Nat) (h1 : Nat) (w0 : Nat) (w2 : Nat) (w3 : Nat) (w4 : Nat) (w5 : Nat) (w6 : Nat) (w7 : Nat) (w8 : Nat) (w9 : Nat) (w10 : Nat) (v0 : Nat) (v1 : Nat) (v2 : Nat) (v3 : Nat) (v4 : Nat) (v5 : Nat) (v6 : Nat) (v7 : Nat) (v8 : Nat) (v9 : Nat) (p1 : Int32) : Ct l g yX11_known cX11_known 3 (some .int) { frames := 2, cells := 0, slots := 0, locals := 42 } [.ref h0, .int p1] [(h0, .inr (11, [.ref w0, .ref h1, .ref w2, .ref w3, .ref w4, .ref w5, .ref w6, .ref w7, .ref w8, .ref w9, .ref w10])), (h1, .inr (0, [.int 0, .int 0, .int 0, .int 0, .int 0, .int 0, .int 0, .int 0, .int 0, .int 0, .ref v0, .ref v1, .ref v2, .ref v3, .ref v4, .ref v5, .ref v6, .ref v7, .ref v8, .ref v9]))] (S := Unit) (fun _ => some (.int (-2))) (fun _ => True) (fun u => [(h0, .inr (11, [.ref w0, .ref h1, .ref w2, .ref w3, .ref w4, .ref w5, .ref w6, .ref w7, .ref w8, .ref w9, .ref w10])), (h1, .inr (0, [.int 0, .int 0, .int 0, .int 0, .int 0, .int 0, .int 0, .int 0, .int 0, .int 0, .ref v0, .ref v1, .ref v2, .ref v3, .ref v4, .ref v5, .ref v6, .ref v7, .ref v8, .ref v9]))]) := by
  refine Ct.of (by decide) (Nat.le_of_ble_eq_true rfl) ?_
  intro p e s m below meth c A ls FX hP hD hS hl
  obtain ⟨FC, hr, hlk, hKn, hA, hnm⟩ := id FX
  have FC : CallFix p m c cX11_known 3 s _ BIG RX11 := FC
  obtain ⟨hx, hb, hml, hown, hB⟩ := id FC
  have hl : lv_has ls 3 [(0, .ref h0), (1, .int p1)] := hl
  refine lv_aload_n hx hb dX11_known_0 rfl (lv_at hl 0 rfl) ?_
  refine lv_iload_n hx hb dX11_known_1 rfl (lv_at hl 1 rfl) ?_
  refine call_V (As := [.int p1]) (rest := []) (wr := []) FC hKn (c_X11_takeWeek l g h0 h1 w0 w2 w3 w4 w5 w6 w7 w8 w9 w10 v0 v1 v2 v3 v4 v5 v6 v7 v8 v9 p1) m_yX11_takeWeek b_18 (ci := 11) rfl rfl rfl hP hD hS hA [0, 1] [] rfl (by decide) rfl (by decide) (by decide) rfl hl.1 rfl (Nat.le_of_ble_eq_true rfl) dX11_known_2 ⟨(Nat.le_of_ble_eq_true rfl), (Nat.le_of_ble_eq_true rfl)⟩ ⟨(Nat.le_of_ble_eq_true rfl), (Nat.le_of_ble_eq_true rfl)⟩ (fun u1 H locs _ hP hD hS => ?_)
  have hP : va_P g.1 vwCl [(h0, .inr (11, [.ref w0, .ref h1, .ref w2, .ref w3, .ref w4, .ref w5, .ref w6, .ref w7, .ref w8, .ref w9, .ref w10])), (h1, .inr (0, [.int 0, .int 0, .int 0, .int 0, .int 0, .int 0, .int 0, .int 0, .int 0, .int 0, .ref v0, .ref v1, .ref v2, .ref v3, .ref v4, .ref v5, .ref v6, .ref v7, .ref v8, .ref v9]))] H := hP
  have hD : va_D A [(h0, .inr (11, [.ref w0, .ref h1, .ref w2, .ref w3, .ref w4, .ref w5, .ref w6, .ref w7, .ref w8, .ref w9, .ref w10])), (h1, .inr (0, [.int 0, .int 0, .int 0, .int 0, .int 0, .int 0, .int 0, .int 0, .int 0, .int 0, .ref v0, .ref v1, .ref v2, .ref v3, .ref v4, .ref v5, .ref v6, .ref v7, .ref v8, .ref v9]))] := hD
  refine W.eq (g2 := F0 m 5 ls [.int (-2)]) rfl ?_
  refine lv_istore_n (lv' := [(2, .int (-2)), (0, .ref h0), (1, .int p1)]) hx hb dX11_known_5 rfl hl (by decide) rfl (fun ls hl => ?_)
  refine lv_iload_n hx hb dX11_known_6 rfl (lv_at hl 0 rfl) ?_
  refine lv_if_ge (tgt := 14) hx hb dX11_known_7 (by decide) (fun h => absurd h (by decide)) (fun _ => ?_)
  refine lv_iload_n hx hb dX11_known_10 rfl (lv_at hl 0 rfl) ?_
  refine lv_goto (tgt := 28) hx hb dX11_known_11 (by decide) ?_
  exact rt_i FX () rfl trivial (hP.sub [0, 1] rfl) (hD.sub [0, 1] (by decide) rfl) hS (Nat.le_of_ble_eq_true rfl) (Nat.le_of_ble_eq_true rfl) dX11_known_28
set_option maxRecDepth 100000 in
set_option maxHeartbeats 4000000 in
theorem c_X11_softer (l : Launch) (g : GG) (h0 : Nat) (h1 : Nat) (w0 : Nat) (w2 : Nat) (w3 : Nat) (w4 : Nat) (w5 : Nat) (w6 : Nat) (w7 : Nat) (w8 : Nat) (w9 : Nat) (w10 : Nat) (v0 : Nat) (v1 : Nat) (v2 : Nat) (v3 : Nat) (v4 : Nat) (v5 : Nat) (v6 : Nat) (v7 : Nat) (v8 : Nat) (v9 : Nat) (p1 : Int32) (p2 : Int32) : Ct l g yX11_softer cX11_softer 4 (some .int) { frames := 2, cells := 0, slots := 0, locals := 44 } [.ref h0, .int p1, .int p2] [(h0, .inr (11, [.ref w0, .ref h1, .ref w2, .ref w3, .ref w4, .ref w5, .ref w6, .ref w7, .ref w8, .ref w9, .ref w10])), (h1, .inr (0, [.int 0, .int 0, .int 0, .int 0, .int 0, .int 0, .int 0, .int 0, .int 0, .int 0, .ref v0, .ref v1, .ref v2, .ref v3, .ref v4, .ref v5, .ref v6, .ref v7, .ref v8, .ref v9]))] (S := Unit) (fun _ => some (.int (-2))) (fun _ => True) (fun u => [(h0, .inr (11, [.ref w0, .ref h1, .ref w2, .ref w3, .ref w4, .ref w5, .ref w6, .ref w7, .ref w8, .ref w9, .ref w10])), (h1, .inr (0, [.int 0, .int 0, .int 0, .int 0, .int 0, .int 0, .int 0, .int 0, .int 0, .int 0, .ref v0, .ref v1, .ref v2, .ref v3, .ref v4, .ref v5, .ref v6, .ref v7, .ref v8, .ref v9]))]) := by
  refine Ct.of (by decide) (Nat.le_of_ble_eq_true rfl) ?_
  intro p e s m below meth c A ls FX hP hD hS hl
  obtain ⟨FC, hr, hlk, hKn, hA, hnm⟩ := id FX
  have FC : CallFix p m c cX11_softer 4 s _ BIG RX11 := FC
  obtain ⟨hx, hb, hml, hown, hB⟩ := id FC
  have hl : lv_has ls 4 [(0, .ref h0), (1, .int p1), (2, .int p2)] := hl
  refine lv_aload_n hx hb dX11_softer_0 rfl (lv_at hl 0 rfl) ?_
  refine lv_iload_n hx hb dX11_softer_1 rfl (lv_at hl 1 rfl) ?_
  refine lv_iload_n hx hb dX11_softer_2 rfl (lv_at hl 2 rfl) ?_
  refine call_V (As := [.int p1, .int p2]) (rest := []) (wr := []) FC hKn (c_X11_orderWeek l g h0 h1 w0 w2 w3 w4 w5 w6 w7 w8 w9 w10 v0 v1 v2 v3 v4 v5 v6 v7 v8 v9 p1 p2) m_yX11_orderWeek b_20 (ci := 11) rfl rfl rfl hP hD hS hA [0, 1] [] rfl (by decide) rfl (by decide) (by decide) rfl hl.1 rfl (Nat.le_of_ble_eq_true rfl) dX11_softer_3 ⟨(Nat.le_of_ble_eq_true rfl), (Nat.le_of_ble_eq_true rfl)⟩ ⟨(Nat.le_of_ble_eq_true rfl), (Nat.le_of_ble_eq_true rfl)⟩ (fun u1 H locs _ hP hD hS => ?_)
  have hP : va_P g.1 vwCl [(h0, .inr (11, [.ref w0, .ref h1, .ref w2, .ref w3, .ref w4, .ref w5, .ref w6, .ref w7, .ref w8, .ref w9, .ref w10])), (h1, .inr (0, [.int 0, .int 0, .int 0, .int 0, .int 0, .int 0, .int 0, .int 0, .int 0, .int 0, .ref v0, .ref v1, .ref v2, .ref v3, .ref v4, .ref v5, .ref v6, .ref v7, .ref v8, .ref v9]))] H := hP
  have hD : va_D A [(h0, .inr (11, [.ref w0, .ref h1, .ref w2, .ref w3, .ref w4, .ref w5, .ref w6, .ref w7, .ref w8, .ref w9, .ref w10])), (h1, .inr (0, [.int 0, .int 0, .int 0, .int 0, .int 0, .int 0, .int 0, .int 0, .int 0, .int 0, .ref v0, .ref v1, .ref v2, .ref v3, .ref v4, .ref v5, .ref v6, .ref v7, .ref v8, .ref v9]))] := hD
  refine W.eq (g2 := F0 m 6 ls [.int (-2)]) rfl ?_
  refine lv_istore_n (lv' := [(3, .int (-2)), (0, .ref h0), (1, .int p1), (2, .int p2)]) hx hb dX11_softer_6 rfl hl (by decide) rfl (fun ls hl => ?_)
  refine lv_iload_n hx hb dX11_softer_7 rfl (lv_at hl 0 rfl) ?_
  refine lv_if_ge (tgt := 15) hx hb dX11_softer_8 (by decide) (fun h => absurd h (by decide)) (fun _ => ?_)
  refine lv_iload_n hx hb dX11_softer_11 rfl (lv_at hl 0 rfl) ?_
  refine lv_goto (tgt := 22) hx hb dX11_softer_12 (by decide) ?_
  exact rt_i FX () rfl trivial (hP.sub [0, 1] rfl) (hD.sub [0, 1] (by decide) rfl) hS (Nat.le_of_ble_eq_true rfl) (Nat.le_of_ble_eq_true rfl) dX11_softer_22
set_option maxRecDepth 100000 in
set_option maxHeartbeats 4000000 in
theorem c_X11_ordered (l : Launch) (g : GG) (h0 : Nat) (h1 : Nat) (w0 : Nat) (w2 : Nat) (w3 : Nat) (w4 : Nat) (w5 : Nat) (w6 : Nat) (w7 : Nat) (w8 : Nat) (w9 : Nat) (w10 : Nat) (v0 : Nat) (v1 : Nat) (v2 : Nat) (v3 : Nat) (v4 : Nat) (v5 : Nat) (v6 : Nat) (v7 : Nat) (v8 : Nat) (v9 : Nat) (p1 : Int32) (p2 : Int32) (p3 : Int32) : Ct l g yX11_ordered cX11_ordered 5 (some .int) { frames := 2, cells := 0, slots := 0, locals := 44 } [.ref h0, .int p1, .int p2, .int p3] [(h0, .inr (11, [.ref w0, .ref h1, .ref w2, .ref w3, .ref w4, .ref w5, .ref w6, .ref w7, .ref w8, .ref w9, .ref w10])), (h1, .inr (0, [.int 0, .int 0, .int 0, .int 0, .int 0, .int 0, .int 0, .int 0, .int 0, .int 0, .ref v0, .ref v1, .ref v2, .ref v3, .ref v4, .ref v5, .ref v6, .ref v7, .ref v8, .ref v9]))] (S := Unit) (fun _ => some (.int (-2))) (fun _ => True) (fun u => [(h0, .inr (11, [.ref w0, .ref h1, .ref w2, .ref w3, .ref w4, .ref w5, .ref w6, .ref w7, .ref w8, .ref w9, .ref w10])), (h1, .inr (0, [.int 0, .int 0, .int 0, .int 0, .int 0, .int 0, .int 0, .int 0, .int 0, .int 0, .ref v0, .ref v1, .ref v2, .ref v3, .ref v4, .ref v5, .ref v6, .ref v7, .ref v8, .ref v9]))]) := by
  refine Ct.of (by decide) (Nat.le_of_ble_eq_true rfl) ?_
  intro p e s m below meth c A ls FX hP hD hS hl
  obtain ⟨FC, hr, hlk, hKn, hA, hnm⟩ := id FX
  have FC : CallFix p m c cX11_ordered 5 s _ BIG RX11 := FC
  obtain ⟨hx, hb, hml, hown, hB⟩ := id FC
  have hl : lv_has ls 5 [(0, .ref h0), (1, .int p1), (2, .int p2), (3, .int p3)] := hl
  refine lv_aload_n hx hb dX11_ordered_0 rfl (lv_at hl 0 rfl) ?_
  refine lv_iload_n hx hb dX11_ordered_1 rfl (lv_at hl 1 rfl) ?_
  refine lv_iload_n hx hb dX11_ordered_2 rfl (lv_at hl 2 rfl) ?_
  refine call_V (As := [.int p1, .int p2]) (rest := []) (wr := []) FC hKn (c_X11_orderWeek l g h0 h1 w0 w2 w3 w4 w5 w6 w7 w8 w9 w10 v0 v1 v2 v3 v4 v5 v6 v7 v8 v9 p1 p2) m_yX11_orderWeek b_20 (ci := 11) rfl rfl rfl hP hD hS hA [0, 1] [] rfl (by decide) rfl (by decide) (by decide) rfl hl.1 rfl (Nat.le_of_ble_eq_true rfl) dX11_ordered_3 ⟨(Nat.le_of_ble_eq_true rfl), (Nat.le_of_ble_eq_true rfl)⟩ ⟨(Nat.le_of_ble_eq_true rfl), (Nat.le_of_ble_eq_true rfl)⟩ (fun u1 H locs _ hP hD hS => ?_)
  have hP : va_P g.1 vwCl [(h0, .inr (11, [.ref w0, .ref h1, .ref w2, .ref w3, .ref w4, .ref w5, .ref w6, .ref w7, .ref w8, .ref w9, .ref w10])), (h1, .inr (0, [.int 0, .int 0, .int 0, .int 0, .int 0, .int 0, .int 0, .int 0, .int 0, .int 0, .ref v0, .ref v1, .ref v2, .ref v3, .ref v4, .ref v5, .ref v6, .ref v7, .ref v8, .ref v9]))] H := hP
  have hD : va_D A [(h0, .inr (11, [.ref w0, .ref h1, .ref w2, .ref w3, .ref w4, .ref w5, .ref w6, .ref w7, .ref w8, .ref w9, .ref w10])), (h1, .inr (0, [.int 0, .int 0, .int 0, .int 0, .int 0, .int 0, .int 0, .int 0, .int 0, .int 0, .ref v0, .ref v1, .ref v2, .ref v3, .ref v4, .ref v5, .ref v6, .ref v7, .ref v8, .ref v9]))] := hD
  refine W.eq (g2 := F0 m 6 ls [.int (-2)]) rfl ?_
  refine lv_istore (lv' := [(4, .int (-2)), (0, .ref h0), (1, .int p1), (2, .int p2), (3, .int p3)]) hx hb dX11_ordered_6 hl (by decide) rfl (fun ls hl => ?_)
  refine lv_iload hx hb dX11_ordered_8 (lv_at hl 0 rfl) ?_
  refine lv_if_ge (tgt := 16) hx hb dX11_ordered_10 (by decide) (fun h => absurd h (by decide)) (fun _ => ?_)
  refine lv_iload hx hb dX11_ordered_13 (lv_at hl 0 rfl) ?_
  exact rt_i FX () rfl trivial (hP.sub [0, 1] rfl) (hD.sub [0, 1] (by decide) rfl) hS (Nat.le_of_ble_eq_true rfl) (Nat.le_of_ble_eq_true rfl) dX11_ordered_15
set_option maxRecDepth 100000 in
set_option maxHeartbeats 4000000 in
theorem c_X11_rest (l : Launch) (g : GG) (h0 : Nat) (h1 : Nat) (w0 : Nat) (w2 : Nat) (w3 : Nat) (w4 : Nat) (w5 : Nat) (w6 : Nat) (w7 : Nat) (w8 : Nat) (w9 : Nat) (w10 : Nat) (v0 : Nat) (v1 : Nat) (v2 : Nat) (v3 : Nat) (v4 : Nat) (v5 : Nat) (v6 : Nat) (v7 : Nat) (v8 : Nat) (v9 : Nat) (p1 : Int32) : Ct l g yX11_rest cX11_rest 5 (some .int) { frames := 1, cells := 0, slots := 0, locals := 21 } [.ref h0, .int p1] [(h0, .inr (11, [.ref w0, .ref h1, .ref w2, .ref w3, .ref w4, .ref w5, .ref w6, .ref w7, .ref w8, .ref w9, .ref w10])), (h1, .inr (0, [.int 0, .int 0, .int 0, .int 0, .int 0, .int 0, .int 0, .int 0, .int 0, .int 0, .ref v0, .ref v1, .ref v2, .ref v3, .ref v4, .ref v5, .ref v6, .ref v7, .ref v8, .ref v9]))] (S := Unit) (fun _ => some (.int (-2))) (fun _ => True) (fun u => [(h0, .inr (11, [.ref w0, .ref h1, .ref w2, .ref w3, .ref w4, .ref w5, .ref w6, .ref w7, .ref w8, .ref w9, .ref w10])), (h1, .inr (0, [.int 0, .int 0, .int 0, .int 0, .int 0, .int 0, .int 0, .int 0, .int 0, .int 0, .ref v0, .ref v1, .ref v2, .ref v3, .ref v4, .ref v5, .ref v6, .ref v7, .ref v8, .ref v9]))]) := by
  refine Ct.of (by decide) (Nat.le_of_ble_eq_true rfl) ?_
  intro p e s m below meth c A ls FX hP hD hS hl
  obtain ⟨FC, hr, hlk, hKn, hA, hnm⟩ := id FX
  have FC : CallFix p m c cX11_rest 5 s _ BIG RX11 := FC
  obtain ⟨hx, hb, hml, hown, hB⟩ := id FC
  have hl : lv_has ls 5 [(0, .ref h0), (1, .int p1)] := hl
  refine lv_aload_n hx hb dX11_rest_0 rfl (lv_at hl 0 rfl) ?_
  refine g_get (C := RX11) (T := TX11) (N := 11) (ci := 11) (v := .ref h1) FC hKn hP i_X11 0 rfl rfl 1 (by decide) b_10 rfl dX11_rest_1 ?_
  refine lv_iload_n hx hb dX11_rest_4 rfl (lv_at hl 1 rfl) ?_
  refine call_VN (As := [.int p1]) (rest := []) (wr := [(h0, .inr (11, [.ref w0, .ref h1, .ref w2, .ref w3, .ref w4, .ref w5, .ref w6, .ref w7, .ref w8, .ref w9, .ref w10]))]) FC hKn (c_X0_hasHearer l g h1 v0 v1 v2 v3 v4 v5 v6 v7 v8 v9 p1) m_yX0_hasHearer b_12 (ci := 0) rfl rfl rfl hP hD hS hA [1] [0] rfl (by decide) rfl (by decide) (by decide) rfl hl.1 rfl (Nat.le_of_ble_eq_true rfl) dX11_rest_5 ⟨(Nat.le_of_ble_eq_true rfl), (Nat.le_of_ble_eq_true rfl)⟩ ⟨(Nat.le_of_ble_eq_true rfl), (Nat.le_of_ble_eq_true rfl)⟩ (fun u1 H locs _ hP hD hS => ?_)
  have hP : va_P g.1 vwCl [(h0, .inr (11, [.ref w0, .ref h1, .ref w2, .ref w3, .ref w4, .ref w5, .ref w6, .ref w7, .ref w8, .ref w9, .ref w10])), (h1, .inr (0, [.int 0, .int 0, .int 0, .int 0, .int 0, .int 0, .int 0, .int 0, .int 0, .int 0, .ref v0, .ref v1, .ref v2, .ref v3, .ref v4, .ref v5, .ref v6, .ref v7, .ref v8, .ref v9]))] H := hP
  have hD : va_D A [(h0, .inr (11, [.ref w0, .ref h1, .ref w2, .ref w3, .ref w4, .ref w5, .ref w6, .ref w7, .ref w8, .ref w9, .ref w10])), (h1, .inr (0, [.int 0, .int 0, .int 0, .int 0, .int 0, .int 0, .int 0, .int 0, .int 0, .int 0, .ref v0, .ref v1, .ref v2, .ref v3, .ref v4, .ref v5, .ref v6, .ref v7, .ref v8, .ref v9]))] := hD
  refine W.eq (g2 := F0 m 8 ls [.int 0]) rfl ?_
  refine lv_if_ne (tgt := 14) hx hb dX11_rest_8 (by decide) (fun h => absurd h (by decide)) (fun _ => ?_)
  refine lv_bipush (v := -2) hx hb dX11_rest_11 (by decide) ?_
  exact rt_i FX () rfl trivial (hP.sub [0, 1] rfl) (hD.sub [0, 1] (by decide) rfl) hS (Nat.le_of_ble_eq_true rfl) (Nat.le_of_ble_eq_true rfl) dX11_rest_13
set_option maxRecDepth 100000 in
set_option maxHeartbeats 4000000 in
theorem c_X11_least (l : Launch) (g : GG) (h0 : Nat) (h1 : Nat) (w0 : Nat) (w2 : Nat) (w3 : Nat) (w4 : Nat) (w5 : Nat) (w6 : Nat) (w7 : Nat) (w8 : Nat) (w9 : Nat) (w10 : Nat) (v0 : Nat) (v1 : Nat) (v2 : Nat) (v3 : Nat) (v4 : Nat) (v5 : Nat) (v6 : Nat) (v7 : Nat) (v8 : Nat) (v9 : Nat) (p1 : Int32) : Ct l g yX11_least cX11_least 2 (some .int) { frames := 1, cells := 0, slots := 0, locals := 21 } [.ref h0, .int p1] [(h0, .inr (11, [.ref w0, .ref h1, .ref w2, .ref w3, .ref w4, .ref w5, .ref w6, .ref w7, .ref w8, .ref w9, .ref w10])), (h1, .inr (0, [.int 0, .int 0, .int 0, .int 0, .int 0, .int 0, .int 0, .int 0, .int 0, .int 0, .ref v0, .ref v1, .ref v2, .ref v3, .ref v4, .ref v5, .ref v6, .ref v7, .ref v8, .ref v9]))] (S := Unit) (fun _ => some (.int (-2))) (fun _ => True) (fun u => [(h0, .inr (11, [.ref w0, .ref h1, .ref w2, .ref w3, .ref w4, .ref w5, .ref w6, .ref w7, .ref w8, .ref w9, .ref w10])), (h1, .inr (0, [.int 0, .int 0, .int 0, .int 0, .int 0, .int 0, .int 0, .int 0, .int 0, .int 0, .ref v0, .ref v1, .ref v2, .ref v3, .ref v4, .ref v5, .ref v6, .ref v7, .ref v8, .ref v9]))]) := by
  refine Ct.of (by decide) (Nat.le_of_ble_eq_true rfl) ?_
  intro p e s m below meth c A ls FX hP hD hS hl
  obtain ⟨FC, hr, hlk, hKn, hA, hnm⟩ := id FX
  have FC : CallFix p m c cX11_least 2 s _ BIG RX11 := FC
  obtain ⟨hx, hb, hml, hown, hB⟩ := id FC
  have hl : lv_has ls 2 [(0, .ref h0), (1, .int p1)] := hl
  refine lv_aload_n hx hb dX11_least_0 rfl (lv_at hl 0 rfl) ?_
  refine g_get (C := RX11) (T := TX11) (N := 11) (ci := 11) (v := .ref h1) FC hKn hP i_X11 0 rfl rfl 1 (by decide) b_10 rfl dX11_least_1 ?_
  refine lv_iload_n hx hb dX11_least_4 rfl (lv_at hl 1 rfl) ?_
  refine call_VN (As := [.int p1]) (rest := []) (wr := [(h0, .inr (11, [.ref w0, .ref h1, .ref w2, .ref w3, .ref w4, .ref w5, .ref w6, .ref w7, .ref w8, .ref w9, .ref w10]))]) FC hKn (c_X0_hasHearer l g h1 v0 v1 v2 v3 v4 v5 v6 v7 v8 v9 p1) m_yX0_hasHearer b_12 (ci := 0) rfl rfl rfl hP hD hS hA [1] [0] rfl (by decide) rfl (by decide) (by decide) rfl hl.1 rfl (Nat.le_of_ble_eq_true rfl) dX11_least_5 ⟨(Nat.le_of_ble_eq_true rfl), (Nat.le_of_ble_eq_true rfl)⟩ ⟨(Nat.le_of_ble_eq_true rfl), (Nat.le_of_ble_eq_true rfl)⟩ (fun u1 H locs _ hP hD hS => ?_)
  have hP : va_P g.1 vwCl [(h0, .inr (11, [.ref w0, .ref h1, .ref w2, .ref w3, .ref w4, .ref w5, .ref w6, .ref w7, .ref w8, .ref w9, .ref w10])), (h1, .inr (0, [.int 0, .int 0, .int 0, .int 0, .int 0, .int 0, .int 0, .int 0, .int 0, .int 0, .ref v0, .ref v1, .ref v2, .ref v3, .ref v4, .ref v5, .ref v6, .ref v7, .ref v8, .ref v9]))] H := hP
  have hD : va_D A [(h0, .inr (11, [.ref w0, .ref h1, .ref w2, .ref w3, .ref w4, .ref w5, .ref w6, .ref w7, .ref w8, .ref w9, .ref w10])), (h1, .inr (0, [.int 0, .int 0, .int 0, .int 0, .int 0, .int 0, .int 0, .int 0, .int 0, .int 0, .ref v0, .ref v1, .ref v2, .ref v3, .ref v4, .ref v5, .ref v6, .ref v7, .ref v8, .ref v9]))] := hD
  refine W.eq (g2 := F0 m 8 ls [.int 0]) rfl ?_
  refine lv_if_eq (tgt := 21) hx hb dX11_least_8 (by decide) (fun _ => ?_) (fun h => absurd h (by decide))
  refine lv_bipush (v := -2) hx hb dX11_least_21 (by decide) ?_
  exact rt_i FX () rfl trivial (hP.sub [0, 1] rfl) (hD.sub [0, 1] (by decide) rfl) hS (Nat.le_of_ble_eq_true rfl) (Nat.le_of_ble_eq_true rfl) dX11_least_23
set_option maxRecDepth 100000 in
set_option maxHeartbeats 4000000 in
theorem c_X11_step (l : Launch) (g : GG) (h0 : Nat) (h1 : Nat) (w0 : Nat) (w2 : Nat) (w3 : Nat) (w4 : Nat) (w5 : Nat) (w6 : Nat) (w7 : Nat) (w8 : Nat) (w9 : Nat) (w10 : Nat) (v0 : Nat) (v1 : Nat) (v2 : Nat) (v3 : Nat) (v4 : Nat) (v5 : Nat) (v6 : Nat) (v7 : Nat) (v8 : Nat) (v9 : Nat) (p1 : Int32) (p2 : Int32) : Ct l g yX11_step cX11_step 3 (some .int) { frames := 2, cells := 0, slots := 0, locals := 45 } [.ref h0, .int p1, .int p2] [(h0, .inr (11, [.ref w0, .ref h1, .ref w2, .ref w3, .ref w4, .ref w5, .ref w6, .ref w7, .ref w8, .ref w9, .ref w10])), (h1, .inr (0, [.int 0, .int 0, .int 0, .int 0, .int 0, .int 0, .int 0, .int 0, .int 0, .int 0, .ref v0, .ref v1, .ref v2, .ref v3, .ref v4, .ref v5, .ref v6, .ref v7, .ref v8, .ref v9]))] (S := Unit) (fun _ => some (.int (-2))) (fun _ => True) (fun u => [(h0, .inr (11, [.ref w0, .ref h1, .ref w2, .ref w3, .ref w4, .ref w5, .ref w6, .ref w7, .ref w8, .ref w9, .ref w10])), (h1, .inr (0, [.int 0, .int 0, .int 0, .int 0, .int 0, .int 0, .int 0, .int 0, .int 0, .int 0, .ref v0, .ref v1, .ref v2, .ref v3, .ref v4, .ref v5, .ref v6, .ref v7, .ref v8, .ref v9]))]) := by
  refine Ct.of (by decide) (Nat.le_of_ble_eq_true rfl) ?_
  intro p e s m below meth c A ls FX hP hD hS hl
  obtain ⟨FC, hr, hlk, hKn, hA, hnm⟩ := id FX
  have FC : CallFix p m c cX11_step 3 s _ BIG RX11 := FC
  obtain ⟨hx, hb, hml, hown, hB⟩ := id FC
  have hl : lv_has ls 3 [(0, .ref h0), (1, .int p1), (2, .int p2)] := hl
  refine lv_aload_n hx hb dX11_step_0 rfl (lv_at hl 0 rfl) ?_
  refine lv_iload_n hx hb dX11_step_1 rfl (lv_at hl 1 rfl) ?_
  refine lv_iload_n hx hb dX11_step_2 rfl (lv_at hl 2 rfl) ?_
  refine lv_iconst (v := 0) hx hb dX11_step_3 (by decide) ?_
  refine lv_iconst (v := 0) hx hb dX11_step_4 (by decide) ?_
  refine call_V (As := [.int p1, .int p2, .int 0, .int 0]) (rest := []) (wr := []) FC hKn (c_X11_wordOfBest l g h0 h1 w0 w2 w3 w4 w5 w6 w7 w8 w9 w10 v0 v1 v2 v3 v4 v5 v6 v7 v8 v9 p1 p2 0 0) m_yX11_wordOfBest b_21 (ci := 11) rfl rfl rfl hP hD hS hA [0, 1] [] rfl (by decide) rfl (by decide) (by decide) rfl hl.1 rfl (Nat.le_of_ble_eq_true rfl) dX11_step_5 ⟨(Nat.le_of_ble_eq_true rfl), (Nat.le_of_ble_eq_true rfl)⟩ ⟨(Nat.le_of_ble_eq_true rfl), (Nat.le_of_ble_eq_true rfl)⟩ (fun u1 H locs _ hP hD hS => ?_)
  have hP : va_P g.1 vwCl [(h0, .inr (11, [.ref w0, .ref h1, .ref w2, .ref w3, .ref w4, .ref w5, .ref w6, .ref w7, .ref w8, .ref w9, .ref w10])), (h1, .inr (0, [.int 0, .int 0, .int 0, .int 0, .int 0, .int 0, .int 0, .int 0, .int 0, .int 0, .ref v0, .ref v1, .ref v2, .ref v3, .ref v4, .ref v5, .ref v6, .ref v7, .ref v8, .ref v9]))] H := hP
  have hD : va_D A [(h0, .inr (11, [.ref w0, .ref h1, .ref w2, .ref w3, .ref w4, .ref w5, .ref w6, .ref w7, .ref w8, .ref w9, .ref w10])), (h1, .inr (0, [.int 0, .int 0, .int 0, .int 0, .int 0, .int 0, .int 0, .int 0, .int 0, .int 0, .ref v0, .ref v1, .ref v2, .ref v3, .ref v4, .ref v5, .ref v6, .ref v7, .ref v8, .ref v9]))] := hD
  refine W.eq (g2 := F0 m 8 ls [.int (-2)]) rfl ?_
  exact rt_i FX () rfl trivial (hP.sub [0, 1] rfl) (hD.sub [0, 1] (by decide) rfl) hS (Nat.le_of_ble_eq_true rfl) (Nat.le_of_ble_eq_true rfl) dX11_step_8
set_option maxRecDepth 100000 in
set_option maxHeartbeats 4000000 in
theorem c_X11_truly (l : Launch) (g : GG) (h0 : Nat) (h1 : Nat) (w0 : Nat) (w2 : Nat) (w3 : Nat) (w4 : Nat) (w5 : Nat) (w6 : Nat) (w7 : Nat) (w8 : Nat) (w9 : Nat) (w10 : Nat) (v0 : Nat) (v1 : Nat) (v2 : Nat) (v3 : Nat) (v4 : Nat) (v5 : Nat) (v6 : Nat) (v7 : Nat) (v8 : Nat) (v9 : Nat) (p1 : Int32) : Ct l g yX11_truly cX11_truly 2 (some .int) { frames := 1, cells := 0, slots := 0, locals := 21 } [.ref h0, .int p1] [(h0, .inr (11, [.ref w0, .ref h1, .ref w2, .ref w3, .ref w4, .ref w5, .ref w6, .ref w7, .ref w8, .ref w9, .ref w10])), (h1, .inr (0, [.int 0, .int 0, .int 0, .int 0, .int 0, .int 0, .int 0, .int 0, .int 0, .int 0, .ref v0, .ref v1, .ref v2, .ref v3, .ref v4, .ref v5, .ref v6, .ref v7, .ref v8, .ref v9]))] (S := Unit) (fun _ => some (.int (-2))) (fun _ => True) (fun u => [(h0, .inr (11, [.ref w0, .ref h1, .ref w2, .ref w3, .ref w4, .ref w5, .ref w6, .ref w7, .ref w8, .ref w9, .ref w10])), (h1, .inr (0, [.int 0, .int 0, .int 0, .int 0, .int 0, .int 0, .int 0, .int 0, .int 0, .int 0, .ref v0, .ref v1, .ref v2, .ref v3, .ref v4, .ref v5, .ref v6, .ref v7, .ref v8, .ref v9]))]) := by
  refine Ct.of (by decide) (Nat.le_of_ble_eq_true rfl) ?_
  intro p e s m below meth c A ls FX hP hD hS hl
  obtain ⟨FC, hr, hlk, hKn, hA, hnm⟩ := id FX
  have FC : CallFix p m c cX11_truly 2 s _ BIG RX11 := FC
  obtain ⟨hx, hb, hml, hown, hB⟩ := id FC
  have hl : lv_has ls 2 [(0, .ref h0), (1, .int p1)] := hl
  refine lv_aload_n hx hb dX11_truly_0 rfl (lv_at hl 0 rfl) ?_
  refine g_get (C := RX11) (T := TX11) (N := 11) (ci := 11) (v := .ref h1) FC hKn hP i_X11 0 rfl rfl 1 (by decide) b_10 rfl dX11_truly_1 ?_
  refine lv_iload_n hx hb dX11_truly_4 rfl (lv_at hl 1 rfl) ?_
  refine call_VN (As := [.int p1]) (rest := []) (wr := [(h0, .inr (11, [.ref w0, .ref h1, .ref w2, .ref w3, .ref w4, .ref w5, .ref w6, .ref w7, .ref w8, .ref w9, .ref w10]))]) FC hKn (c_X0_hasHearer l g h1 v0 v1 v2 v3 v4 v5 v6 v7 v8 v9 p1) m_yX0_hasHearer b_12 (ci := 0) rfl rfl rfl hP hD hS hA [1] [0] rfl (by decide) rfl (by decide) (by decide) rfl hl.1 rfl (Nat.le_of_ble_eq_true rfl) dX11_truly_5 ⟨(Nat.le_of_ble_eq_true rfl), (Nat.le_of_ble_eq_true rfl)⟩ ⟨(Nat.le_of_ble_eq_true rfl), (Nat.le_of_ble_eq_true rfl)⟩ (fun u1 H locs _ hP hD hS => ?_)
  have hP : va_P g.1 vwCl [(h0, .inr (11, [.ref w0, .ref h1, .ref w2, .ref w3, .ref w4, .ref w5, .ref w6, .ref w7, .ref w8, .ref w9, .ref w10])), (h1, .inr (0, [.int 0, .int 0, .int 0, .int 0, .int 0, .int 0, .int 0, .int 0, .int 0, .int 0, .ref v0, .ref v1, .ref v2, .ref v3, .ref v4, .ref v5, .ref v6, .ref v7, .ref v8, .ref v9]))] H := hP
  have hD : va_D A [(h0, .inr (11, [.ref w0, .ref h1, .ref w2, .ref w3, .ref w4, .ref w5, .ref w6, .ref w7, .ref w8, .ref w9, .ref w10])), (h1, .inr (0, [.int 0, .int 0, .int 0, .int 0, .int 0, .int 0, .int 0, .int 0, .int 0, .int 0, .ref v0, .ref v1, .ref v2, .ref v3, .ref v4, .ref v5, .ref v6, .ref v7, .ref v8, .ref v9]))] := hD
  refine W.eq (g2 := F0 m 8 ls [.int 0]) rfl ?_
  refine lv_if_eq (tgt := 21) hx hb dX11_truly_8 (by decide) (fun _ => ?_) (fun h => absurd h (by decide))
  refine lv_bipush (v := -2) hx hb dX11_truly_21 (by decide) ?_
  exact rt_i FX () rfl trivial (hP.sub [0, 1] rfl) (hD.sub [0, 1] (by decide) rfl) hS (Nat.le_of_ble_eq_true rfl) (Nat.le_of_ble_eq_true rfl) dX11_truly_23
set_option maxRecDepth 100000 in
set_option maxHeartbeats 4000000 in
theorem c_X11_honest (l : Launch) (g : GG) (h0 : Nat) (h1 : Nat) (w0 : Nat) (w2 : Nat) (w3 : Nat) (w4 : Nat) (w5 : Nat) (w6 : Nat) (w7 : Nat) (w8 : Nat) (w9 : Nat) (w10 : Nat) (v0 : Nat) (v1 : Nat) (v2 : Nat) (v3 : Nat) (v4 : Nat) (v5 : Nat) (v6 : Nat) (v7 : Nat) (v8 : Nat) (v9 : Nat) (p1 : Int32) (p2 : Int32) : Ct l g yX11_honest cX11_honest 3 (some .int) { frames := 2, cells := 0, slots := 0, locals := 45 } [.ref h0, .int p1, .int p2] [(h0, .inr (11, [.ref w0, .ref h1, .ref w2, .ref w3, .ref w4, .ref w5, .ref w6, .ref w7, .ref w8, .ref w9, .ref w10])), (h1, .inr (0, [.int 0, .int 0, .int 0, .int 0, .int 0, .int 0, .int 0, .int 0, .int 0, .int 0, .ref v0, .ref v1, .ref v2, .ref v3, .ref v4, .ref v5, .ref v6, .ref v7, .ref v8, .ref v9]))] (S := Unit) (fun _ => some (.int (-2))) (fun _ => True) (fun u => [(h0, .inr (11, [.ref w0, .ref h1, .ref w2, .ref w3, .ref w4, .ref w5, .ref w6, .ref w7, .ref w8, .ref w9, .ref w10])), (h1, .inr (0, [.int 0, .int 0, .int 0, .int 0, .int 0, .int 0, .int 0, .int 0, .int 0, .int 0, .ref v0, .ref v1, .ref v2, .ref v3, .ref v4, .ref v5, .ref v6, .ref v7, .ref v8, .ref v9]))]) := by
  refine Ct.of (by decide) (Nat.le_of_ble_eq_true rfl) ?_
  intro p e s m below meth c A ls FX hP hD hS hl
  obtain ⟨FC, hr, hlk, hKn, hA, hnm⟩ := id FX
  have FC : CallFix p m c cX11_honest 3 s _ BIG RX11 := FC
  obtain ⟨hx, hb, hml, hown, hB⟩ := id FC
  have hl : lv_has ls 3 [(0, .ref h0), (1, .int p1), (2, .int p2)] := hl
  refine lv_aload_n hx hb dX11_honest_0 rfl (lv_at hl 0 rfl) ?_
  refine lv_iload_n hx hb dX11_honest_1 rfl (lv_at hl 1 rfl) ?_
  refine lv_iload_n hx hb dX11_honest_2 rfl (lv_at hl 2 rfl) ?_
  refine lv_iconst (v := 0) hx hb dX11_honest_3 (by decide) ?_
  refine lv_iconst (v := 1) hx hb dX11_honest_4 (by decide) ?_
  refine call_V (As := [.int p1, .int p2, .int 0, .int 1]) (rest := []) (wr := []) FC hKn (c_X11_wordOfBest l g h0 h1 w0 w2 w3 w4 w5 w6 w7 w8 w9 w10 v0 v1 v2 v3 v4 v5 v6 v7 v8 v9 p1 p2 0 1) m_yX11_wordOfBest b_21 (ci := 11) rfl rfl rfl hP hD hS hA [0, 1] [] rfl (by decide) rfl (by decide) (by decide) rfl hl.1 rfl (Nat.le_of_ble_eq_true rfl) dX11_honest_5 ⟨(Nat.le_of_ble_eq_true rfl), (Nat.le_of_ble_eq_true rfl)⟩ ⟨(Nat.le_of_ble_eq_true rfl), (Nat.le_of_ble_eq_true rfl)⟩ (fun u1 H locs _ hP hD hS => ?_)
  have hP : va_P g.1 vwCl [(h0, .inr (11, [.ref w0, .ref h1, .ref w2, .ref w3, .ref w4, .ref w5, .ref w6, .ref w7, .ref w8, .ref w9, .ref w10])), (h1, .inr (0, [.int 0, .int 0, .int 0, .int 0, .int 0, .int 0, .int 0, .int 0, .int 0, .int 0, .ref v0, .ref v1, .ref v2, .ref v3, .ref v4, .ref v5, .ref v6, .ref v7, .ref v8, .ref v9]))] H := hP
  have hD : va_D A [(h0, .inr (11, [.ref w0, .ref h1, .ref w2, .ref w3, .ref w4, .ref w5, .ref w6, .ref w7, .ref w8, .ref w9, .ref w10])), (h1, .inr (0, [.int 0, .int 0, .int 0, .int 0, .int 0, .int 0, .int 0, .int 0, .int 0, .int 0, .ref v0, .ref v1, .ref v2, .ref v3, .ref v4, .ref v5, .ref v6, .ref v7, .ref v8, .ref v9]))] := hD
  refine W.eq (g2 := F0 m 8 ls [.int (-2)]) rfl ?_
  exact rt_i FX () rfl trivial (hP.sub [0, 1] rfl) (hD.sub [0, 1] (by decide) rfl) hS (Nat.le_of_ble_eq_true rfl) (Nat.le_of_ble_eq_true rfl) dX11_honest_8
set_option maxRecDepth 100000 in
set_option maxHeartbeats 4000000 in
theorem c_X11_gentlest (l : Launch) (g : GG) (h0 : Nat) (h1 : Nat) (w0 : Nat) (w2 : Nat) (w3 : Nat) (w4 : Nat) (w5 : Nat) (w6 : Nat) (w7 : Nat) (w8 : Nat) (w9 : Nat) (w10 : Nat) (v0 : Nat) (v1 : Nat) (v2 : Nat) (v3 : Nat) (v4 : Nat) (v5 : Nat) (v6 : Nat) (v7 : Nat) (v8 : Nat) (v9 : Nat) (p1 : Int32) : Ct l g yX11_gentlest cX11_gentlest 2 (some .int) { frames := 1, cells := 0, slots := 0, locals := 21 } [.ref h0, .int p1] [(h0, .inr (11, [.ref w0, .ref h1, .ref w2, .ref w3, .ref w4, .ref w5, .ref w6, .ref w7, .ref w8, .ref w9, .ref w10])), (h1, .inr (0, [.int 0, .int 0, .int 0, .int 0, .int 0, .int 0, .int 0, .int 0, .int 0, .int 0, .ref v0, .ref v1, .ref v2, .ref v3, .ref v4, .ref v5, .ref v6, .ref v7, .ref v8, .ref v9]))] (S := Unit) (fun _ => some (.int (-2))) (fun _ => True) (fun u => [(h0, .inr (11, [.ref w0, .ref h1, .ref w2, .ref w3, .ref w4, .ref w5, .ref w6, .ref w7, .ref w8, .ref w9, .ref w10])), (h1, .inr (0, [.int 0, .int 0, .int 0, .int 0, .int 0, .int 0, .int 0, .int 0, .int 0, .int 0, .ref v0, .ref v1, .ref v2, .ref v3, .ref v4, .ref v5, .ref v6, .ref v7, .ref v8, .ref v9]))]) := by
  refine Ct.of (by decide) (Nat.le_of_ble_eq_true rfl) ?_
  intro p e s m below meth c A ls FX hP hD hS hl
  obtain ⟨FC, hr, hlk, hKn, hA, hnm⟩ := id FX
  have FC : CallFix p m c cX11_gentlest 2 s _ BIG RX11 := FC
  obtain ⟨hx, hb, hml, hown, hB⟩ := id FC
  have hl : lv_has ls 2 [(0, .ref h0), (1, .int p1)] := hl
  refine lv_aload_n hx hb dX11_gentlest_0 rfl (lv_at hl 0 rfl) ?_
  refine g_get (C := RX11) (T := TX11) (N := 11) (ci := 11) (v := .ref h1) FC hKn hP i_X11 0 rfl rfl 1 (by decide) b_10 rfl dX11_gentlest_1 ?_
  refine lv_iload_n hx hb dX11_gentlest_4 rfl (lv_at hl 1 rfl) ?_
  refine call_VN (As := [.int p1]) (rest := []) (wr := [(h0, .inr (11, [.ref w0, .ref h1, .ref w2, .ref w3, .ref w4, .ref w5, .ref w6, .ref w7, .ref w8, .ref w9, .ref w10]))]) FC hKn (c_X0_hasHearer l g h1 v0 v1 v2 v3 v4 v5 v6 v7 v8 v9 p1) m_yX0_hasHearer b_12 (ci := 0) rfl rfl rfl hP hD hS hA [1] [0] rfl (by decide) rfl (by decide) (by decide) rfl hl.1 rfl (Nat.le_of_ble_eq_true rfl) dX11_gentlest_5 ⟨(Nat.le_of_ble_eq_true rfl), (Nat.le_of_ble_eq_true rfl)⟩ ⟨(Nat.le_of_ble_eq_true rfl), (Nat.le_of_ble_eq_true rfl)⟩ (fun u1 H locs _ hP hD hS => ?_)
  have hP : va_P g.1 vwCl [(h0, .inr (11, [.ref w0, .ref h1, .ref w2, .ref w3, .ref w4, .ref w5, .ref w6, .ref w7, .ref w8, .ref w9, .ref w10])), (h1, .inr (0, [.int 0, .int 0, .int 0, .int 0, .int 0, .int 0, .int 0, .int 0, .int 0, .int 0, .ref v0, .ref v1, .ref v2, .ref v3, .ref v4, .ref v5, .ref v6, .ref v7, .ref v8, .ref v9]))] H := hP
  have hD : va_D A [(h0, .inr (11, [.ref w0, .ref h1, .ref w2, .ref w3, .ref w4, .ref w5, .ref w6, .ref w7, .ref w8, .ref w9, .ref w10])), (h1, .inr (0, [.int 0, .int 0, .int 0, .int 0, .int 0, .int 0, .int 0, .int 0, .int 0, .int 0, .ref v0, .ref v1, .ref v2, .ref v3, .ref v4, .ref v5, .ref v6, .ref v7, .ref v8, .ref v9]))] := hD
  refine W.eq (g2 := F0 m 8 ls [.int 0]) rfl ?_
  refine lv_if_eq (tgt := 21) hx hb dX11_gentlest_8 (by decide) (fun _ => ?_) (fun h => absurd h (by decide))
  refine lv_bipush (v := -2) hx hb dX11_gentlest_21 (by decide) ?_
  exact rt_i FX () rfl trivial (hP.sub [0, 1] rfl) (hD.sub [0, 1] (by decide) rfl) hS (Nat.le_of_ble_eq_true rfl) (Nat.le_of_ble_eq_true rfl) dX11_gentlest_23
set_option maxRecDepth 100000 in
set_option maxHeartbeats 4000000 in
theorem c_X11_gently (l : Launch) (g : GG) (h0 : Nat) (h1 : Nat) (w0 : Nat) (w2 : Nat) (w3 : Nat) (w4 : Nat) (w5 : Nat) (w6 : Nat) (w7 : Nat) (w8 : Nat) (w9 : Nat) (w10 : Nat) (v0 : Nat) (v1 : Nat) (v2 : Nat) (v3 : Nat) (v4 : Nat) (v5 : Nat) (v6 : Nat) (v7 : Nat) (v8 : Nat) (v9 : Nat) (p1 : Int32) (p2 : Int32) : Ct l g yX11_gently cX11_gently 3 (some .int) { frames := 2, cells := 0, slots := 0, locals := 45 } [.ref h0, .int p1, .int p2] [(h0, .inr (11, [.ref w0, .ref h1, .ref w2, .ref w3, .ref w4, .ref w5, .ref w6, .ref w7, .ref w8, .ref w9, .ref w10])), (h1, .inr (0, [.int 0, .int 0, .int 0, .int 0, .int 0, .int 0, .int 0, .int 0, .int 0, .int 0, .ref v0, .ref v1, .ref v2, .ref v3, .ref v4, .ref v5, .ref v6, .ref v7, .ref v8, .ref v9]))] (S := Unit) (fun _ => some (.int (-2))) (fun _ => True) (fun u => [(h0, .inr (11, [.ref w0, .ref h1, .ref w2, .ref w3, .ref w4, .ref w5, .ref w6, .ref w7, .ref w8, .ref w9, .ref w10])), (h1, .inr (0, [.int 0, .int 0, .int 0, .int 0, .int 0, .int 0, .int 0, .int 0, .int 0, .int 0, .ref v0, .ref v1, .ref v2, .ref v3, .ref v4, .ref v5, .ref v6, .ref v7, .ref v8, .ref v9]))]) := by
  refine Ct.of (by decide) (Nat.le_of_ble_eq_true rfl) ?_
  intro p e s m below meth c A ls FX hP hD hS hl
  obtain ⟨FC, hr, hlk, hKn, hA, hnm⟩ := id FX
  have FC : CallFix p m c cX11_gently 3 s _ BIG RX11 := FC
  obtain ⟨hx, hb, hml, hown, hB⟩ := id FC
  have hl : lv_has ls 3 [(0, .ref h0), (1, .int p1), (2, .int p2)] := hl
  refine lv_aload_n hx hb dX11_gently_0 rfl (lv_at hl 0 rfl) ?_
  refine lv_iload_n hx hb dX11_gently_1 rfl (lv_at hl 1 rfl) ?_
  refine lv_iload_n hx hb dX11_gently_2 rfl (lv_at hl 2 rfl) ?_
  refine lv_iconst (v := 1) hx hb dX11_gently_3 (by decide) ?_
  refine lv_iconst (v := 0) hx hb dX11_gently_4 (by decide) ?_
  refine call_V (As := [.int p1, .int p2, .int 1, .int 0]) (rest := []) (wr := []) FC hKn (c_X11_wordOfBest l g h0 h1 w0 w2 w3 w4 w5 w6 w7 w8 w9 w10 v0 v1 v2 v3 v4 v5 v6 v7 v8 v9 p1 p2 1 0) m_yX11_wordOfBest b_21 (ci := 11) rfl rfl rfl hP hD hS hA [0, 1] [] rfl (by decide) rfl (by decide) (by decide) rfl hl.1 rfl (Nat.le_of_ble_eq_true rfl) dX11_gently_5 ⟨(Nat.le_of_ble_eq_true rfl), (Nat.le_of_ble_eq_true rfl)⟩ ⟨(Nat.le_of_ble_eq_true rfl), (Nat.le_of_ble_eq_true rfl)⟩ (fun u1 H locs _ hP hD hS => ?_)
  have hP : va_P g.1 vwCl [(h0, .inr (11, [.ref w0, .ref h1, .ref w2, .ref w3, .ref w4, .ref w5, .ref w6, .ref w7, .ref w8, .ref w9, .ref w10])), (h1, .inr (0, [.int 0, .int 0, .int 0, .int 0, .int 0, .int 0, .int 0, .int 0, .int 0, .int 0, .ref v0, .ref v1, .ref v2, .ref v3, .ref v4, .ref v5, .ref v6, .ref v7, .ref v8, .ref v9]))] H := hP
  have hD : va_D A [(h0, .inr (11, [.ref w0, .ref h1, .ref w2, .ref w3, .ref w4, .ref w5, .ref w6, .ref w7, .ref w8, .ref w9, .ref w10])), (h1, .inr (0, [.int 0, .int 0, .int 0, .int 0, .int 0, .int 0, .int 0, .int 0, .int 0, .int 0, .ref v0, .ref v1, .ref v2, .ref v3, .ref v4, .ref v5, .ref v6, .ref v7, .ref v8, .ref v9]))] := hD
  refine W.eq (g2 := F0 m 8 ls [.int (-2)]) rfl ?_
  exact rt_i FX () rfl trivial (hP.sub [0, 1] rfl) (hD.sub [0, 1] (by decide) rfl) hS (Nat.le_of_ble_eq_true rfl) (Nat.le_of_ble_eq_true rfl) dX11_gently_8
set_option maxRecDepth 100000 in
set_option maxHeartbeats 4000000 in
theorem c_X11_tender (l : Launch) (g : GG) (h0 : Nat) (h1 : Nat) (w0 : Nat) (w2 : Nat) (w3 : Nat) (w4 : Nat) (w5 : Nat) (w6 : Nat) (w7 : Nat) (w8 : Nat) (w9 : Nat) (w10 : Nat) (v0 : Nat) (v1 : Nat) (v2 : Nat) (v3 : Nat) (v4 : Nat) (v5 : Nat) (v6 : Nat) (v7 : Nat) (v8 : Nat) (v9 : Nat) (p1 : Int32) : Ct l g yX11_tender cX11_tender 2 (some .int) { frames := 1, cells := 0, slots := 0, locals := 21 } [.ref h0, .int p1] [(h0, .inr (11, [.ref w0, .ref h1, .ref w2, .ref w3, .ref w4, .ref w5, .ref w6, .ref w7, .ref w8, .ref w9, .ref w10])), (h1, .inr (0, [.int 0, .int 0, .int 0, .int 0, .int 0, .int 0, .int 0, .int 0, .int 0, .int 0, .ref v0, .ref v1, .ref v2, .ref v3, .ref v4, .ref v5, .ref v6, .ref v7, .ref v8, .ref v9]))] (S := Unit) (fun _ => some (.int (-2))) (fun _ => True) (fun u => [(h0, .inr (11, [.ref w0, .ref h1, .ref w2, .ref w3, .ref w4, .ref w5, .ref w6, .ref w7, .ref w8, .ref w9, .ref w10])), (h1, .inr (0, [.int 0, .int 0, .int 0, .int 0, .int 0, .int 0, .int 0, .int 0, .int 0, .int 0, .ref v0, .ref v1, .ref v2, .ref v3, .ref v4, .ref v5, .ref v6, .ref v7, .ref v8, .ref v9]))]) := by
  refine Ct.of (by decide) (Nat.le_of_ble_eq_true rfl) ?_
  intro p e s m below meth c A ls FX hP hD hS hl
  obtain ⟨FC, hr, hlk, hKn, hA, hnm⟩ := id FX
  have FC : CallFix p m c cX11_tender 2 s _ BIG RX11 := FC
  obtain ⟨hx, hb, hml, hown, hB⟩ := id FC
  have hl : lv_has ls 2 [(0, .ref h0), (1, .int p1)] := hl
  refine lv_aload_n hx hb dX11_tender_0 rfl (lv_at hl 0 rfl) ?_
  refine g_get (C := RX11) (T := TX11) (N := 11) (ci := 11) (v := .ref h1) FC hKn hP i_X11 0 rfl rfl 1 (by decide) b_10 rfl dX11_tender_1 ?_
  refine lv_iload_n hx hb dX11_tender_4 rfl (lv_at hl 1 rfl) ?_
  refine call_VN (As := [.int p1]) (rest := []) (wr := [(h0, .inr (11, [.ref w0, .ref h1, .ref w2, .ref w3, .ref w4, .ref w5, .ref w6, .ref w7, .ref w8, .ref w9, .ref w10]))]) FC hKn (c_X0_hasHearer l g h1 v0 v1 v2 v3 v4 v5 v6 v7 v8 v9 p1) m_yX0_hasHearer b_12 (ci := 0) rfl rfl rfl hP hD hS hA [1] [0] rfl (by decide) rfl (by decide) (by decide) rfl hl.1 rfl (Nat.le_of_ble_eq_true rfl) dX11_tender_5 ⟨(Nat.le_of_ble_eq_true rfl), (Nat.le_of_ble_eq_true rfl)⟩ ⟨(Nat.le_of_ble_eq_true rfl), (Nat.le_of_ble_eq_true rfl)⟩ (fun u1 H locs _ hP hD hS => ?_)
  have hP : va_P g.1 vwCl [(h0, .inr (11, [.ref w0, .ref h1, .ref w2, .ref w3, .ref w4, .ref w5, .ref w6, .ref w7, .ref w8, .ref w9, .ref w10])), (h1, .inr (0, [.int 0, .int 0, .int 0, .int 0, .int 0, .int 0, .int 0, .int 0, .int 0, .int 0, .ref v0, .ref v1, .ref v2, .ref v3, .ref v4, .ref v5, .ref v6, .ref v7, .ref v8, .ref v9]))] H := hP
  have hD : va_D A [(h0, .inr (11, [.ref w0, .ref h1, .ref w2, .ref w3, .ref w4, .ref w5, .ref w6, .ref w7, .ref w8, .ref w9, .ref w10])), (h1, .inr (0, [.int 0, .int 0, .int 0, .int 0, .int 0, .int 0, .int 0, .int 0, .int 0, .int 0, .ref v0, .ref v1, .ref v2, .ref v3, .ref v4, .ref v5, .ref v6, .ref v7, .ref v8, .ref v9]))] := hD
  refine W.eq (g2 := F0 m 8 ls [.int 0]) rfl ?_
  refine lv_if_eq (tgt := 21) hx hb dX11_tender_8 (by decide) (fun _ => ?_) (fun h => absurd h (by decide))
  refine lv_bipush (v := -2) hx hb dX11_tender_21 (by decide) ?_
  exact rt_i FX () rfl trivial (hP.sub [0, 1] rfl) (hD.sub [0, 1] (by decide) rfl) hS (Nat.le_of_ble_eq_true rfl) (Nat.le_of_ble_eq_true rfl) dX11_tender_23
set_option maxRecDepth 100000 in
set_option maxHeartbeats 4000000 in
theorem c_X11_tenderly (l : Launch) (g : GG) (h0 : Nat) (h1 : Nat) (w0 : Nat) (w2 : Nat) (w3 : Nat) (w4 : Nat) (w5 : Nat) (w6 : Nat) (w7 : Nat) (w8 : Nat) (w9 : Nat) (w10 : Nat) (v0 : Nat) (v1 : Nat) (v2 : Nat) (v3 : Nat) (v4 : Nat) (v5 : Nat) (v6 : Nat) (v7 : Nat) (v8 : Nat) (v9 : Nat) (p1 : Int32) (p2 : Int32) : Ct l g yX11_tenderly cX11_tenderly 3 (some .int) { frames := 2, cells := 0, slots := 0, locals := 45 } [.ref h0, .int p1, .int p2] [(h0, .inr (11, [.ref w0, .ref h1, .ref w2, .ref w3, .ref w4, .ref w5, .ref w6, .ref w7, .ref w8, .ref w9, .ref w10])), (h1, .inr (0, [.int 0, .int 0, .int 0, .int 0, .int 0, .int 0, .int 0, .int 0, .int 0, .int 0, .ref v0, .ref v1, .ref v2, .ref v3, .ref v4, .ref v5, .ref v6, .ref v7, .ref v8, .ref v9]))] (S := Unit) (fun _ => some (.int (-2))) (fun _ => True) (fun u => [(h0, .inr (11, [.ref w0, .ref h1, .ref w2, .ref w3, .ref w4, .ref w5, .ref w6, .ref w7, .ref w8, .ref w9, .ref w10])), (h1, .inr (0, [.int 0, .int 0, .int 0, .int 0, .int 0, .int 0, .int 0, .int 0, .int 0, .int 0, .ref v0, .ref v1, .ref v2, .ref v3, .ref v4, .ref v5, .ref v6, .ref v7, .ref v8, .ref v9]))]) := by
  refine Ct.of (by decide) (Nat.le_of_ble_eq_true rfl) ?_
  intro p e s m below meth c A ls FX hP hD hS hl
  obtain ⟨FC, hr, hlk, hKn, hA, hnm⟩ := id FX
  have FC : CallFix p m c cX11_tenderly 3 s _ BIG RX11 := FC
  obtain ⟨hx, hb, hml, hown, hB⟩ := id FC
  have hl : lv_has ls 3 [(0, .ref h0), (1, .int p1), (2, .int p2)] := hl
  refine lv_aload_n hx hb dX11_tenderly_0 rfl (lv_at hl 0 rfl) ?_
  refine lv_iload_n hx hb dX11_tenderly_1 rfl (lv_at hl 1 rfl) ?_
  refine lv_iload_n hx hb dX11_tenderly_2 rfl (lv_at hl 2 rfl) ?_
  refine lv_iconst (v := 1) hx hb dX11_tenderly_3 (by decide) ?_
  refine lv_iconst (v := 1) hx hb dX11_tenderly_4 (by decide) ?_
  refine call_V (As := [.int p1, .int p2, .int 1, .int 1]) (rest := []) (wr := []) FC hKn (c_X11_wordOfBest l g h0 h1 w0 w2 w3 w4 w5 w6 w7 w8 w9 w10 v0 v1 v2 v3 v4 v5 v6 v7 v8 v9 p1 p2 1 1) m_yX11_wordOfBest b_21 (ci := 11) rfl rfl rfl hP hD hS hA [0, 1] [] rfl (by decide) rfl (by decide) (by decide) rfl hl.1 rfl (Nat.le_of_ble_eq_true rfl) dX11_tenderly_5 ⟨(Nat.le_of_ble_eq_true rfl), (Nat.le_of_ble_eq_true rfl)⟩ ⟨(Nat.le_of_ble_eq_true rfl), (Nat.le_of_ble_eq_true rfl)⟩ (fun u1 H locs _ hP hD hS => ?_)
  have hP : va_P g.1 vwCl [(h0, .inr (11, [.ref w0, .ref h1, .ref w2, .ref w3, .ref w4, .ref w5, .ref w6, .ref w7, .ref w8, .ref w9, .ref w10])), (h1, .inr (0, [.int 0, .int 0, .int 0, .int 0, .int 0, .int 0, .int 0, .int 0, .int 0, .int 0, .ref v0, .ref v1, .ref v2, .ref v3, .ref v4, .ref v5, .ref v6, .ref v7, .ref v8, .ref v9]))] H := hP
  have hD : va_D A [(h0, .inr (11, [.ref w0, .ref h1, .ref w2, .ref w3, .ref w4, .ref w5, .ref w6, .ref w7, .ref w8, .ref w9, .ref w10])), (h1, .inr (0, [.int 0, .int 0, .int 0, .int 0, .int 0, .int 0, .int 0, .int 0, .int 0, .int 0, .ref v0, .ref v1, .ref v2, .ref v3, .ref v4, .ref v5, .ref v6, .ref v7, .ref v8, .ref v9]))] := hD
  refine W.eq (g2 := F0 m 8 ls [.int (-2)]) rfl ?_
  exact rt_i FX () rfl trivial (hP.sub [0, 1] rfl) (hD.sub [0, 1] (by decide) rfl) hS (Nat.le_of_ble_eq_true rfl) (Nat.le_of_ble_eq_true rfl) dX11_tenderly_8
set_option maxRecDepth 100000 in
set_option maxHeartbeats 4000000 in
theorem c_X11_hope (l : Launch) (g : GG) (h0 : Nat) (h1 : Nat) (w0 : Nat) (w2 : Nat) (w3 : Nat) (w4 : Nat) (w5 : Nat) (w6 : Nat) (w7 : Nat) (w8 : Nat) (w9 : Nat) (w10 : Nat) (v0 : Nat) (v1 : Nat) (v2 : Nat) (v3 : Nat) (v4 : Nat) (v5 : Nat) (v6 : Nat) (v7 : Nat) (v8 : Nat) (v9 : Nat) (p1 : Int32) (p2 : Int32) (p3 : Int32) (p4 : Int32) : Ct l g yX11_hope cX11_hope 6 (some .int) { frames := 1, cells := 0, slots := 0, locals := 21 } [.ref h0, .int p1, .int p2, .int p3, .int p4] [(h0, .inr (11, [.ref w0, .ref h1, .ref w2, .ref w3, .ref w4, .ref w5, .ref w6, .ref w7, .ref w8, .ref w9, .ref w10])), (h1, .inr (0, [.int 0, .int 0, .int 0, .int 0, .int 0, .int 0, .int 0, .int 0, .int 0, .int 0, .ref v0, .ref v1, .ref v2, .ref v3, .ref v4, .ref v5, .ref v6, .ref v7, .ref v8, .ref v9]))] (S := Unit) (fun _ => some (.int (-2))) (fun _ => True) (fun u => [(h0, .inr (11, [.ref w0, .ref h1, .ref w2, .ref w3, .ref w4, .ref w5, .ref w6, .ref w7, .ref w8, .ref w9, .ref w10])), (h1, .inr (0, [.int 0, .int 0, .int 0, .int 0, .int 0, .int 0, .int 0, .int 0, .int 0, .int 0, .ref v0, .ref v1, .ref v2, .ref v3, .ref v4, .ref v5, .ref v6, .ref v7, .ref v8, .ref v9]))]) := by
  refine Ct.of (by decide) (Nat.le_of_ble_eq_true rfl) ?_
  intro p e s m below meth c A ls FX hP hD hS hl
  obtain ⟨FC, hr, hlk, hKn, hA, hnm⟩ := id FX
  have FC : CallFix p m c cX11_hope 6 s _ BIG RX11 := FC
  obtain ⟨hx, hb, hml, hown, hB⟩ := id FC
  have hl : lv_has ls 6 [(0, .ref h0), (1, .int p1), (2, .int p2), (3, .int p3), (4, .int p4)] := hl
  refine lv_aload_n hx hb dX11_hope_0 rfl (lv_at hl 0 rfl) ?_
  refine g_get (C := RX11) (T := TX11) (N := 11) (ci := 11) (v := .ref h1) FC hKn hP i_X11 0 rfl rfl 1 (by decide) b_10 rfl dX11_hope_1 ?_
  refine lv_iload_n hx hb dX11_hope_4 rfl (lv_at hl 2 rfl) ?_
  refine call_VN (As := [.int p2]) (rest := []) (wr := [(h0, .inr (11, [.ref w0, .ref h1, .ref w2, .ref w3, .ref w4, .ref w5, .ref w6, .ref w7, .ref w8, .ref w9, .ref w10]))]) FC hKn (c_X0_hasHearer l g h1 v0 v1 v2 v3 v4 v5 v6 v7 v8 v9 p2) m_yX0_hasHearer b_12 (ci := 0) rfl rfl rfl hP hD hS hA [1] [0] rfl (by decide) rfl (by decide) (by decide) rfl hl.1 rfl (Nat.le_of_ble_eq_true rfl) dX11_hope_5 ⟨(Nat.le_of_ble_eq_true rfl), (Nat.le_of_ble_eq_true rfl)⟩ ⟨(Nat.le_of_ble_eq_true rfl), (Nat.le_of_ble_eq_true rfl)⟩ (fun u1 H locs _ hP hD hS => ?_)
  have hP : va_P g.1 vwCl [(h0, .inr (11, [.ref w0, .ref h1, .ref w2, .ref w3, .ref w4, .ref w5, .ref w6, .ref w7, .ref w8, .ref w9, .ref w10])), (h1, .inr (0, [.int 0, .int 0, .int 0, .int 0, .int 0, .int 0, .int 0, .int 0, .int 0, .int 0, .ref v0, .ref v1, .ref v2, .ref v3, .ref v4, .ref v5, .ref v6, .ref v7, .ref v8, .ref v9]))] H := hP
  have hD : va_D A [(h0, .inr (11, [.ref w0, .ref h1, .ref w2, .ref w3, .ref w4, .ref w5, .ref w6, .ref w7, .ref w8, .ref w9, .ref w10])), (h1, .inr (0, [.int 0, .int 0, .int 0, .int 0, .int 0, .int 0, .int 0, .int 0, .int 0, .int 0, .ref v0, .ref v1, .ref v2, .ref v3, .ref v4, .ref v5, .ref v6, .ref v7, .ref v8, .ref v9]))] := hD
  refine W.eq (g2 := F0 m 8 ls [.int 0]) rfl ?_
  refine lv_if_eq (tgt := 33) hx hb dX11_hope_8 (by decide) (fun _ => ?_) (fun h => absurd h (by decide))
  refine lv_bipush (v := -2) hx hb dX11_hope_33 (by decide) ?_
  exact rt_i FX () rfl trivial (hP.sub [0, 1] rfl) (hD.sub [0, 1] (by decide) rfl) hS (Nat.le_of_ble_eq_true rfl) (Nat.le_of_ble_eq_true rfl) dX11_hope_35
set_option maxRecDepth 100000 in
set_option maxHeartbeats 4000000 in
theorem c_X11_fewest (l : Launch) (g : GG) (h0 : Nat) (h1 : Nat) (w0 : Nat) (w2 : Nat) (w3 : Nat) (w4 : Nat) (w5 : Nat) (w6 : Nat) (w7 : Nat) (w8 : Nat) (w9 : Nat) (w10 : Nat) (v0 : Nat) (v1 : Nat) (v2 : Nat) (v3 : Nat) (v4 : Nat) (v5 : Nat) (v6 : Nat) (v7 : Nat) (v8 : Nat) (v9 : Nat) : Ct l g yX11_fewest cX11_fewest 2 (some .int) { frames := 1, cells := 0, slots := 0, locals := 20 } [.ref h0] [(h0, .inr (11, [.ref w0, .ref h1, .ref w2, .ref w3, .ref w4, .ref w5, .ref w6, .ref w7, .ref w8, .ref w9, .ref w10])), (h1, .inr (0, [.int 0, .int 0, .int 0, .int 0, .int 0, .int 0, .int 0, .int 0, .int 0, .int 0, .ref v0, .ref v1, .ref v2, .ref v3, .ref v4, .ref v5, .ref v6, .ref v7, .ref v8, .ref v9]))] (S := Unit) (fun _ => some (.int (-2))) (fun _ => True) (fun u => [(h0, .inr (11, [.ref w0, .ref h1, .ref w2, .ref w3, .ref w4, .ref w5, .ref w6, .ref w7, .ref w8, .ref w9, .ref w10])), (h1, .inr (0, [.int 0, .int 0, .int 0, .int 0, .int 0, .int 0, .int 0, .int 0, .int 0, .int 0, .ref v0, .ref v1, .ref v2, .ref v3, .ref v4, .ref v5, .ref v6, .ref v7, .ref v8, .ref v9]))]) := by
  refine Ct.of (by decide) (Nat.le_of_ble_eq_true rfl) ?_
  intro p e s m below meth c A ls FX hP hD hS hl
  obtain ⟨FC, hr, hlk, hKn, hA, hnm⟩ := id FX
  have FC : CallFix p m c cX11_fewest 2 s _ BIG RX11 := FC
  obtain ⟨hx, hb, hml, hown, hB⟩ := id FC
  have hl : lv_has ls 2 [(0, .ref h0)] := hl
  refine lv_aload_n hx hb dX11_fewest_0 rfl (lv_at hl 0 rfl) ?_
  refine g_get (C := RX11) (T := TX11) (N := 11) (ci := 11) (v := .ref h1) FC hKn hP i_X11 0 rfl rfl 1 (by decide) b_10 rfl dX11_fewest_1 ?_
  refine call_VN (As := []) (rest := []) (wr := [(h0, .inr (11, [.ref w0, .ref h1, .ref w2, .ref w3, .ref w4, .ref w5, .ref w6, .ref w7, .ref w8, .ref w9, .ref w10]))]) FC hKn (c_X0_stands l g h1 v0 v1 v2 v3 v4 v5 v6 v7 v8 v9) m_yX0_stands b_11 (ci := 0) rfl rfl rfl hP hD hS hA [1] [0] rfl (by decide) rfl (by decide) (by decide) rfl hl.1 rfl (Nat.le_of_ble_eq_true rfl) dX11_fewest_4 ⟨(Nat.le_of_ble_eq_true rfl), (Nat.le_of_ble_eq_true rfl)⟩ ⟨(Nat.le_of_ble_eq_true rfl), (Nat.le_of_ble_eq_true rfl)⟩ (fun u1 H locs _ hP hD hS => ?_)
  have hP : va_P g.1 vwCl [(h0, .inr (11, [.ref w0, .ref h1, .ref w2, .ref w3, .ref w4, .ref w5, .ref w6, .ref w7, .ref w8, .ref w9, .ref w10])), (h1, .inr (0, [.int 0, .int 0, .int 0, .int 0, .int 0, .int 0, .int 0, .int 0, .int 0, .int 0, .ref v0, .ref v1, .ref v2, .ref v3, .ref v4, .ref v5, .ref v6, .ref v7, .ref v8, .ref v9]))] H := hP
  have hD : va_D A [(h0, .inr (11, [.ref w0, .ref h1, .ref w2, .ref w3, .ref w4, .ref w5, .ref w6, .ref w7, .ref w8, .ref w9, .ref w10])), (h1, .inr (0, [.int 0, .int 0, .int 0, .int 0, .int 0, .int 0, .int 0, .int 0, .int 0, .int 0, .ref v0, .ref v1, .ref v2, .ref v3, .ref v4, .ref v5, .ref v6, .ref v7, .ref v8, .ref v9]))] := hD
  refine W.eq (g2 := F0 m 7 ls [.int 0]) rfl ?_
  refine lv_if_ne (tgt := 13) hx hb dX11_fewest_7 (by decide) (fun h => absurd h (by decide)) (fun _ => ?_)
  refine lv_bipush (v := -2) hx hb dX11_fewest_10 (by decide) ?_
  exact rt_i FX () rfl trivial (hP.sub [0, 1] rfl) (hD.sub [0, 1] (by decide) rfl) hS (Nat.le_of_ble_eq_true rfl) (Nat.le_of_ble_eq_true rfl) dX11_fewest_12
set_option maxRecDepth 100000 in
set_option maxHeartbeats 4000000 in
theorem c_X11_once (l : Launch) (g : GG) (h0 : Nat) (h1 : Nat) (w0 : Nat) (w2 : Nat) (w3 : Nat) (w4 : Nat) (w5 : Nat) (w6 : Nat) (w7 : Nat) (w8 : Nat) (w9 : Nat) (w10 : Nat) (v0 : Nat) (v1 : Nat) (v2 : Nat) (v3 : Nat) (v4 : Nat) (v5 : Nat) (v6 : Nat) (v7 : Nat) (v8 : Nat) (v9 : Nat) (p1 : Int32) : Ct l g yX11_once cX11_once 2 (some .int) { frames := 1, cells := 0, slots := 0, locals := 21 } [.ref h0, .int p1] [(h0, .inr (11, [.ref w0, .ref h1, .ref w2, .ref w3, .ref w4, .ref w5, .ref w6, .ref w7, .ref w8, .ref w9, .ref w10])), (h1, .inr (0, [.int 0, .int 0, .int 0, .int 0, .int 0, .int 0, .int 0, .int 0, .int 0, .int 0, .ref v0, .ref v1, .ref v2, .ref v3, .ref v4, .ref v5, .ref v6, .ref v7, .ref v8, .ref v9]))] (S := Unit) (fun _ => some (.int (-2))) (fun _ => True) (fun u => [(h0, .inr (11, [.ref w0, .ref h1, .ref w2, .ref w3, .ref w4, .ref w5, .ref w6, .ref w7, .ref w8, .ref w9, .ref w10])), (h1, .inr (0, [.int 0, .int 0, .int 0, .int 0, .int 0, .int 0, .int 0, .int 0, .int 0, .int 0, .ref v0, .ref v1, .ref v2, .ref v3, .ref v4, .ref v5, .ref v6, .ref v7, .ref v8, .ref v9]))]) := by
  refine Ct.of (by decide) (Nat.le_of_ble_eq_true rfl) ?_
  intro p e s m below meth c A ls FX hP hD hS hl
  obtain ⟨FC, hr, hlk, hKn, hA, hnm⟩ := id FX
  have FC : CallFix p m c cX11_once 2 s _ BIG RX11 := FC
  obtain ⟨hx, hb, hml, hown, hB⟩ := id FC
  have hl : lv_has ls 2 [(0, .ref h0), (1, .int p1)] := hl
  refine lv_aload_n hx hb dX11_once_0 rfl (lv_at hl 0 rfl) ?_
  refine g_get (C := RX11) (T := TX11) (N := 11) (ci := 11) (v := .ref h1) FC hKn hP i_X11 0 rfl rfl 1 (by decide) b_10 rfl dX11_once_1 ?_
  refine lv_iload_n hx hb dX11_once_4 rfl (lv_at hl 1 rfl) ?_
  refine call_VN (As := [.int p1]) (rest := []) (wr := [(h0, .inr (11, [.ref w0, .ref h1, .ref w2, .ref w3, .ref w4, .ref w5, .ref w6, .ref w7, .ref w8, .ref w9, .ref w10]))]) FC hKn (c_X0_hasHearer l g h1 v0 v1 v2 v3 v4 v5 v6 v7 v8 v9 p1) m_yX0_hasHearer b_12 (ci := 0) rfl rfl rfl hP hD hS hA [1] [0] rfl (by decide) rfl (by decide) (by decide) rfl hl.1 rfl (Nat.le_of_ble_eq_true rfl) dX11_once_5 ⟨(Nat.le_of_ble_eq_true rfl), (Nat.le_of_ble_eq_true rfl)⟩ ⟨(Nat.le_of_ble_eq_true rfl), (Nat.le_of_ble_eq_true rfl)⟩ (fun u1 H locs _ hP hD hS => ?_)
  have hP : va_P g.1 vwCl [(h0, .inr (11, [.ref w0, .ref h1, .ref w2, .ref w3, .ref w4, .ref w5, .ref w6, .ref w7, .ref w8, .ref w9, .ref w10])), (h1, .inr (0, [.int 0, .int 0, .int 0, .int 0, .int 0, .int 0, .int 0, .int 0, .int 0, .int 0, .ref v0, .ref v1, .ref v2, .ref v3, .ref v4, .ref v5, .ref v6, .ref v7, .ref v8, .ref v9]))] H := hP
  have hD : va_D A [(h0, .inr (11, [.ref w0, .ref h1, .ref w2, .ref w3, .ref w4, .ref w5, .ref w6, .ref w7, .ref w8, .ref w9, .ref w10])), (h1, .inr (0, [.int 0, .int 0, .int 0, .int 0, .int 0, .int 0, .int 0, .int 0, .int 0, .int 0, .ref v0, .ref v1, .ref v2, .ref v3, .ref v4, .ref v5, .ref v6, .ref v7, .ref v8, .ref v9]))] := hD
  refine W.eq (g2 := F0 m 8 ls [.int 0]) rfl ?_
  refine lv_if_eq (tgt := 22) hx hb dX11_once_8 (by decide) (fun _ => ?_) (fun h => absurd h (by decide))
  refine lv_bipush (v := -2) hx hb dX11_once_22 (by decide) ?_
  exact rt_i FX () rfl trivial (hP.sub [0, 1] rfl) (hD.sub [0, 1] (by decide) rfl) hS (Nat.le_of_ble_eq_true rfl) (Nat.le_of_ble_eq_true rfl) dX11_once_24
set_option maxRecDepth 100000 in
set_option maxHeartbeats 4000000 in
theorem c_X11_late (l : Launch) (g : GG) (h0 : Nat) (h1 : Nat) (w0 : Nat) (w2 : Nat) (w3 : Nat) (w4 : Nat) (w5 : Nat) (w6 : Nat) (w7 : Nat) (w8 : Nat) (w9 : Nat) (w10 : Nat) (v0 : Nat) (v1 : Nat) (v2 : Nat) (v3 : Nat) (v4 : Nat) (v5 : Nat) (v6 : Nat) (v7 : Nat) (v8 : Nat) (v9 : Nat) (p1 : Int32) (p2 : Int32) : Ct l g yX11_late cX11_late 5 (some .int) { frames := 1, cells := 0, slots := 0, locals := 21 } [.ref h0, .int p1, .int p2] [(h0, .inr (11, [.ref w0, .ref h1, .ref w2, .ref w3, .ref w4, .ref w5, .ref w6, .ref w7, .ref w8, .ref w9, .ref w10])), (h1, .inr (0, [.int 0, .int 0, .int 0, .int 0, .int 0, .int 0, .int 0, .int 0, .int 0, .int 0, .ref v0, .ref v1, .ref v2, .ref v3, .ref v4, .ref v5, .ref v6, .ref v7, .ref v8, .ref v9]))] (S := Unit) (fun _ => some (.int (-2))) (fun _ => True) (fun u => [(h0, .inr (11, [.ref w0, .ref h1, .ref w2, .ref w3, .ref w4, .ref w5, .ref w6, .ref w7, .ref w8, .ref w9, .ref w10])), (h1, .inr (0, [.int 0, .int 0, .int 0, .int 0, .int 0, .int 0, .int 0, .int 0, .int 0, .int 0, .ref v0, .ref v1, .ref v2, .ref v3, .ref v4, .ref v5, .ref v6, .ref v7, .ref v8, .ref v9]))]) := by
  refine Ct.of (by decide) (Nat.le_of_ble_eq_true rfl) ?_
  intro p e s m below meth c A ls FX hP hD hS hl
  obtain ⟨FC, hr, hlk, hKn, hA, hnm⟩ := id FX
  have FC : CallFix p m c cX11_late 5 s _ BIG RX11 := FC
  obtain ⟨hx, hb, hml, hown, hB⟩ := id FC
  have hl : lv_has ls 5 [(0, .ref h0), (1, .int p1), (2, .int p2)] := hl
  refine lv_aload_n hx hb dX11_late_0 rfl (lv_at hl 0 rfl) ?_
  refine g_get (C := RX11) (T := TX11) (N := 11) (ci := 11) (v := .ref h1) FC hKn hP i_X11 0 rfl rfl 1 (by decide) b_10 rfl dX11_late_1 ?_
  refine lv_iload_n hx hb dX11_late_4 rfl (lv_at hl 1 rfl) ?_
  refine call_VN (As := [.int p1]) (rest := []) (wr := [(h0, .inr (11, [.ref w0, .ref h1, .ref w2, .ref w3, .ref w4, .ref w5, .ref w6, .ref w7, .ref w8, .ref w9, .ref w10]))]) FC hKn (c_X0_hasHearer l g h1 v0 v1 v2 v3 v4 v5 v6 v7 v8 v9 p1) m_yX0_hasHearer b_12 (ci := 0) rfl rfl rfl hP hD hS hA [1] [0] rfl (by decide) rfl (by decide) (by decide) rfl hl.1 rfl (Nat.le_of_ble_eq_true rfl) dX11_late_5 ⟨(Nat.le_of_ble_eq_true rfl), (Nat.le_of_ble_eq_true rfl)⟩ ⟨(Nat.le_of_ble_eq_true rfl), (Nat.le_of_ble_eq_true rfl)⟩ (fun u1 H locs _ hP hD hS => ?_)
  have hP : va_P g.1 vwCl [(h0, .inr (11, [.ref w0, .ref h1, .ref w2, .ref w3, .ref w4, .ref w5, .ref w6, .ref w7, .ref w8, .ref w9, .ref w10])), (h1, .inr (0, [.int 0, .int 0, .int 0, .int 0, .int 0, .int 0, .int 0, .int 0, .int 0, .int 0, .ref v0, .ref v1, .ref v2, .ref v3, .ref v4, .ref v5, .ref v6, .ref v7, .ref v8, .ref v9]))] H := hP
  have hD : va_D A [(h0, .inr (11, [.ref w0, .ref h1, .ref w2, .ref w3, .ref w4, .ref w5, .ref w6, .ref w7, .ref w8, .ref w9, .ref w10])), (h1, .inr (0, [.int 0, .int 0, .int 0, .int 0, .int 0, .int 0, .int 0, .int 0, .int 0, .int 0, .ref v0, .ref v1, .ref v2, .ref v3, .ref v4, .ref v5, .ref v6, .ref v7, .ref v8, .ref v9]))] := hD
  refine W.eq (g2 := F0 m 8 ls [.int 0]) rfl ?_
  refine lv_if_eq (tgt := 15) hx hb dX11_late_8 (by decide) (fun _ => ?_) (fun h => absurd h (by decide))
  refine lv_bipush (v := -2) hx hb dX11_late_15 (by decide) ?_
  exact rt_i FX () rfl trivial (hP.sub [0, 1] rfl) (hD.sub [0, 1] (by decide) rfl) hS (Nat.le_of_ble_eq_true rfl) (Nat.le_of_ble_eq_true rfl) dX11_late_17
set_option maxRecDepth 100000 in
set_option maxHeartbeats 4000000 in
theorem c_X11_calm (l : Launch) (g : GG) (h0 : Nat) (h1 : Nat) (w0 : Nat) (w2 : Nat) (w3 : Nat) (w4 : Nat) (w5 : Nat) (w6 : Nat) (w7 : Nat) (w8 : Nat) (w9 : Nat) (w10 : Nat) (v0 : Nat) (v1 : Nat) (v2 : Nat) (v3 : Nat) (v4 : Nat) (v5 : Nat) (v6 : Nat) (v7 : Nat) (v8 : Nat) (v9 : Nat) (p1 : Int32) (p2 : Int32) : Ct l g yX11_calm cX11_calm 5 (some .int) { frames := 1, cells := 0, slots := 0, locals := 21 } [.ref h0, .int p1, .int p2] [(h0, .inr (11, [.ref w0, .ref h1, .ref w2, .ref w3, .ref w4, .ref w5, .ref w6, .ref w7, .ref w8, .ref w9, .ref w10])), (h1, .inr (0, [.int 0, .int 0, .int 0, .int 0, .int 0, .int 0, .int 0, .int 0, .int 0, .int 0, .ref v0, .ref v1, .ref v2, .ref v3, .ref v4, .ref v5, .ref v6, .ref v7, .ref v8, .ref v9]))] (S := Unit) (fun _ => some (.int (-2))) (fun _ => True) (fun u => [(h0, .inr (11, [.ref w0, .ref h1, .ref w2, .ref w3, .ref w4, .ref w5, .ref w6, .ref w7, .ref w8, .ref w9, .ref w10])), (h1, .inr (0, [.int 0, .int 0, .int 0, .int 0, .int 0, .int 0, .int 0, .int 0, .int 0, .int 0, .ref v0, .ref v1, .ref v2, .ref v3, .ref v4, .ref v5, .ref v6, .ref v7, .ref v8, .ref v9]))]) := by
  refine Ct.of (by decide) (Nat.le_of_ble_eq_true rfl) ?_
  intro p e s m below meth c A ls FX hP hD hS hl
  obtain ⟨FC, hr, hlk, hKn, hA, hnm⟩ := id FX
  have FC : CallFix p m c cX11_calm 5 s _ BIG RX11 := FC
  obtain ⟨hx, hb, hml, hown, hB⟩ := id FC
  have hl : lv_has ls 5 [(0, .ref h0), (1, .int p1), (2, .int p2)] := hl
  refine lv_aload_n hx hb dX11_calm_0 rfl (lv_at hl 0 rfl) ?_
  refine g_get (C := RX11) (T := TX11) (N := 11) (ci := 11) (v := .ref h1) FC hKn hP i_X11 0 rfl rfl 1 (by decide) b_10 rfl dX11_calm_1 ?_
  refine lv_iload_n hx hb dX11_calm_4 rfl (lv_at hl 1 rfl) ?_
  refine call_VN (As := [.int p1]) (rest := []) (wr := [(h0, .inr (11, [.ref w0, .ref h1, .ref w2, .ref w3, .ref w4, .ref w5, .ref w6, .ref w7, .ref w8, .ref w9, .ref w10]))]) FC hKn (c_X0_hasHearer l g h1 v0 v1 v2 v3 v4 v5 v6 v7 v8 v9 p1) m_yX0_hasHearer b_12 (ci := 0) rfl rfl rfl hP hD hS hA [1] [0] rfl (by decide) rfl (by decide) (by decide) rfl hl.1 rfl (Nat.le_of_ble_eq_true rfl) dX11_calm_5 ⟨(Nat.le_of_ble_eq_true rfl), (Nat.le_of_ble_eq_true rfl)⟩ ⟨(Nat.le_of_ble_eq_true rfl), (Nat.le_of_ble_eq_true rfl)⟩ (fun u1 H locs _ hP hD hS => ?_)
  have hP : va_P g.1 vwCl [(h0, .inr (11, [.ref w0, .ref h1, .ref w2, .ref w3, .ref w4, .ref w5, .ref w6, .ref w7, .ref w8, .ref w9, .ref w10])), (h1, .inr (0, [.int 0, .int 0, .int 0, .int 0, .int 0, .int 0, .int 0, .int 0, .int 0, .int 0, .ref v0, .ref v1, .ref v2, .ref v3, .ref v4, .ref v5, .ref v6, .ref v7, .ref v8, .ref v9]))] H := hP
  have hD : va_D A [(h0, .inr (11, [.ref w0, .ref h1, .ref w2, .ref w3, .ref w4, .ref w5, .ref w6, .ref w7, .ref w8, .ref w9, .ref w10])), (h1, .inr (0, [.int 0, .int 0, .int 0, .int 0, .int 0, .int 0, .int 0, .int 0, .int 0, .int 0, .ref v0, .ref v1, .ref v2, .ref v3, .ref v4, .ref v5, .ref v6, .ref v7, .ref v8, .ref v9]))] := hD
  refine W.eq (g2 := F0 m 8 ls [.int 0]) rfl ?_
  refine lv_if_eq (tgt := 22) hx hb dX11_calm_8 (by decide) (fun _ => ?_) (fun h => absurd h (by decide))
  refine lv_bipush (v := -2) hx hb dX11_calm_22 (by decide) ?_
  exact rt_i FX () rfl trivial (hP.sub [0, 1] rfl) (hD.sub [0, 1] (by decide) rfl) hS (Nat.le_of_ble_eq_true rfl) (Nat.le_of_ble_eq_true rfl) dX11_calm_24
set_option maxRecDepth 100000 in
set_option maxHeartbeats 4000000 in
theorem c_X11_shock (l : Launch) (g : GG) (h0 : Nat) (h1 : Nat) (w0 : Nat) (w2 : Nat) (w3 : Nat) (w4 : Nat) (w5 : Nat) (w6 : Nat) (w7 : Nat) (w8 : Nat) (w9 : Nat) (w10 : Nat) (v0 : Nat) (v1 : Nat) (v2 : Nat) (v3 : Nat) (v4 : Nat) (v5 : Nat) (v6 : Nat) (v7 : Nat) (v8 : Nat) (v9 : Nat) (p1 : Int32) : Ct l g yX11_shock cX11_shock 6 (some .int) { frames := 1, cells := 0, slots := 0, locals := 21 } [.ref h0, .int p1] [(h0, .inr (11, [.ref w0, .ref h1, .ref w2, .ref w3, .ref w4, .ref w5, .ref w6, .ref w7, .ref w8, .ref w9, .ref w10])), (h1, .inr (0, [.int 0, .int 0, .int 0, .int 0, .int 0, .int 0, .int 0, .int 0, .int 0, .int 0, .ref v0, .ref v1, .ref v2, .ref v3, .ref v4, .ref v5, .ref v6, .ref v7, .ref v8, .ref v9]))] (S := Unit) (fun _ => some (.int (-2))) (fun _ => True) (fun u => [(h0, .inr (11, [.ref w0, .ref h1, .ref w2, .ref w3, .ref w4, .ref w5, .ref w6, .ref w7, .ref w8, .ref w9, .ref w10])), (h1, .inr (0, [.int 0, .int 0, .int 0, .int 0, .int 0, .int 0, .int 0, .int 0, .int 0, .int 0, .ref v0, .ref v1, .ref v2, .ref v3, .ref v4, .ref v5, .ref v6, .ref v7, .ref v8, .ref v9]))]) := by
  refine Ct.of (by decide) (Nat.le_of_ble_eq_true rfl) ?_
  intro p e s m below meth c A ls FX hP hD hS hl
  obtain ⟨FC, hr, hlk, hKn, hA, hnm⟩ := id FX
  have FC : CallFix p m c cX11_shock 6 s _ BIG RX11 := FC
  obtain ⟨hx, hb, hml, hown, hB⟩ := id FC
  have hl : lv_has ls 6 [(0, .ref h0), (1, .int p1)] := hl
  refine lv_aload_n hx hb dX11_shock_0 rfl (lv_at hl 0 rfl) ?_
  refine g_get (C := RX11) (T := TX11) (N := 11) (ci := 11) (v := .ref h1) FC hKn hP i_X11 0 rfl rfl 1 (by decide) b_10 rfl dX11_shock_1 ?_
  refine lv_iload_n hx hb dX11_shock_4 rfl (lv_at hl 1 rfl) ?_
  refine call_VN (As := [.int p1]) (rest := []) (wr := [(h0, .inr (11, [.ref w0, .ref h1, .ref w2, .ref w3, .ref w4, .ref w5, .ref w6, .ref w7, .ref w8, .ref w9, .ref w10]))]) FC hKn (c_X0_hasHearer l g h1 v0 v1 v2 v3 v4 v5 v6 v7 v8 v9 p1) m_yX0_hasHearer b_12 (ci := 0) rfl rfl rfl hP hD hS hA [1] [0] rfl (by decide) rfl (by decide) (by decide) rfl hl.1 rfl (Nat.le_of_ble_eq_true rfl) dX11_shock_5 ⟨(Nat.le_of_ble_eq_true rfl), (Nat.le_of_ble_eq_true rfl)⟩ ⟨(Nat.le_of_ble_eq_true rfl), (Nat.le_of_ble_eq_true rfl)⟩ (fun u1 H locs _ hP hD hS => ?_)
  have hP : va_P g.1 vwCl [(h0, .inr (11, [.ref w0, .ref h1, .ref w2, .ref w3, .ref w4, .ref w5, .ref w6, .ref w7, .ref w8, .ref w9, .ref w10])), (h1, .inr (0, [.int 0, .int 0, .int 0, .int 0, .int 0, .int 0, .int 0, .int 0, .int 0, .int 0, .ref v0, .ref v1, .ref v2, .ref v3, .ref v4, .ref v5, .ref v6, .ref v7, .ref v8, .ref v9]))] H := hP
  have hD : va_D A [(h0, .inr (11, [.ref w0, .ref h1, .ref w2, .ref w3, .ref w4, .ref w5, .ref w6, .ref w7, .ref w8, .ref w9, .ref w10])), (h1, .inr (0, [.int 0, .int 0, .int 0, .int 0, .int 0, .int 0, .int 0, .int 0, .int 0, .int 0, .ref v0, .ref v1, .ref v2, .ref v3, .ref v4, .ref v5, .ref v6, .ref v7, .ref v8, .ref v9]))] := hD
  refine W.eq (g2 := F0 m 8 ls [.int 0]) rfl ?_
  refine lv_if_ne (tgt := 14) hx hb dX11_shock_8 (by decide) (fun h => absurd h (by decide)) (fun _ => ?_)
  refine lv_bipush (v := -2) hx hb dX11_shock_11 (by decide) ?_
  exact rt_i FX () rfl trivial (hP.sub [0, 1] rfl) (hD.sub [0, 1] (by decide) rfl) hS (Nat.le_of_ble_eq_true rfl) (Nat.le_of_ble_eq_true rfl) dX11_shock_13
set_option maxRecDepth 100000 in
set_option maxHeartbeats 4000000 in
theorem c_X11_unsaid (l : Launch) (g : GG) (h0 : Nat) (h1 : Nat) (w0 : Nat) (w2 : Nat) (w3 : Nat) (w4 : Nat) (w5 : Nat) (w6 : Nat) (w7 : Nat) (w8 : Nat) (w9 : Nat) (w10 : Nat) (v0 : Nat) (v1 : Nat) (v2 : Nat) (v3 : Nat) (v4 : Nat) (v5 : Nat) (v6 : Nat) (v7 : Nat) (v8 : Nat) (v9 : Nat) : Ct l g yX11_unsaid cX11_unsaid 3 (some .int) { frames := 1, cells := 0, slots := 0, locals := 20 } [.ref h0] [(h0, .inr (11, [.ref w0, .ref h1, .ref w2, .ref w3, .ref w4, .ref w5, .ref w6, .ref w7, .ref w8, .ref w9, .ref w10])), (h1, .inr (0, [.int 0, .int 0, .int 0, .int 0, .int 0, .int 0, .int 0, .int 0, .int 0, .int 0, .ref v0, .ref v1, .ref v2, .ref v3, .ref v4, .ref v5, .ref v6, .ref v7, .ref v8, .ref v9]))] (S := Unit) (fun _ => some (.int (-2))) (fun _ => True) (fun u => [(h0, .inr (11, [.ref w0, .ref h1, .ref w2, .ref w3, .ref w4, .ref w5, .ref w6, .ref w7, .ref w8, .ref w9, .ref w10])), (h1, .inr (0, [.int 0, .int 0, .int 0, .int 0, .int 0, .int 0, .int 0, .int 0, .int 0, .int 0, .ref v0, .ref v1, .ref v2, .ref v3, .ref v4, .ref v5, .ref v6, .ref v7, .ref v8, .ref v9]))]) := by
  refine Ct.of (by decide) (Nat.le_of_ble_eq_true rfl) ?_
  intro p e s m below meth c A ls FX hP hD hS hl
  obtain ⟨FC, hr, hlk, hKn, hA, hnm⟩ := id FX
  have FC : CallFix p m c cX11_unsaid 3 s _ BIG RX11 := FC
  obtain ⟨hx, hb, hml, hown, hB⟩ := id FC
  have hl : lv_has ls 3 [(0, .ref h0)] := hl
  refine lv_aload_n hx hb dX11_unsaid_0 rfl (lv_at hl 0 rfl) ?_
  refine g_get (C := RX11) (T := TX11) (N := 11) (ci := 11) (v := .ref h1) FC hKn hP i_X11 0 rfl rfl 1 (by decide) b_10 rfl dX11_unsaid_1 ?_
  refine call_VN (As := []) (rest := []) (wr := [(h0, .inr (11, [.ref w0, .ref h1, .ref w2, .ref w3, .ref w4, .ref w5, .ref w6, .ref w7, .ref w8, .ref w9, .ref w10]))]) FC hKn (c_X0_stands l g h1 v0 v1 v2 v3 v4 v5 v6 v7 v8 v9) m_yX0_stands b_11 (ci := 0) rfl rfl rfl hP hD hS hA [1] [0] rfl (by decide) rfl (by decide) (by decide) rfl hl.1 rfl (Nat.le_of_ble_eq_true rfl) dX11_unsaid_4 ⟨(Nat.le_of_ble_eq_true rfl), (Nat.le_of_ble_eq_true rfl)⟩ ⟨(Nat.le_of_ble_eq_true rfl), (Nat.le_of_ble_eq_true rfl)⟩ (fun u1 H locs _ hP hD hS => ?_)
  have hP : va_P g.1 vwCl [(h0, .inr (11, [.ref w0, .ref h1, .ref w2, .ref w3, .ref w4, .ref w5, .ref w6, .ref w7, .ref w8, .ref w9, .ref w10])), (h1, .inr (0, [.int 0, .int 0, .int 0, .int 0, .int 0, .int 0, .int 0, .int 0, .int 0, .int 0, .ref v0, .ref v1, .ref v2, .ref v3, .ref v4, .ref v5, .ref v6, .ref v7, .ref v8, .ref v9]))] H := hP
  have hD : va_D A [(h0, .inr (11, [.ref w0, .ref h1, .ref w2, .ref w3, .ref w4, .ref w5, .ref w6, .ref w7, .ref w8, .ref w9, .ref w10])), (h1, .inr (0, [.int 0, .int 0, .int 0, .int 0, .int 0, .int 0, .int 0, .int 0, .int 0, .int 0, .ref v0, .ref v1, .ref v2, .ref v3, .ref v4, .ref v5, .ref v6, .ref v7, .ref v8, .ref v9]))] := hD
  refine W.eq (g2 := F0 m 7 ls [.int 0]) rfl ?_
  refine lv_if_ne (tgt := 13) hx hb dX11_unsaid_7 (by decide) (fun h => absurd h (by decide)) (fun _ => ?_)
  refine lv_bipush (v := -2) hx hb dX11_unsaid_10 (by decide) ?_
  exact rt_i FX () rfl trivial (hP.sub [0, 1] rfl) (hD.sub [0, 1] (by decide) rfl) hS (Nat.le_of_ble_eq_true rfl) (Nat.le_of_ble_eq_true rfl) dX11_unsaid_12
set_option maxRecDepth 100000 in
set_option maxHeartbeats 4000000 in
theorem c_X11_idle (l : Launch) (g : GG) (h0 : Nat) (h1 : Nat) (w0 : Nat) (w2 : Nat) (w3 : Nat) (w4 : Nat) (w5 : Nat) (w6 : Nat) (w7 : Nat) (w8 : Nat) (w9 : Nat) (w10 : Nat) (v0 : Nat) (v1 : Nat) (v2 : Nat) (v3 : Nat) (v4 : Nat) (v5 : Nat) (v6 : Nat) (v7 : Nat) (v8 : Nat) (v9 : Nat) : Ct l g yX11_idle cX11_idle 3 (some .int) { frames := 1, cells := 0, slots := 0, locals := 20 } [.ref h0] [(h0, .inr (11, [.ref w0, .ref h1, .ref w2, .ref w3, .ref w4, .ref w5, .ref w6, .ref w7, .ref w8, .ref w9, .ref w10])), (h1, .inr (0, [.int 0, .int 0, .int 0, .int 0, .int 0, .int 0, .int 0, .int 0, .int 0, .int 0, .ref v0, .ref v1, .ref v2, .ref v3, .ref v4, .ref v5, .ref v6, .ref v7, .ref v8, .ref v9]))] (S := Unit) (fun _ => some (.int (-2))) (fun _ => True) (fun u => [(h0, .inr (11, [.ref w0, .ref h1, .ref w2, .ref w3, .ref w4, .ref w5, .ref w6, .ref w7, .ref w8, .ref w9, .ref w10])), (h1, .inr (0, [.int 0, .int 0, .int 0, .int 0, .int 0, .int 0, .int 0, .int 0, .int 0, .int 0, .ref v0, .ref v1, .ref v2, .ref v3, .ref v4, .ref v5, .ref v6, .ref v7, .ref v8, .ref v9]))]) := by
  refine Ct.of (by decide) (Nat.le_of_ble_eq_true rfl) ?_
  intro p e s m below meth c A ls FX hP hD hS hl
  obtain ⟨FC, hr, hlk, hKn, hA, hnm⟩ := id FX
  have FC : CallFix p m c cX11_idle 3 s _ BIG RX11 := FC
  obtain ⟨hx, hb, hml, hown, hB⟩ := id FC
  have hl : lv_has ls 3 [(0, .ref h0)] := hl
  refine lv_aload_n hx hb dX11_idle_0 rfl (lv_at hl 0 rfl) ?_
  refine g_get (C := RX11) (T := TX11) (N := 11) (ci := 11) (v := .ref h1) FC hKn hP i_X11 0 rfl rfl 1 (by decide) b_10 rfl dX11_idle_1 ?_
  refine call_VN (As := []) (rest := []) (wr := [(h0, .inr (11, [.ref w0, .ref h1, .ref w2, .ref w3, .ref w4, .ref w5, .ref w6, .ref w7, .ref w8, .ref w9, .ref w10]))]) FC hKn (c_X0_stands l g h1 v0 v1 v2 v3 v4 v5 v6 v7 v8 v9) m_yX0_stands b_11 (ci := 0) rfl rfl rfl hP hD hS hA [1] [0] rfl (by decide) rfl (by decide) (by decide) rfl hl.1 rfl (Nat.le_of_ble_eq_true rfl) dX11_idle_4 ⟨(Nat.le_of_ble_eq_true rfl), (Nat.le_of_ble_eq_true rfl)⟩ ⟨(Nat.le_of_ble_eq_true rfl), (Nat.le_of_ble_eq_true rfl)⟩ (fun u1 H locs _ hP hD hS => ?_)
  have hP : va_P g.1 vwCl [(h0, .inr (11, [.ref w0, .ref h1, .ref w2, .ref w3, .ref w4, .ref w5, .ref w6, .ref w7, .ref w8, .ref w9, .ref w10])), (h1, .inr (0, [.int 0, .int 0, .int 0, .int 0, .int 0, .int 0, .int 0, .int 0, .int 0, .int 0, .ref v0, .ref v1, .ref v2, .ref v3, .ref v4, .ref v5, .ref v6, .ref v7, .ref v8, .ref v9]))] H := hP
  have hD : va_D A [(h0, .inr (11, [.ref w0, .ref h1, .ref w2, .ref w3, .ref w4, .ref w5, .ref w6, .ref w7, .ref w8, .ref w9, .ref w10])), (h1, .inr (0, [.int 0, .int 0, .int 0, .int 0, .int 0, .int 0, .int 0, .int 0, .int 0, .int 0, .ref v0, .ref v1, .ref v2, .ref v3, .ref v4, .ref v5, .ref v6, .ref v7, .ref v8, .ref v9]))] := hD
  refine W.eq (g2 := F0 m 7 ls [.int 0]) rfl ?_
  refine lv_if_ne (tgt := 13) hx hb dX11_idle_7 (by decide) (fun h => absurd h (by decide)) (fun _ => ?_)
  refine lv_bipush (v := -2) hx hb dX11_idle_10 (by decide) ?_
  exact rt_i FX () rfl trivial (hP.sub [0, 1] rfl) (hD.sub [0, 1] (by decide) rfl) hS (Nat.le_of_ble_eq_true rfl) (Nat.le_of_ble_eq_true rfl) dX11_idle_12
set_option maxRecDepth 100000 in
set_option maxHeartbeats 4000000 in
theorem c_X11_enough (l : Launch) (g : GG) (h0 : Nat) (h1 : Nat) (w0 : Nat) (w2 : Nat) (w3 : Nat) (w4 : Nat) (w5 : Nat) (w6 : Nat) (w7 : Nat) (w8 : Nat) (w9 : Nat) (w10 : Nat) (v0 : Nat) (v1 : Nat) (v2 : Nat) (v3 : Nat) (v4 : Nat) (v5 : Nat) (v6 : Nat) (v7 : Nat) (v8 : Nat) (v9 : Nat) (p1 : Int32) : Ct l g yX11_enough cX11_enough 4 (some .int) { frames := 1, cells := 0, slots := 0, locals := 21 } [.ref h0, .int p1] [(h0, .inr (11, [.ref w0, .ref h1, .ref w2, .ref w3, .ref w4, .ref w5, .ref w6, .ref w7, .ref w8, .ref w9, .ref w10])), (h1, .inr (0, [.int 0, .int 0, .int 0, .int 0, .int 0, .int 0, .int 0, .int 0, .int 0, .int 0, .ref v0, .ref v1, .ref v2, .ref v3, .ref v4, .ref v5, .ref v6, .ref v7, .ref v8, .ref v9]))] (S := Unit) (fun _ => some (.int (-2))) (fun _ => True) (fun u => [(h0, .inr (11, [.ref w0, .ref h1, .ref w2, .ref w3, .ref w4, .ref w5, .ref w6, .ref w7, .ref w8, .ref w9, .ref w10])), (h1, .inr (0, [.int 0, .int 0, .int 0, .int 0, .int 0, .int 0, .int 0, .int 0, .int 0, .int 0, .ref v0, .ref v1, .ref v2, .ref v3, .ref v4, .ref v5, .ref v6, .ref v7, .ref v8, .ref v9]))]) := by
  refine Ct.of (by decide) (Nat.le_of_ble_eq_true rfl) ?_
  intro p e s m below meth c A ls FX hP hD hS hl
  obtain ⟨FC, hr, hlk, hKn, hA, hnm⟩ := id FX
  have FC : CallFix p m c cX11_enough 4 s _ BIG RX11 := FC
  obtain ⟨hx, hb, hml, hown, hB⟩ := id FC
  have hl : lv_has ls 4 [(0, .ref h0), (1, .int p1)] := hl
  refine lv_aload_n hx hb dX11_enough_0 rfl (lv_at hl 0 rfl) ?_
  refine g_get (C := RX11) (T := TX11) (N := 11) (ci := 11) (v := .ref h1) FC hKn hP i_X11 0 rfl rfl 1 (by decide) b_10 rfl dX11_enough_1 ?_
  refine lv_iload_n hx hb dX11_enough_4 rfl (lv_at hl 1 rfl) ?_
  refine call_VN (As := [.int p1]) (rest := []) (wr := [(h0, .inr (11, [.ref w0, .ref h1, .ref w2, .ref w3, .ref w4, .ref w5, .ref w6, .ref w7, .ref w8, .ref w9, .ref w10]))]) FC hKn (c_X0_hasHearer l g h1 v0 v1 v2 v3 v4 v5 v6 v7 v8 v9 p1) m_yX0_hasHearer b_12 (ci := 0) rfl rfl rfl hP hD hS hA [1] [0] rfl (by decide) rfl (by decide) (by decide) rfl hl.1 rfl (Nat.le_of_ble_eq_true rfl) dX11_enough_5 ⟨(Nat.le_of_ble_eq_true rfl), (Nat.le_of_ble_eq_true rfl)⟩ ⟨(Nat.le_of_ble_eq_true rfl), (Nat.le_of_ble_eq_true rfl)⟩ (fun u1 H locs _ hP hD hS => ?_)
  have hP : va_P g.1 vwCl [(h0, .inr (11, [.ref w0, .ref h1, .ref w2, .ref w3, .ref w4, .ref w5, .ref w6, .ref w7, .ref w8, .ref w9, .ref w10])), (h1, .inr (0, [.int 0, .int 0, .int 0, .int 0, .int 0, .int 0, .int 0, .int 0, .int 0, .int 0, .ref v0, .ref v1, .ref v2, .ref v3, .ref v4, .ref v5, .ref v6, .ref v7, .ref v8, .ref v9]))] H := hP
  have hD : va_D A [(h0, .inr (11, [.ref w0, .ref h1, .ref w2, .ref w3, .ref w4, .ref w5, .ref w6, .ref w7, .ref w8, .ref w9, .ref w10])), (h1, .inr (0, [.int 0, .int 0, .int 0, .int 0, .int 0, .int 0, .int 0, .int 0, .int 0, .int 0, .ref v0, .ref v1, .ref v2, .ref v3, .ref v4, .ref v5, .ref v6, .ref v7, .ref v8, .ref v9]))] := hD
  refine W.eq (g2 := F0 m 8 ls [.int 0]) rfl ?_
  refine lv_if_ne (tgt := 14) hx hb dX11_enough_8 (by decide) (fun h => absurd h (by decide)) (fun _ => ?_)
  refine lv_bipush (v := -2) hx hb dX11_enough_11 (by decide) ?_
  exact rt_i FX () rfl trivial (hP.sub [0, 1] rfl) (hD.sub [0, 1] (by decide) rfl) hS (Nat.le_of_ble_eq_true rfl) (Nat.le_of_ble_eq_true rfl) dX11_enough_13
set_option maxRecDepth 100000 in
set_option maxHeartbeats 4000000 in
theorem c_X11_risk (l : Launch) (g : GG) (h0 : Nat) (h1 : Nat) (w0 : Nat) (w2 : Nat) (w3 : Nat) (w4 : Nat) (w5 : Nat) (w6 : Nat) (w7 : Nat) (w8 : Nat) (w9 : Nat) (w10 : Nat) (v0 : Nat) (v1 : Nat) (v2 : Nat) (v3 : Nat) (v4 : Nat) (v5 : Nat) (v6 : Nat) (v7 : Nat) (v8 : Nat) (v9 : Nat) (p1 : Int32) : Ct l g yX11_risk cX11_risk 2 (some .int) { frames := 1, cells := 0, slots := 0, locals := 21 } [.ref h0, .int p1] [(h0, .inr (11, [.ref w0, .ref h1, .ref w2, .ref w3, .ref w4, .ref w5, .ref w6, .ref w7, .ref w8, .ref w9, .ref w10])), (h1, .inr (0, [.int 0, .int 0, .int 0, .int 0, .int 0, .int 0, .int 0, .int 0, .int 0, .int 0, .ref v0, .ref v1, .ref v2, .ref v3, .ref v4, .ref v5, .ref v6, .ref v7, .ref v8, .ref v9]))] (S := Unit) (fun _ => some (.int (-2))) (fun _ => True) (fun u => [(h0, .inr (11, [.ref w0, .ref h1, .ref w2, .ref w3, .ref w4, .ref w5, .ref w6, .ref w7, .ref w8, .ref w9, .ref w10])), (h1, .inr (0, [.int 0, .int 0, .int 0, .int 0, .int 0, .int 0, .int 0, .int 0, .int 0, .int 0, .ref v0, .ref v1, .ref v2, .ref v3, .ref v4, .ref v5, .ref v6, .ref v7, .ref v8, .ref v9]))]) := by
  refine Ct.of (by decide) (Nat.le_of_ble_eq_true rfl) ?_
  intro p e s m below meth c A ls FX hP hD hS hl
  obtain ⟨FC, hr, hlk, hKn, hA, hnm⟩ := id FX
  have FC : CallFix p m c cX11_risk 2 s _ BIG RX11 := FC
  obtain ⟨hx, hb, hml, hown, hB⟩ := id FC
  have hl : lv_has ls 2 [(0, .ref h0), (1, .int p1)] := hl
  refine lv_aload_n hx hb dX11_risk_0 rfl (lv_at hl 0 rfl) ?_
  refine g_get (C := RX11) (T := TX11) (N := 11) (ci := 11) (v := .ref h1) FC hKn hP i_X11 0 rfl rfl 1 (by decide) b_10 rfl dX11_risk_1 ?_
  refine lv_iload_n hx hb dX11_risk_4 rfl (lv_at hl 1 rfl) ?_
  refine call_VN (As := [.int p1]) (rest := []) (wr := [(h0, .inr (11, [.ref w0, .ref h1, .ref w2, .ref w3, .ref w4, .ref w5, .ref w6, .ref w7, .ref w8, .ref w9, .ref w10]))]) FC hKn (c_X0_hasHearer l g h1 v0 v1 v2 v3 v4 v5 v6 v7 v8 v9 p1) m_yX0_hasHearer b_12 (ci := 0) rfl rfl rfl hP hD hS hA [1] [0] rfl (by decide) rfl (by decide) (by decide) rfl hl.1 rfl (Nat.le_of_ble_eq_true rfl) dX11_risk_5 ⟨(Nat.le_of_ble_eq_true rfl), (Nat.le_of_ble_eq_true rfl)⟩ ⟨(Nat.le_of_ble_eq_true rfl), (Nat.le_of_ble_eq_true rfl)⟩ (fun u1 H locs _ hP hD hS => ?_)
  have hP : va_P g.1 vwCl [(h0, .inr (11, [.ref w0, .ref h1, .ref w2, .ref w3, .ref w4, .ref w5, .ref w6, .ref w7, .ref w8, .ref w9, .ref w10])), (h1, .inr (0, [.int 0, .int 0, .int 0, .int 0, .int 0, .int 0, .int 0, .int 0, .int 0, .int 0, .ref v0, .ref v1, .ref v2, .ref v3, .ref v4, .ref v5, .ref v6, .ref v7, .ref v8, .ref v9]))] H := hP
  have hD : va_D A [(h0, .inr (11, [.ref w0, .ref h1, .ref w2, .ref w3, .ref w4, .ref w5, .ref w6, .ref w7, .ref w8, .ref w9, .ref w10])), (h1, .inr (0, [.int 0, .int 0, .int 0, .int 0, .int 0, .int 0, .int 0, .int 0, .int 0, .int 0, .ref v0, .ref v1, .ref v2, .ref v3, .ref v4, .ref v5, .ref v6, .ref v7, .ref v8, .ref v9]))] := hD
  refine W.eq (g2 := F0 m 8 ls [.int 0]) rfl ?_
  refine lv_if_ne (tgt := 14) hx hb dX11_risk_8 (by decide) (fun h => absurd h (by decide)) (fun _ => ?_)
  refine lv_bipush (v := -2) hx hb dX11_risk_11 (by decide) ?_
  exact rt_i FX () rfl trivial (hP.sub [0, 1] rfl) (hD.sub [0, 1] (by decide) rfl) hS (Nat.le_of_ble_eq_true rfl) (Nat.le_of_ble_eq_true rfl) dX11_risk_13
set_option maxRecDepth 100000 in
set_option maxHeartbeats 4000000 in
theorem c_X11_now (l : Launch) (g : GG) (h0 : Nat) (h1 : Nat) (w0 : Nat) (w2 : Nat) (w3 : Nat) (w4 : Nat) (w5 : Nat) (w6 : Nat) (w7 : Nat) (w8 : Nat) (w9 : Nat) (w10 : Nat) (v0 : Nat) (v1 : Nat) (v2 : Nat) (v3 : Nat) (v4 : Nat) (v5 : Nat) (v6 : Nat) (v7 : Nat) (v8 : Nat) (v9 : Nat) (p1 : Int32) (p2 : Int32) (p3 : Int32) : Ct l g yX11_now cX11_now 4 (some .int) { frames := 1, cells := 0, slots := 0, locals := 21 } [.ref h0, .int p1, .int p2, .int p3] [(h0, .inr (11, [.ref w0, .ref h1, .ref w2, .ref w3, .ref w4, .ref w5, .ref w6, .ref w7, .ref w8, .ref w9, .ref w10])), (h1, .inr (0, [.int 0, .int 0, .int 0, .int 0, .int 0, .int 0, .int 0, .int 0, .int 0, .int 0, .ref v0, .ref v1, .ref v2, .ref v3, .ref v4, .ref v5, .ref v6, .ref v7, .ref v8, .ref v9]))] (S := Unit) (fun _ => some (.int (-2))) (fun _ => True) (fun u => [(h0, .inr (11, [.ref w0, .ref h1, .ref w2, .ref w3, .ref w4, .ref w5, .ref w6, .ref w7, .ref w8, .ref w9, .ref w10])), (h1, .inr (0, [.int 0, .int 0, .int 0, .int 0, .int 0, .int 0, .int 0, .int 0, .int 0, .int 0, .ref v0, .ref v1, .ref v2, .ref v3, .ref v4, .ref v5, .ref v6, .ref v7, .ref v8, .ref v9]))]) := by
  refine Ct.of (by decide) (Nat.le_of_ble_eq_true rfl) ?_
  intro p e s m below meth c A ls FX hP hD hS hl
  obtain ⟨FC, hr, hlk, hKn, hA, hnm⟩ := id FX
  have FC : CallFix p m c cX11_now 4 s _ BIG RX11 := FC
  obtain ⟨hx, hb, hml, hown, hB⟩ := id FC
  have hl : lv_has ls 4 [(0, .ref h0), (1, .int p1), (2, .int p2), (3, .int p3)] := hl
  refine lv_aload_n hx hb dX11_now_0 rfl (lv_at hl 0 rfl) ?_
  refine g_get (C := RX11) (T := TX11) (N := 11) (ci := 11) (v := .ref h1) FC hKn hP i_X11 0 rfl rfl 1 (by decide) b_10 rfl dX11_now_1 ?_
  refine lv_iload_n hx hb dX11_now_4 rfl (lv_at hl 1 rfl) ?_
  refine call_VN (As := [.int p1]) (rest := []) (wr := [(h0, .inr (11, [.ref w0, .ref h1, .ref w2, .ref w3, .ref w4, .ref w5, .ref w6, .ref w7, .ref w8, .ref w9, .ref w10]))]) FC hKn (c_X0_hasHearer l g h1 v0 v1 v2 v3 v4 v5 v6 v7 v8 v9 p1) m_yX0_hasHearer b_12 (ci := 0) rfl rfl rfl hP hD hS hA [1] [0] rfl (by decide) rfl (by decide) (by decide) rfl hl.1 rfl (Nat.le_of_ble_eq_true rfl) dX11_now_5 ⟨(Nat.le_of_ble_eq_true rfl), (Nat.le_of_ble_eq_true rfl)⟩ ⟨(Nat.le_of_ble_eq_true rfl), (Nat.le_of_ble_eq_true rfl)⟩ (fun u1 H locs _ hP hD hS => ?_)
  have hP : va_P g.1 vwCl [(h0, .inr (11, [.ref w0, .ref h1, .ref w2, .ref w3, .ref w4, .ref w5, .ref w6, .ref w7, .ref w8, .ref w9, .ref w10])), (h1, .inr (0, [.int 0, .int 0, .int 0, .int 0, .int 0, .int 0, .int 0, .int 0, .int 0, .int 0, .ref v0, .ref v1, .ref v2, .ref v3, .ref v4, .ref v5, .ref v6, .ref v7, .ref v8, .ref v9]))] H := hP
  have hD : va_D A [(h0, .inr (11, [.ref w0, .ref h1, .ref w2, .ref w3, .ref w4, .ref w5, .ref w6, .ref w7, .ref w8, .ref w9, .ref w10])), (h1, .inr (0, [.int 0, .int 0, .int 0, .int 0, .int 0, .int 0, .int 0, .int 0, .int 0, .int 0, .ref v0, .ref v1, .ref v2, .ref v3, .ref v4, .ref v5, .ref v6, .ref v7, .ref v8, .ref v9]))] := hD
  refine W.eq (g2 := F0 m 8 ls [.int 0]) rfl ?_
  refine lv_if_eq (tgt := 33) hx hb dX11_now_8 (by decide) (fun _ => ?_) (fun h => absurd h (by decide))
  refine lv_bipush (v := -2) hx hb dX11_now_33 (by decide) ?_
  exact rt_i FX () rfl trivial (hP.sub [0, 1] rfl) (hD.sub [0, 1] (by decide) rfl) hS (Nat.le_of_ble_eq_true rfl) (Nat.le_of_ble_eq_true rfl) dX11_now_35
set_option maxRecDepth 100000 in
set_option maxHeartbeats 4000000 in
theorem c_X11_soon (l : Launch) (g : GG) (h0 : Nat) (h1 : Nat) (w0 : Nat) (w2 : Nat) (w3 : Nat) (w4 : Nat) (w5 : Nat) (w6 : Nat) (w7 : Nat) (w8 : Nat) (w9 : Nat) (w10 : Nat) (v0 : Nat) (v1 : Nat) (v2 : Nat) (v3 : Nat) (v4 : Nat) (v5 : Nat) (v6 : Nat) (v7 : Nat) (v8 : Nat) (v9 : Nat) (p1 : Int32) (p2 : Int32) : Ct l g yX11_soon cX11_soon 8 (some .int) { frames := 1, cells := 0, slots := 0, locals := 21 } [.ref h0, .int p1, .int p2] [(h0, .inr (11, [.ref w0, .ref h1, .ref w2, .ref w3, .ref w4, .ref w5, .ref w6, .ref w7, .ref w8, .ref w9, .ref w10])), (h1, .inr (0, [.int 0, .int 0, .int 0, .int 0, .int 0, .int 0, .int 0, .int 0, .int 0, .int 0, .ref v0, .ref v1, .ref v2, .ref v3, .ref v4, .ref v5, .ref v6, .ref v7, .ref v8, .ref v9]))] (S := Unit) (fun _ => some (.int (-2))) (fun _ => True) (fun u => [(h0, .inr (11, [.ref w0, .ref h1, .ref w2, .ref w3, .ref w4, .ref w5, .ref w6, .ref w7, .ref w8, .ref w9, .ref w10])), (h1, .inr (0, [.int 0, .int 0, .int 0, .int 0, .int 0, .int 0, .int 0, .int 0, .int 0, .int 0, .ref v0, .ref v1, .ref v2, .ref v3, .ref v4, .ref v5, .ref v6, .ref v7, .ref v8, .ref v9]))]) := by
  refine Ct.of (by decide) (Nat.le_of_ble_eq_true rfl) ?_
  intro p e s m below meth c A ls FX hP hD hS hl
  obtain ⟨FC, hr, hlk, hKn, hA, hnm⟩ := id FX
  have FC : CallFix p m c cX11_soon 8 s _ BIG RX11 := FC
  obtain ⟨hx, hb, hml, hown, hB⟩ := id FC
  have hl : lv_has ls 8 [(0, .ref h0), (1, .int p1), (2, .int p2)] := hl
  refine lv_aload_n hx hb dX11_soon_0 rfl (lv_at hl 0 rfl) ?_
  refine g_get (C := RX11) (T := TX11) (N := 11) (ci := 11) (v := .ref h1) FC hKn hP i_X11 0 rfl rfl 1 (by decide) b_10 rfl dX11_soon_1 ?_
  refine lv_iload_n hx hb dX11_soon_4 rfl (lv_at hl 1 rfl) ?_
  refine call_VN (As := [.int p1]) (rest := []) (wr := [(h0, .inr (11, [.ref w0, .ref h1, .ref w2, .ref w3, .ref w4, .ref w5, .ref w6, .ref w7, .ref w8, .ref w9, .ref w10]))]) FC hKn (c_X0_hasHearer l g h1 v0 v1 v2 v3 v4 v5 v6 v7 v8 v9 p1) m_yX0_hasHearer b_12 (ci := 0) rfl rfl rfl hP hD hS hA [1] [0] rfl (by decide) rfl (by decide) (by decide) rfl hl.1 rfl (Nat.le_of_ble_eq_true rfl) dX11_soon_5 ⟨(Nat.le_of_ble_eq_true rfl), (Nat.le_of_ble_eq_true rfl)⟩ ⟨(Nat.le_of_ble_eq_true rfl), (Nat.le_of_ble_eq_true rfl)⟩ (fun u1 H locs _ hP hD hS => ?_)
  have hP : va_P g.1 vwCl [(h0, .inr (11, [.ref w0, .ref h1, .ref w2, .ref w3, .ref w4, .ref w5, .ref w6, .ref w7, .ref w8, .ref w9, .ref w10])), (h1, .inr (0, [.int 0, .int 0, .int 0, .int 0, .int 0, .int 0, .int 0, .int 0, .int 0, .int 0, .ref v0, .ref v1, .ref v2, .ref v3, .ref v4, .ref v5, .ref v6, .ref v7, .ref v8, .ref v9]))] H := hP
  have hD : va_D A [(h0, .inr (11, [.ref w0, .ref h1, .ref w2, .ref w3, .ref w4, .ref w5, .ref w6, .ref w7, .ref w8, .ref w9, .ref w10])), (h1, .inr (0, [.int 0, .int 0, .int 0, .int 0, .int 0, .int 0, .int 0, .int 0, .int 0, .int 0, .ref v0, .ref v1, .ref v2, .ref v3, .ref v4, .ref v5, .ref v6, .ref v7, .ref v8, .ref v9]))] := hD
  refine W.eq (g2 := F0 m 8 ls [.int 0]) rfl ?_
  refine lv_if_eq (tgt := 20) hx hb dX11_soon_8 (by decide) (fun _ => ?_) (fun h => absurd h (by decide))
  refine lv_bipush (v := -2) hx hb dX11_soon_20 (by decide) ?_
  exact rt_i FX () rfl trivial (hP.sub [0, 1] rfl) (hD.sub [0, 1] (by decide) rfl) hS (Nat.le_of_ble_eq_true rfl) (Nat.le_of_ble_eq_true rfl) dX11_soon_22
set_option maxRecDepth 100000 in
set_option maxHeartbeats 4000000 in
theorem c_X11_suspects (l : Launch) (g : GG) (h0 : Nat) (h1 : Nat) (w0 : Nat) (w2 : Nat) (w3 : Nat) (w4 : Nat) (w5 : Nat) (w6 : Nat) (w7 : Nat) (w8 : Nat) (w9 : Nat) (w10 : Nat) (v0 : Nat) (v1 : Nat) (v2 : Nat) (v3 : Nat) (v4 : Nat) (v5 : Nat) (v6 : Nat) (v7 : Nat) (v8 : Nat) (v9 : Nat) (p1 : Int32) : Ct l g yX11_suspects cX11_suspects 3 (some .int) { frames := 2, cells := 0, slots := 0, locals := 42 } [.ref h0, .int p1] [(h0, .inr (11, [.ref w0, .ref h1, .ref w2, .ref w3, .ref w4, .ref w5, .ref w6, .ref w7, .ref w8, .ref w9, .ref w10])), (h1, .inr (0, [.int 0, .int 0, .int 0, .int 0, .int 0, .int 0, .int 0, .int 0, .int 0, .int 0, .ref v0, .ref v1, .ref v2, .ref v3, .ref v4, .ref v5, .ref v6, .ref v7, .ref v8, .ref v9]))] (S := Unit) (fun _ => some (.int (-2))) (fun _ => True) (fun u => [(h0, .inr (11, [.ref w0, .ref h1, .ref w2, .ref w3, .ref w4, .ref w5, .ref w6, .ref w7, .ref w8, .ref w9, .ref w10])), (h1, .inr (0, [.int 0, .int 0, .int 0, .int 0, .int 0, .int 0, .int 0, .int 0, .int 0, .int 0, .ref v0, .ref v1, .ref v2, .ref v3, .ref v4, .ref v5, .ref v6, .ref v7, .ref v8, .ref v9]))]) := by
  refine Ct.of (by decide) (Nat.le_of_ble_eq_true rfl) ?_
  intro p e s m below meth c A ls FX hP hD hS hl
  obtain ⟨FC, hr, hlk, hKn, hA, hnm⟩ := id FX
  have FC : CallFix p m c cX11_suspects 3 s _ BIG RX11 := FC
  obtain ⟨hx, hb, hml, hown, hB⟩ := id FC
  have hl : lv_has ls 3 [(0, .ref h0), (1, .int p1)] := hl
  refine lv_aload_n hx hb dX11_suspects_0 rfl (lv_at hl 0 rfl) ?_
  refine lv_iload_n hx hb dX11_suspects_1 rfl (lv_at hl 1 rfl) ?_
  refine call_V (As := [.int p1]) (rest := []) (wr := []) FC hKn (c_X11_takeWeek l g h0 h1 w0 w2 w3 w4 w5 w6 w7 w8 w9 w10 v0 v1 v2 v3 v4 v5 v6 v7 v8 v9 p1) m_yX11_takeWeek b_18 (ci := 11) rfl rfl rfl hP hD hS hA [0, 1] [] rfl (by decide) rfl (by decide) (by decide) rfl hl.1 rfl (Nat.le_of_ble_eq_true rfl) dX11_suspects_2 ⟨(Nat.le_of_ble_eq_true rfl), (Nat.le_of_ble_eq_true rfl)⟩ ⟨(Nat.le_of_ble_eq_true rfl), (Nat.le_of_ble_eq_true rfl)⟩ (fun u1 H locs _ hP hD hS => ?_)
  have hP : va_P g.1 vwCl [(h0, .inr (11, [.ref w0, .ref h1, .ref w2, .ref w3, .ref w4, .ref w5, .ref w6, .ref w7, .ref w8, .ref w9, .ref w10])), (h1, .inr (0, [.int 0, .int 0, .int 0, .int 0, .int 0, .int 0, .int 0, .int 0, .int 0, .int 0, .ref v0, .ref v1, .ref v2, .ref v3, .ref v4, .ref v5, .ref v6, .ref v7, .ref v8, .ref v9]))] H := hP
  have hD : va_D A [(h0, .inr (11, [.ref w0, .ref h1, .ref w2, .ref w3, .ref w4, .ref w5, .ref w6, .ref w7, .ref w8, .ref w9, .ref w10])), (h1, .inr (0, [.int 0, .int 0, .int 0, .int 0, .int 0, .int 0, .int 0, .int 0, .int 0, .int 0, .ref v0, .ref v1, .ref v2, .ref v3, .ref v4, .ref v5, .ref v6, .ref v7, .ref v8, .ref v9]))] := hD
  refine W.eq (g2 := F0 m 5 ls [.int (-2)]) rfl ?_
  refine lv_istore_n (lv' := [(2, .int (-2)), (0, .ref h0), (1, .int p1)]) hx hb dX11_suspects_5 rfl hl (by decide) rfl (fun ls hl => ?_)
  refine lv_iload_n hx hb dX11_suspects_6 rfl (lv_at hl 0 rfl) ?_
  refine lv_if_ge (tgt := 12) hx hb dX11_suspects_7 (by decide) (fun h => absurd h (by decide)) (fun _ => ?_)
  refine lv_iload_n hx hb dX11_suspects_10 rfl (lv_at hl 0 rfl) ?_
  exact rt_i FX () rfl trivial (hP.sub [0, 1] rfl) (hD.sub [0, 1] (by decide) rfl) hS (Nat.le_of_ble_eq_true rfl) (Nat.le_of_ble_eq_true rfl) dX11_suspects_11
set_option maxRecDepth 100000 in
set_option maxHeartbeats 4000000 in
theorem c_X11_knew (l : Launch) (g : GG) (h0 : Nat) (h1 : Nat) (w0 : Nat) (w2 : Nat) (w3 : Nat) (w4 : Nat) (w5 : Nat) (w6 : Nat) (w7 : Nat) (w8 : Nat) (w9 : Nat) (w10 : Nat) (v0 : Nat) (v1 : Nat) (v2 : Nat) (v3 : Nat) (v4 : Nat) (v5 : Nat) (v6 : Nat) (v7 : Nat) (v8 : Nat) (v9 : Nat) (p1 : Int32) (p2 : Int32) : Ct l g yX11_knew cX11_knew 4 (some .int) { frames := 2, cells := 0, slots := 0, locals := 44 } [.ref h0, .int p1, .int p2] [(h0, .inr (11, [.ref w0, .ref h1, .ref w2, .ref w3, .ref w4, .ref w5, .ref w6, .ref w7, .ref w8, .ref w9, .ref w10])), (h1, .inr (0, [.int 0, .int 0, .int 0, .int 0, .int 0, .int 0, .int 0, .int 0, .int 0, .int 0, .ref v0, .ref v1, .ref v2, .ref v3, .ref v4, .ref v5, .ref v6, .ref v7, .ref v8, .ref v9]))] (S := Unit) (fun _ => some (.int (-2))) (fun _ => True) (fun u => [(h0, .inr (11, [.ref w0, .ref h1, .ref w2, .ref w3, .ref w4, .ref w5, .ref w6, .ref w7, .ref w8, .ref w9, .ref w10])), (h1, .inr (0, [.int 0, .int 0, .int 0, .int 0, .int 0, .int 0, .int 0, .int 0, .int 0, .int 0, .ref v0, .ref v1, .ref v2, .ref v3, .ref v4, .ref v5, .ref v6, .ref v7, .ref v8, .ref v9]))]) := by
  refine Ct.of (by decide) (Nat.le_of_ble_eq_true rfl) ?_
  intro p e s m below meth c A ls FX hP hD hS hl
  obtain ⟨FC, hr, hlk, hKn, hA, hnm⟩ := id FX
  have FC : CallFix p m c cX11_knew 4 s _ BIG RX11 := FC
  obtain ⟨hx, hb, hml, hown, hB⟩ := id FC
  have hl : lv_has ls 4 [(0, .ref h0), (1, .int p1), (2, .int p2)] := hl
  refine lv_aload_n hx hb dX11_knew_0 rfl (lv_at hl 0 rfl) ?_
  refine lv_iload_n hx hb dX11_knew_1 rfl (lv_at hl 1 rfl) ?_
  refine lv_iload_n hx hb dX11_knew_2 rfl (lv_at hl 2 rfl) ?_
  refine call_V (As := [.int p1, .int p2]) (rest := []) (wr := []) FC hKn (c_X11_reckonWeek l g h0 h1 w0 w2 w3 w4 w5 w6 w7 w8 w9 w10 v0 v1 v2 v3 v4 v5 v6 v7 v8 v9 p1 p2) m_yX11_reckonWeek b_22 (ci := 11) rfl rfl rfl hP hD hS hA [0, 1] [] rfl (by decide) rfl (by decide) (by decide) rfl hl.1 rfl (Nat.le_of_ble_eq_true rfl) dX11_knew_3 ⟨(Nat.le_of_ble_eq_true rfl), (Nat.le_of_ble_eq_true rfl)⟩ ⟨(Nat.le_of_ble_eq_true rfl), (Nat.le_of_ble_eq_true rfl)⟩ (fun u1 H locs _ hP hD hS => ?_)
  have hP : va_P g.1 vwCl [(h0, .inr (11, [.ref w0, .ref h1, .ref w2, .ref w3, .ref w4, .ref w5, .ref w6, .ref w7, .ref w8, .ref w9, .ref w10])), (h1, .inr (0, [.int 0, .int 0, .int 0, .int 0, .int 0, .int 0, .int 0, .int 0, .int 0, .int 0, .ref v0, .ref v1, .ref v2, .ref v3, .ref v4, .ref v5, .ref v6, .ref v7, .ref v8, .ref v9]))] H := hP
  have hD : va_D A [(h0, .inr (11, [.ref w0, .ref h1, .ref w2, .ref w3, .ref w4, .ref w5, .ref w6, .ref w7, .ref w8, .ref w9, .ref w10])), (h1, .inr (0, [.int 0, .int 0, .int 0, .int 0, .int 0, .int 0, .int 0, .int 0, .int 0, .int 0, .ref v0, .ref v1, .ref v2, .ref v3, .ref v4, .ref v5, .ref v6, .ref v7, .ref v8, .ref v9]))] := hD
  refine W.eq (g2 := F0 m 6 ls [.int (-2)]) rfl ?_
  refine lv_istore_n (lv' := [(3, .int (-2)), (0, .ref h0), (1, .int p1), (2, .int p2)]) hx hb dX11_knew_6 rfl hl (by decide) rfl (fun ls hl => ?_)
  refine lv_iload_n hx hb dX11_knew_7 rfl (lv_at hl 0 rfl) ?_
  refine lv_if_ge (tgt := 15) hx hb dX11_knew_8 (by decide) (fun h => absurd h (by decide)) (fun _ => ?_)
  refine lv_iload_n hx hb dX11_knew_11 rfl (lv_at hl 0 rfl) ?_
  refine lv_goto (tgt := 22) hx hb dX11_knew_12 (by decide) ?_
  exact rt_i FX () rfl trivial (hP.sub [0, 1] rfl) (hD.sub [0, 1] (by decide) rfl) hS (Nat.le_of_ble_eq_true rfl) (Nat.le_of_ble_eq_true rfl) dX11_knew_22
set_option maxRecDepth 100000 in
set_option maxHeartbeats 4000000 in
theorem c_X11_reckoned (l : Launch) (g : GG) (h0 : Nat) (h1 : Nat) (w0 : Nat) (w2 : Nat) (w3 : Nat) (w4 : Nat) (w5 : Nat) (w6 : Nat) (w7 : Nat) (w8 : Nat) (w9 : Nat) (w10 : Nat) (v0 : Nat) (v1 : Nat) (v2 : Nat) (v3 : Nat) (v4 : Nat) (v5 : Nat) (v6 : Nat) (v7 : Nat) (v8 : Nat) (v9 : Nat) (p1 : Int32) (p2 : Int32) : Ct l g yX11_reckoned cX11_reckoned 4 (some .int) { frames := 2, cells := 0, slots := 0, locals := 44 } [.ref h0, .int p1, .int p2] [(h0, .inr (11, [.ref w0, .ref h1, .ref w2, .ref w3, .ref w4, .ref w5, .ref w6, .ref w7, .ref w8, .ref w9, .ref w10])), (h1, .inr (0, [.int 0, .int 0, .int 0, .int 0, .int 0, .int 0, .int 0, .int 0, .int 0, .int 0, .ref v0, .ref v1, .ref v2, .ref v3, .ref v4, .ref v5, .ref v6, .ref v7, .ref v8, .ref v9]))] (S := Unit) (fun _ => some (.int (-2))) (fun _ => True) (fun u => [(h0, .inr (11, [.ref w0, .ref h1, .ref w2, .ref w3, .ref w4, .ref w5, .ref w6, .ref w7, .ref w8, .ref w9, .ref w10])), (h1, .inr (0, [.int 0, .int 0, .int 0, .int 0, .int 0, .int 0, .int 0, .int 0, .int 0, .int 0, .ref v0, .ref v1, .ref v2, .ref v3, .ref v4, .ref v5, .ref v6, .ref v7, .ref v8, .ref v9]))]) := by
  refine Ct.of (by decide) (Nat.le_of_ble_eq_true rfl) ?_
  intro p e s m below meth c A ls FX hP hD hS hl
  obtain ⟨FC, hr, hlk, hKn, hA, hnm⟩ := id FX
  have FC : CallFix p m c cX11_reckoned 4 s _ BIG RX11 := FC
  obtain ⟨hx, hb, hml, hown, hB⟩ := id FC
  have hl : lv_has ls 4 [(0, .ref h0), (1, .int p1), (2, .int p2)] := hl
  refine lv_aload_n hx hb dX11_reckoned_0 rfl (lv_at hl 0 rfl) ?_
  refine lv_iload_n hx hb dX11_reckoned_1 rfl (lv_at hl 1 rfl) ?_
  refine lv_iload_n hx hb dX11_reckoned_2 rfl (lv_at hl 2 rfl) ?_
  refine call_V (As := [.int p1, .int p2]) (rest := []) (wr := []) FC hKn (c_X11_reckonWeek l g h0 h1 w0 w2 w3 w4 w5 w6 w7 w8 w9 w10 v0 v1 v2 v3 v4 v5 v6 v7 v8 v9 p1 p2) m_yX11_reckonWeek b_22 (ci := 11) rfl rfl rfl hP hD hS hA [0, 1] [] rfl (by decide) rfl (by decide) (by decide) rfl hl.1 rfl (Nat.le_of_ble_eq_true rfl) dX11_reckoned_3 ⟨(Nat.le_of_ble_eq_true rfl), (Nat.le_of_ble_eq_true rfl)⟩ ⟨(Nat.le_of_ble_eq_true rfl), (Nat.le_of_ble_eq_true rfl)⟩ (fun u1 H locs _ hP hD hS => ?_)
  have hP : va_P g.1 vwCl [(h0, .inr (11, [.ref w0, .ref h1, .ref w2, .ref w3, .ref w4, .ref w5, .ref w6, .ref w7, .ref w8, .ref w9, .ref w10])), (h1, .inr (0, [.int 0, .int 0, .int 0, .int 0, .int 0, .int 0, .int 0, .int 0, .int 0, .int 0, .ref v0, .ref v1, .ref v2, .ref v3, .ref v4, .ref v5, .ref v6, .ref v7, .ref v8, .ref v9]))] H := hP
  have hD : va_D A [(h0, .inr (11, [.ref w0, .ref h1, .ref w2, .ref w3, .ref w4, .ref w5, .ref w6, .ref w7, .ref w8, .ref w9, .ref w10])), (h1, .inr (0, [.int 0, .int 0, .int 0, .int 0, .int 0, .int 0, .int 0, .int 0, .int 0, .int 0, .ref v0, .ref v1, .ref v2, .ref v3, .ref v4, .ref v5, .ref v6, .ref v7, .ref v8, .ref v9]))] := hD
  refine W.eq (g2 := F0 m 6 ls [.int (-2)]) rfl ?_
  refine lv_istore_n (lv' := [(3, .int (-2)), (0, .ref h0), (1, .int p1), (2, .int p2)]) hx hb dX11_reckoned_6 rfl hl (by decide) rfl (fun ls hl => ?_)
  refine lv_iload_n hx hb dX11_reckoned_7 rfl (lv_at hl 0 rfl) ?_
  refine lv_if_ge (tgt := 13) hx hb dX11_reckoned_8 (by decide) (fun h => absurd h (by decide)) (fun _ => ?_)
  refine lv_iload_n hx hb dX11_reckoned_11 rfl (lv_at hl 0 rfl) ?_
  exact rt_i FX () rfl trivial (hP.sub [0, 1] rfl) (hD.sub [0, 1] (by decide) rfl) hS (Nat.le_of_ble_eq_true rfl) (Nat.le_of_ble_eq_true rfl) dX11_reckoned_12
