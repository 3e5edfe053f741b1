set_option maxRecDepth 100000 in
set_option maxHeartbeats 4000000 in
theorem law_kn {p : Program} {e : Env} {s : State} {m : MethodId} {below : List Frame} {meth : Method} {c : Code} {b L : Nat} {xs : Nat → Int32} (C0 : lw_At p s m meth c b L xs) : ∃ g : GG, Kn g s ∧ SZ g (lA s) s := by
  obtain ⟨hx, hb, hr, hml, hown, hts, hX, hbl, hlocks, hgv⟩ := C0
  have hB : ∀ w ∈ BIG, w.before #[Value.ref b] s = true := fun w h => hts w (big_in w h)
  have hs := flat_of_before _ hgv
  have hA : ∀ a : Nat, a < s.heap.size → ¬ lA s a := fun a h => Nat.not_le.mpr h
  obtain ⟨c0, j0, hn0⟩ := u_known (C := RX0) (T := TX0) (N := 20) (n := 20) hB i_X0 (hB _ b_1219)
  obtain ⟨c1, j1, hn1⟩ := u_known (C := RX1) (T := TX1) (N := 5) (n := 5) hB i_X1 (hB _ b_1223)
  obtain ⟨c2, j2, hn2⟩ := u_known (C := RX2) (T := TX2) (N := 4) (n := 4) hB i_X2 (hB _ b_1245)
  obtain ⟨c3, j3, hn3⟩ := u_known (C := RX3) (T := TX3) (N := 4) (n := 4) hB i_X3 (hB _ b_1212)
  obtain ⟨c4, j4, hn4⟩ := u_known (C := RX4) (T := TX4) (N := 1) (n := 1) hB i_X4 (hB _ b_1233)
  obtain ⟨c5, j5, hn5⟩ := u_known (C := RX5) (T := TX5) (N := 5) (n := 5) hB i_X5 (hB _ b_1239)
  obtain ⟨c6, j6, hn6⟩ := u_known (C := RX6) (T := TX6) (N := 3) (n := 3) hB i_X6 (hB _ b_1236)
  obtain ⟨c7, j7, hn7⟩ := u_known (C := RX7) (T := TX7) (N := 4) (n := 4) hB i_X7 (hB _ b_1242)
  obtain ⟨c8, j8, hn8⟩ := u_known (C := RX8) (T := TX8) (N := 4) (n := 4) hB i_X8 (hB _ b_1247)
  obtain ⟨c9, j9, hn9⟩ := u_known (C := RX9) (T := TX9) (N := 6) (n := 6) hB i_X9 (hB _ b_1216)
  obtain ⟨c10, j10, hn10⟩ := u_known (C := RX10) (T := TX10) (N := 10) (n := 10) hB i_X10 (hB _ b_1230)
  obtain ⟨c11, j11, hn11⟩ := u_known (C := RX11) (T := TX11) (N := 11) (n := 11) hB i_X11 (hB _ b_1841)
  obtain ⟨c12, j12, hn12⟩ := u_known (C := RX12) (T := TX12) (N := 29) (n := 29) hB i_X12 (hB _ b_1842)
  obtain ⟨a0, k0, o0, e0, f0, z0⟩ := Cond.arrayClass_spec (type := .int) (hB _ b_1199)
  obtain ⟨a1, k1, o1, e1, f1, z1⟩ := Cond.arrayClass_spec (type := .byte) (hB _ b_1201)
  obtain ⟨a2, k2, o2, e2, f2, z2⟩ := Cond.arrayClass_spec (type := .boolean) (hB _ b_1227)
  obtain ⟨a3, k3, o3, e3, f3, z3⟩ := Cond.arrayClass_spec (type := .long) (hB _ b_1203)
  have v0 : (Cond.arrayOver (.object RX0)).before #[Value.ref b] s = true := hts _ (tin_1 _ (List.mem_of_getElem? (i := 228) rfl))
  obtain ⟨o4, a4, k4, y4, _, f4, z4, e4⟩ := Cond.arrayOver_spec v0
  have v1 : (Cond.arrayOver (.object RX8)).before #[Value.ref b] s = true := hts _ (tin_1 _ (List.mem_of_getElem? (i := 230) rfl))
  obtain ⟨o5, a5, k5, y5, _, f5, z5, e5⟩ := Cond.arrayOver_spec v1
  obtain ⟨qs0, ts0, r0_1, r0_2, r0_3, r0_4, r0_5⟩ := str_of (A := lA s) (tm := Term.string "GentleLetters$DeskReader" 125) (bs := [100, 101, 115, 107]) (by decide) (hs _ (List.mem_of_getElem? (i := 35) rfl)) (hs _ (List.mem_of_getElem? (i := 36) rfl)) (hs _ (List.mem_of_getElem? (i := 37) rfl)) (hs _ (List.mem_of_getElem? (i := 38) rfl)) (fun j hj => by
    match j, hj with
    | 0, _ => exact (hs _ (List.mem_of_getElem? (i := 39) rfl))
    | 1, _ => exact (hs _ (List.mem_of_getElem? (i := 40) rfl))
    | 2, _ => exact (hs _ (List.mem_of_getElem? (i := 41) rfl))
    | 3, _ => exact (hs _ (List.mem_of_getElem? (i := 42) rfl))
    | j + 4, hj => exact absurd hj (by simp)) hA
  obtain ⟨qs1, ts1, r1_1, r1_2, r1_3, r1_4, r1_5⟩ := str_of (A := lA s) (tm := Term.string "GentleLetters$DeskReader" 127) (bs := [115, 116, 97, 116, 101, 115]) (by decide) (hs _ (List.mem_of_getElem? (i := 43) rfl)) (hs _ (List.mem_of_getElem? (i := 44) rfl)) (hs _ (List.mem_of_getElem? (i := 45) rfl)) (hs _ (List.mem_of_getElem? (i := 46) rfl)) (fun j hj => by
    match j, hj with
    | 0, _ => exact (hs _ (List.mem_of_getElem? (i := 47) rfl))
    | 1, _ => exact (hs _ (List.mem_of_getElem? (i := 48) rfl))
    | 2, _ => exact (hs _ (List.mem_of_getElem? (i := 49) rfl))
    | 3, _ => exact (hs _ (List.mem_of_getElem? (i := 50) rfl))
    | 4, _ => exact (hs _ (List.mem_of_getElem? (i := 51) rfl))
    | 5, _ => exact (hs _ (List.mem_of_getElem? (i := 52) rfl))
    | j + 6, hj => exact absurd hj (by simp)) hA
  obtain ⟨qs2, ts2, r2_1, r2_2, r2_3, r2_4, r2_5⟩ := str_of (A := lA s) (tm := Term.string "GentleLetters$DeskReader" 135) (bs := [114, 101, 97, 108, 108, 121]) (by decide) (hs _ (List.mem_of_getElem? (i := 53) rfl)) (hs _ (List.mem_of_getElem? (i := 54) rfl)) (hs _ (List.mem_of_getElem? (i := 55) rfl)) (hs _ (List.mem_of_getElem? (i := 56) rfl)) (fun j hj => by
    match j, hj with
    | 0, _ => exact (hs _ (List.mem_of_getElem? (i := 57) rfl))
    | 1, _ => exact (hs _ (List.mem_of_getElem? (i := 58) rfl))
    | 2, _ => exact (hs _ (List.mem_of_getElem? (i := 59) rfl))
    | 3, _ => exact (hs _ (List.mem_of_getElem? (i := 60) rfl))
    | 4, _ => exact (hs _ (List.mem_of_getElem? (i := 61) rfl))
    | 5, _ => exact (hs _ (List.mem_of_getElem? (i := 62) rfl))
    | j + 6, hj => exact absurd hj (by simp)) hA
  obtain ⟨qs3, ts3, r3_1, r3_2, r3_3, r3_4, r3_5⟩ := str_of (A := lA s) (tm := Term.string "GentleLetters$DeskReader" 139) (bs := [100, 97, 121, 115]) (by decide) (hs _ (List.mem_of_getElem? (i := 63) rfl)) (hs _ (List.mem_of_getElem? (i := 64) rfl)) (hs _ (List.mem_of_getElem? (i := 65) rfl)) (hs _ (List.mem_of_getElem? (i := 66) rfl)) (fun j hj => by
    match j, hj with
    | 0, _ => exact (hs _ (List.mem_of_getElem? (i := 67) rfl))
    | 1, _ => exact (hs _ (List.mem_of_getElem? (i := 68) rfl))
    | 2, _ => exact (hs _ (List.mem_of_getElem? (i := 69) rfl))
    | 3, _ => exact (hs _ (List.mem_of_getElem? (i := 70) rfl))
    | j + 4, hj => exact absurd hj (by simp)) hA
  obtain ⟨qs4, ts4, r4_1, r4_2, r4_3, r4_4, r4_5⟩ := str_of (A := lA s) (tm := Term.string "GentleLetters$DeskReader" 143) (bs := [104, 101, 97, 108]) (by decide) (hs _ (List.mem_of_getElem? (i := 71) rfl)) (hs _ (List.mem_of_getElem? (i := 72) rfl)) (hs _ (List.mem_of_getElem? (i := 73) rfl)) (hs _ (List.mem_of_getElem? (i := 74) rfl)) (fun j hj => by
    match j, hj with
    | 0, _ => exact (hs _ (List.mem_of_getElem? (i := 75) rfl))
    | 1, _ => exact (hs _ (List.mem_of_getElem? (i := 76) rfl))
    | 2, _ => exact (hs _ (List.mem_of_getElem? (i := 77) rfl))
    | 3, _ => exact (hs _ (List.mem_of_getElem? (i := 78) rfl))
    | j + 4, hj => exact absurd hj (by simp)) hA
  obtain ⟨qs5, ts5, r5_1, r5_2, r5_3, r5_4, r5_5⟩ := str_of (A := lA s) (tm := Term.string "GentleLetters$DeskReader" 147) (bs := [108, 101, 97, 107]) (by decide) (hs _ (List.mem_of_getElem? (i := 79) rfl)) (hs _ (List.mem_of_getElem? (i := 80) rfl)) (hs _ (List.mem_of_getElem? (i := 81) rfl)) (hs _ (List.mem_of_getElem? (i := 82) rfl)) (fun j hj => by
    match j, hj with
    | 0, _ => exact (hs _ (List.mem_of_getElem? (i := 83) rfl))
    | 1, _ => exact (hs _ (List.mem_of_getElem? (i := 84) rfl))
    | 2, _ => exact (hs _ (List.mem_of_getElem? (i := 85) rfl))
    | 3, _ => exact (hs _ (List.mem_of_getElem? (i := 86) rfl))
    | j + 4, hj => exact absurd hj (by simp)) hA
  obtain ⟨qs6, ts6, r6_1, r6_2, r6_3, r6_4, r6_5⟩ := str_of (A := lA s) (tm := Term.string "GentleLetters$DeskReader" 84) (bs := [103, 114, 97, 100, 101, 115]) (by decide) (hs _ (List.mem_of_getElem? (i := 87) rfl)) (hs _ (List.mem_of_getElem? (i := 88) rfl)) (hs _ (List.mem_of_getElem? (i := 89) rfl)) (hs _ (List.mem_of_getElem? (i := 90) rfl)) (fun j hj => by
    match j, hj with
    | 0, _ => exact (hs _ (List.mem_of_getElem? (i := 91) rfl))
    | 1, _ => exact (hs _ (List.mem_of_getElem? (i := 92) rfl))
    | 2, _ => exact (hs _ (List.mem_of_getElem? (i := 93) rfl))
    | 3, _ => exact (hs _ (List.mem_of_getElem? (i := 94) rfl))
    | 4, _ => exact (hs _ (List.mem_of_getElem? (i := 95) rfl))
    | 5, _ => exact (hs _ (List.mem_of_getElem? (i := 96) rfl))
    | j + 6, hj => exact absurd hj (by simp)) hA
  obtain ⟨qs7, ts7, r7_1, r7_2, r7_3, r7_4, r7_5⟩ := str_of (A := lA s) (tm := Term.string "GentleLetters$DeskReader" 89) (bs := [104, 101, 97, 114, 101, 114]) (by decide) (hs _ (List.mem_of_getElem? (i := 97) rfl)) (hs _ (List.mem_of_getElem? (i := 98) rfl)) (hs _ (List.mem_of_getElem? (i := 99) rfl)) (hs _ (List.mem_of_getElem? (i := 100) rfl)) (fun j hj => by
    match j, hj with
    | 0, _ => exact (hs _ (List.mem_of_getElem? (i := 101) rfl))
    | 1, _ => exact (hs _ (List.mem_of_getElem? (i := 102) rfl))
    | 2, _ => exact (hs _ (List.mem_of_getElem? (i := 103) rfl))
    | 3, _ => exact (hs _ (List.mem_of_getElem? (i := 104) rfl))
    | 4, _ => exact (hs _ (List.mem_of_getElem? (i := 105) rfl))
    | 5, _ => exact (hs _ (List.mem_of_getElem? (i := 106) rfl))
    | j + 6, hj => exact absurd hj (by simp)) hA
  obtain ⟨qs8, ts8, r8_1, r8_2, r8_3, r8_4, r8_5⟩ := str_of (A := lA s) (tm := Term.string "GentleLetters$DeskReader" 154) (bs := [116, 104, 105, 110, 107, 115]) (by decide) (hs _ (List.mem_of_getElem? (i := 107) rfl)) (hs _ (List.mem_of_getElem? (i := 108) rfl)) (hs _ (List.mem_of_getElem? (i := 109) rfl)) (hs _ (List.mem_of_getElem? (i := 110) rfl)) (fun j hj => by
    match j, hj with
    | 0, _ => exact (hs _ (List.mem_of_getElem? (i := 111) rfl))
    | 1, _ => exact (hs _ (List.mem_of_getElem? (i := 112) rfl))
    | 2, _ => exact (hs _ (List.mem_of_getElem? (i := 113) rfl))
    | 3, _ => exact (hs _ (List.mem_of_getElem? (i := 114) rfl))
    | 4, _ => exact (hs _ (List.mem_of_getElem? (i := 115) rfl))
    | 5, _ => exact (hs _ (List.mem_of_getElem? (i := 116) rfl))
    | j + 6, hj => exact absurd hj (by simp)) hA
  obtain ⟨qs9, ts9, r9_1, r9_2, r9_3, r9_4, r9_5⟩ := str_of (A := lA s) (tm := Term.string "GentleLetters$DeskReader" 159) (bs := [114, 101, 99, 107, 111, 110, 115]) (by decide) (hs _ (List.mem_of_getElem? (i := 117) rfl)) (hs _ (List.mem_of_getElem? (i := 118) rfl)) (hs _ (List.mem_of_getElem? (i := 119) rfl)) (hs _ (List.mem_of_getElem? (i := 120) rfl)) (fun j hj => by
    match j, hj with
    | 0, _ => exact (hs _ (List.mem_of_getElem? (i := 121) rfl))
    | 1, _ => exact (hs _ (List.mem_of_getElem? (i := 122) rfl))
    | 2, _ => exact (hs _ (List.mem_of_getElem? (i := 123) rfl))
    | 3, _ => exact (hs _ (List.mem_of_getElem? (i := 124) rfl))
    | 4, _ => exact (hs _ (List.mem_of_getElem? (i := 125) rfl))
    | 5, _ => exact (hs _ (List.mem_of_getElem? (i := 126) rfl))
    | 6, _ => exact (hs _ (List.mem_of_getElem? (i := 127) rfl))
    | j + 7, hj => exact absurd hj (by simp)) hA
  obtain ⟨qs10, ts10, r10_1, r10_2, r10_3, r10_4, r10_5⟩ := str_of (A := lA s) (tm := Term.string "GentleLetters$DeskReader" 97) (bs := [119, 111, 114, 100]) (by decide) (hs _ (List.mem_of_getElem? (i := 128) rfl)) (hs _ (List.mem_of_getElem? (i := 129) rfl)) (hs _ (List.mem_of_getElem? (i := 130) rfl)) (hs _ (List.mem_of_getElem? (i := 131) rfl)) (fun j hj => by
    match j, hj with
    | 0, _ => exact (hs _ (List.mem_of_getElem? (i := 132) rfl))
    | 1, _ => exact (hs _ (List.mem_of_getElem? (i := 133) rfl))
    | 2, _ => exact (hs _ (List.mem_of_getElem? (i := 134) rfl))
    | 3, _ => exact (hs _ (List.mem_of_getElem? (i := 135) rfl))
    | j + 4, hj => exact absurd hj (by simp)) hA
  obtain ⟨qs11, ts11, r11_1, r11_2, r11_3, r11_4, r11_5⟩ := str_of (A := lA s) (tm := Term.string "GentleLetters$DeskReader" 164) (bs := [115, 104, 97, 109, 101]) (by decide) (hs _ (List.mem_of_getElem? (i := 136) rfl)) (hs _ (List.mem_of_getElem? (i := 137) rfl)) (hs _ (List.mem_of_getElem? (i := 138) rfl)) (hs _ (List.mem_of_getElem? (i := 139) rfl)) (fun j hj => by
    match j, hj with
    | 0, _ => exact (hs _ (List.mem_of_getElem? (i := 140) rfl))
    | 1, _ => exact (hs _ (List.mem_of_getElem? (i := 141) rfl))
    | 2, _ => exact (hs _ (List.mem_of_getElem? (i := 142) rfl))
    | 3, _ => exact (hs _ (List.mem_of_getElem? (i := 143) rfl))
    | 4, _ => exact (hs _ (List.mem_of_getElem? (i := 144) rfl))
    | j + 5, hj => exact absurd hj (by simp)) hA
  obtain ⟨qs12, ts12, r12_1, r12_2, r12_3, r12_4, r12_5⟩ := str_of (A := lA s) (tm := Term.string "GentleLetters$DeskReader" 166) (bs := [111, 102]) (by decide) (hs _ (List.mem_of_getElem? (i := 145) rfl)) (hs _ (List.mem_of_getElem? (i := 146) rfl)) (hs _ (List.mem_of_getElem? (i := 147) rfl)) (hs _ (List.mem_of_getElem? (i := 148) rfl)) (fun j hj => by
    match j, hj with
    | 0, _ => exact (hs _ (List.mem_of_getElem? (i := 149) rfl))
    | 1, _ => exact (hs _ (List.mem_of_getElem? (i := 150) rfl))
    | j + 2, hj => exact absurd hj (by simp)) hA
  obtain ⟨qs13, ts13, r13_1, r13_2, r13_3, r13_4, r13_5⟩ := str_of (A := lA s) (tm := Term.string "GentleLetters$DeskReader" 105) (bs := [112, 108, 97, 110]) (by decide) (hs _ (List.mem_of_getElem? (i := 151) rfl)) (hs _ (List.mem_of_getElem? (i := 152) rfl)) (hs _ (List.mem_of_getElem? (i := 153) rfl)) (hs _ (List.mem_of_getElem? (i := 154) rfl)) (fun j hj => by
    match j, hj with
    | 0, _ => exact (hs _ (List.mem_of_getElem? (i := 155) rfl))
    | 1, _ => exact (hs _ (List.mem_of_getElem? (i := 156) rfl))
    | 2, _ => exact (hs _ (List.mem_of_getElem? (i := 157) rfl))
    | 3, _ => exact (hs _ (List.mem_of_getElem? (i := 158) rfl))
    | j + 4, hj => exact absurd hj (by simp)) hA
  obtain ⟨qs14, ts14, r14_1, r14_2, r14_3, r14_4, r14_5⟩ := str_of (A := lA s) (tm := Term.string "GentleLetters$DeskReader" 113) (bs := [110, 101, 119, 115]) (by decide) (hs _ (List.mem_of_getElem? (i := 159) rfl)) (hs _ (List.mem_of_getElem? (i := 160) rfl)) (hs _ (List.mem_of_getElem? (i := 161) rfl)) (hs _ (List.mem_of_getElem? (i := 162) rfl)) (fun j hj => by
    match j, hj with
    | 0, _ => exact (hs _ (List.mem_of_getElem? (i := 163) rfl))
    | 1, _ => exact (hs _ (List.mem_of_getElem? (i := 164) rfl))
    | 2, _ => exact (hs _ (List.mem_of_getElem? (i := 165) rfl))
    | 3, _ => exact (hs _ (List.mem_of_getElem? (i := 166) rfl))
    | j + 4, hj => exact absurd hj (by simp)) hA
  obtain ⟨qs15, ts15, r15_1, r15_2, r15_3, r15_4, r15_5⟩ := str_of (A := lA s) (tm := Term.string "GentleLetters$DeskReader" 180) (bs := [103, 111, 111, 100]) (by decide) (hs _ (List.mem_of_getElem? (i := 167) rfl)) (hs _ (List.mem_of_getElem? (i := 168) rfl)) (hs _ (List.mem_of_getElem? (i := 169) rfl)) (hs _ (List.mem_of_getElem? (i := 170) rfl)) (fun j hj => by
    match j, hj with
    | 0, _ => exact (hs _ (List.mem_of_getElem? (i := 171) rfl))
    | 1, _ => exact (hs _ (List.mem_of_getElem? (i := 172) rfl))
    | 2, _ => exact (hs _ (List.mem_of_getElem? (i := 173) rfl))
    | 3, _ => exact (hs _ (List.mem_of_getElem? (i := 174) rfl))
    | j + 4, hj => exact absurd hj (by simp)) hA
  obtain ⟨qs16, ts16, r16_1, r16_2, r16_3, r16_4, r16_5⟩ := str_of (A := lA s) (tm := Term.string "GentleLetters$DeskReader" 182) (bs := [98, 97, 100]) (by decide) (hs _ (List.mem_of_getElem? (i := 175) rfl)) (hs _ (List.mem_of_getElem? (i := 176) rfl)) (hs _ (List.mem_of_getElem? (i := 177) rfl)) (hs _ (List.mem_of_getElem? (i := 178) rfl)) (fun j hj => by
    match j, hj with
    | 0, _ => exact (hs _ (List.mem_of_getElem? (i := 179) rfl))
    | 1, _ => exact (hs _ (List.mem_of_getElem? (i := 180) rfl))
    | 2, _ => exact (hs _ (List.mem_of_getElem? (i := 181) rfl))
    | j + 3, hj => exact absurd hj (by simp)) hA
  obtain ⟨qs17, ts17, r17_1, r17_2, r17_3, r17_4, r17_5⟩ := str_of (A := lA s) (tm := Term.string "GentleLetters$DeskReader" 120) (bs := [116, 101, 108, 108, 115]) (by decide) (hs _ (List.mem_of_getElem? (i := 182) rfl)) (hs _ (List.mem_of_getElem? (i := 183) rfl)) (hs _ (List.mem_of_getElem? (i := 184) rfl)) (hs _ (List.mem_of_getElem? (i := 185) rfl)) (fun j hj => by
    match j, hj with
    | 0, _ => exact (hs _ (List.mem_of_getElem? (i := 186) rfl))
    | 1, _ => exact (hs _ (List.mem_of_getElem? (i := 187) rfl))
    | 2, _ => exact (hs _ (List.mem_of_getElem? (i := 188) rfl))
    | 3, _ => exact (hs _ (List.mem_of_getElem? (i := 189) rfl))
    | 4, _ => exact (hs _ (List.mem_of_getElem? (i := 190) rfl))
    | j + 5, hj => exact absurd hj (by simp)) hA
  obtain ⟨qs18, ts18, r18_1, r18_2, r18_3, r18_4, r18_5⟩ := str_of (A := lA s) (tm := Term.string "GentleLettersModel" 168) (bs := [100, 101, 115, 107]) (by decide) (hs _ (List.mem_of_getElem? (i := 191) rfl)) (hs _ (List.mem_of_getElem? (i := 192) rfl)) (hs _ (List.mem_of_getElem? (i := 193) rfl)) (hs _ (List.mem_of_getElem? (i := 194) rfl)) (fun j hj => by
    match j, hj with
    | 0, _ => exact (hs _ (List.mem_of_getElem? (i := 195) rfl))
    | 1, _ => exact (hs _ (List.mem_of_getElem? (i := 196) rfl))
    | 2, _ => exact (hs _ (List.mem_of_getElem? (i := 197) rfl))
    | 3, _ => exact (hs _ (List.mem_of_getElem? (i := 198) rfl))
    | j + 4, hj => exact absurd hj (by simp)) hA
  obtain ⟨qs19, ts19, r19_1, r19_2, r19_3, r19_4, r19_5⟩ := str_of (A := lA s) (tm := Term.string "GentleLettersModel" 170) (bs := [115, 116, 97, 116, 101, 115]) (by decide) (hs _ (List.mem_of_getElem? (i := 200) rfl)) (hs _ (List.mem_of_getElem? (i := 201) rfl)) (hs _ (List.mem_of_getElem? (i := 202) rfl)) (hs _ (List.mem_of_getElem? (i := 203) rfl)) (fun j hj => by
    match j, hj with
    | 0, _ => exact (hs _ (List.mem_of_getElem? (i := 204) rfl))
    | 1, _ => exact (hs _ (List.mem_of_getElem? (i := 205) rfl))
    | 2, _ => exact (hs _ (List.mem_of_getElem? (i := 206) rfl))
    | 3, _ => exact (hs _ (List.mem_of_getElem? (i := 207) rfl))
    | 4, _ => exact (hs _ (List.mem_of_getElem? (i := 208) rfl))
    | 5, _ => exact (hs _ (List.mem_of_getElem? (i := 209) rfl))
    | j + 6, hj => exact absurd hj (by simp)) hA
  obtain ⟨qs20, ts20, r20_1, r20_2, r20_3, r20_4, r20_5⟩ := str_of (A := lA s) (tm := Term.string "GentleLettersModel" 176) (bs := [114, 101, 97, 108, 108, 121]) (by decide) (hs _ (List.mem_of_getElem? (i := 211) rfl)) (hs _ (List.mem_of_getElem? (i := 212) rfl)) (hs _ (List.mem_of_getElem? (i := 213) rfl)) (hs _ (List.mem_of_getElem? (i := 214) rfl)) (fun j hj => by
    match j, hj with
    | 0, _ => exact (hs _ (List.mem_of_getElem? (i := 215) rfl))
    | 1, _ => exact (hs _ (List.mem_of_getElem? (i := 216) rfl))
    | 2, _ => exact (hs _ (List.mem_of_getElem? (i := 217) rfl))
    | 3, _ => exact (hs _ (List.mem_of_getElem? (i := 218) rfl))
    | 4, _ => exact (hs _ (List.mem_of_getElem? (i := 219) rfl))
    | 5, _ => exact (hs _ (List.mem_of_getElem? (i := 220) rfl))
    | j + 6, hj => exact absurd hj (by simp)) hA
  obtain ⟨qs21, ts21, r21_1, r21_2, r21_3, r21_4, r21_5⟩ := str_of (A := lA s) (tm := Term.string "GentleLettersModel" 181) (bs := [100, 97, 121, 115]) (by decide) (hs _ (List.mem_of_getElem? (i := 222) rfl)) (hs _ (List.mem_of_getElem? (i := 223) rfl)) (hs _ (List.mem_of_getElem? (i := 224) rfl)) (hs _ (List.mem_of_getElem? (i := 225) rfl)) (fun j hj => by
    match j, hj with
    | 0, _ => exact (hs _ (List.mem_of_getElem? (i := 226) rfl))
    | 1, _ => exact (hs _ (List.mem_of_getElem? (i := 227) rfl))
    | 2, _ => exact (hs _ (List.mem_of_getElem? (i := 228) rfl))
    | 3, _ => exact (hs _ (List.mem_of_getElem? (i := 229) rfl))
    | j + 4, hj => exact absurd hj (by simp)) hA
  obtain ⟨qs22, ts22, r22_1, r22_2, r22_3, r22_4, r22_5⟩ := str_of (A := lA s) (tm := Term.string "GentleLettersModel" 183) (bs := [104, 101, 97, 108]) (by decide) (hs _ (List.mem_of_getElem? (i := 231) rfl)) (hs _ (List.mem_of_getElem? (i := 232) rfl)) (hs _ (List.mem_of_getElem? (i := 233) rfl)) (hs _ (List.mem_of_getElem? (i := 234) rfl)) (fun j hj => by
    match j, hj with
    | 0, _ => exact (hs _ (List.mem_of_getElem? (i := 235) rfl))
    | 1, _ => exact (hs _ (List.mem_of_getElem? (i := 236) rfl))
    | 2, _ => exact (hs _ (List.mem_of_getElem? (i := 237) rfl))
    | 3, _ => exact (hs _ (List.mem_of_getElem? (i := 238) rfl))
    | j + 4, hj => exact absurd hj (by simp)) hA
  obtain ⟨qs23, ts23, r23_1, r23_2, r23_3, r23_4, r23_5⟩ := str_of (A := lA s) (tm := Term.string "GentleLettersModel" 185) (bs := [108, 101, 97, 107]) (by decide) (hs _ (List.mem_of_getElem? (i := 240) rfl)) (hs _ (List.mem_of_getElem? (i := 241) rfl)) (hs _ (List.mem_of_getElem? (i := 242) rfl)) (hs _ (List.mem_of_getElem? (i := 243) rfl)) (fun j hj => by
    match j, hj with
    | 0, _ => exact (hs _ (List.mem_of_getElem? (i := 244) rfl))
    | 1, _ => exact (hs _ (List.mem_of_getElem? (i := 245) rfl))
    | 2, _ => exact (hs _ (List.mem_of_getElem? (i := 246) rfl))
    | 3, _ => exact (hs _ (List.mem_of_getElem? (i := 247) rfl))
    | j + 4, hj => exact absurd hj (by simp)) hA
  obtain ⟨qs24, ts24, r24_1, r24_2, r24_3, r24_4, r24_5⟩ := str_of (A := lA s) (tm := Term.string "GentleLettersModel" 198) (bs := [103, 114, 97, 100, 101, 115]) (by decide) (hs _ (List.mem_of_getElem? (i := 249) rfl)) (hs _ (List.mem_of_getElem? (i := 250) rfl)) (hs _ (List.mem_of_getElem? (i := 251) rfl)) (hs _ (List.mem_of_getElem? (i := 252) rfl)) (fun j hj => by
    match j, hj with
    | 0, _ => exact (hs _ (List.mem_of_getElem? (i := 253) rfl))
    | 1, _ => exact (hs _ (List.mem_of_getElem? (i := 254) rfl))
    | 2, _ => exact (hs _ (List.mem_of_getElem? (i := 255) rfl))
    | 3, _ => exact (hs _ (List.mem_of_getElem? (i := 256) rfl))
    | 4, _ => exact (hs _ (List.mem_of_getElem? (i := 257) rfl))
    | 5, _ => exact (hs _ (List.mem_of_getElem? (i := 258) rfl))
    | j + 6, hj => exact absurd hj (by simp)) hA
  obtain ⟨qs25, ts25, r25_1, r25_2, r25_3, r25_4, r25_5⟩ := str_of (A := lA s) (tm := Term.string "GentleLettersModel" 200) (bs := [104, 101, 97, 114, 101, 114]) (by decide) (hs _ (List.mem_of_getElem? (i := 260) rfl)) (hs _ (List.mem_of_getElem? (i := 261) rfl)) (hs _ (List.mem_of_getElem? (i := 262) rfl)) (hs _ (List.mem_of_getElem? (i := 263) rfl)) (fun j hj => by
    match j, hj with
    | 0, _ => exact (hs _ (List.mem_of_getElem? (i := 264) rfl))
    | 1, _ => exact (hs _ (List.mem_of_getElem? (i := 265) rfl))
    | 2, _ => exact (hs _ (List.mem_of_getElem? (i := 266) rfl))
    | 3, _ => exact (hs _ (List.mem_of_getElem? (i := 267) rfl))
    | 4, _ => exact (hs _ (List.mem_of_getElem? (i := 268) rfl))
    | 5, _ => exact (hs _ (List.mem_of_getElem? (i := 269) rfl))
    | j + 6, hj => exact absurd hj (by simp)) hA
  obtain ⟨qs26, ts26, r26_1, r26_2, r26_3, r26_4, r26_5⟩ := str_of (A := lA s) (tm := Term.string "GentleLettersModel" 202) (bs := [119, 111, 114, 100]) (by decide) (hs _ (List.mem_of_getElem? (i := 271) rfl)) (hs _ (List.mem_of_getElem? (i := 272) rfl)) (hs _ (List.mem_of_getElem? (i := 273) rfl)) (hs _ (List.mem_of_getElem? (i := 274) rfl)) (fun j hj => by
    match j, hj with
    | 0, _ => exact (hs _ (List.mem_of_getElem? (i := 275) rfl))
    | 1, _ => exact (hs _ (List.mem_of_getElem? (i := 276) rfl))
    | 2, _ => exact (hs _ (List.mem_of_getElem? (i := 277) rfl))
    | 3, _ => exact (hs _ (List.mem_of_getElem? (i := 278) rfl))
    | j + 4, hj => exact absurd hj (by simp)) hA
  obtain ⟨qs27, ts27, r27_1, r27_2, r27_3, r27_4, r27_5⟩ := str_of (A := lA s) (tm := Term.string "GentleLettersModel" 204) (bs := [112, 108, 97, 110]) (by decide) (hs _ (List.mem_of_getElem? (i := 280) rfl)) (hs _ (List.mem_of_getElem? (i := 281) rfl)) (hs _ (List.mem_of_getElem? (i := 282) rfl)) (hs _ (List.mem_of_getElem? (i := 283) rfl)) (fun j hj => by
    match j, hj with
    | 0, _ => exact (hs _ (List.mem_of_getElem? (i := 284) rfl))
    | 1, _ => exact (hs _ (List.mem_of_getElem? (i := 285) rfl))
    | 2, _ => exact (hs _ (List.mem_of_getElem? (i := 286) rfl))
    | 3, _ => exact (hs _ (List.mem_of_getElem? (i := 287) rfl))
    | j + 4, hj => exact absurd hj (by simp)) hA
  obtain ⟨qs28, ts28, r28_1, r28_2, r28_3, r28_4, r28_5⟩ := str_of (A := lA s) (tm := Term.string "GentleLettersModel" 206) (bs := [110, 101, 119, 115]) (by decide) (hs _ (List.mem_of_getElem? (i := 289) rfl)) (hs _ (List.mem_of_getElem? (i := 290) rfl)) (hs _ (List.mem_of_getElem? (i := 291) rfl)) (hs _ (List.mem_of_getElem? (i := 292) rfl)) (fun j hj => by
    match j, hj with
    | 0, _ => exact (hs _ (List.mem_of_getElem? (i := 293) rfl))
    | 1, _ => exact (hs _ (List.mem_of_getElem? (i := 294) rfl))
    | 2, _ => exact (hs _ (List.mem_of_getElem? (i := 295) rfl))
    | 3, _ => exact (hs _ (List.mem_of_getElem? (i := 296) rfl))
    | j + 4, hj => exact absurd hj (by simp)) hA
  obtain ⟨qs29, ts29, r29_1, r29_2, r29_3, r29_4, r29_5⟩ := str_of (A := lA s) (tm := Term.string "GentleLettersModel" 208) (bs := [116, 101, 108, 108, 115]) (by decide) (hs _ (List.mem_of_getElem? (i := 298) rfl)) (hs _ (List.mem_of_getElem? (i := 299) rfl)) (hs _ (List.mem_of_getElem? (i := 300) rfl)) (hs _ (List.mem_of_getElem? (i := 301) rfl)) (fun j hj => by
    match j, hj with
    | 0, _ => exact (hs _ (List.mem_of_getElem? (i := 302) rfl))
    | 1, _ => exact (hs _ (List.mem_of_getElem? (i := 303) rfl))
    | 2, _ => exact (hs _ (List.mem_of_getElem? (i := 304) rfl))
    | 3, _ => exact (hs _ (List.mem_of_getElem? (i := 305) rfl))
    | 4, _ => exact (hs _ (List.mem_of_getElem? (i := 306) rfl))
    | j + 5, hj => exact absurd hj (by simp)) hA
  obtain ⟨qs30, ts30, r30_1, r30_2, r30_3, r30_4, r30_5⟩ := str_of (A := lA s) (tm := Term.string "GentleLettersModel" 187) (bs := [116, 104, 105, 110, 107, 115]) (by decide) (hs _ (List.mem_of_getElem? (i := 308) rfl)) (hs _ (List.mem_of_getElem? (i := 309) rfl)) (hs _ (List.mem_of_getElem? (i := 310) rfl)) (hs _ (List.mem_of_getElem? (i := 311) rfl)) (fun j hj => by
    match j, hj with
    | 0, _ => exact (hs _ (List.mem_of_getElem? (i := 312) rfl))
    | 1, _ => exact (hs _ (List.mem_of_getElem? (i := 313) rfl))
    | 2, _ => exact (hs _ (List.mem_of_getElem? (i := 314) rfl))
    | 3, _ => exact (hs _ (List.mem_of_getElem? (i := 315) rfl))
    | 4, _ => exact (hs _ (List.mem_of_getElem? (i := 316) rfl))
    | 5, _ => exact (hs _ (List.mem_of_getElem? (i := 317) rfl))
    | j + 6, hj => exact absurd hj (by simp)) hA
  obtain ⟨qs31, ts31, r31_1, r31_2, r31_3, r31_4, r31_5⟩ := str_of (A := lA s) (tm := Term.string "GentleLettersModel" 189) (bs := [114, 101, 99, 107, 111, 110, 115]) (by decide) (hs _ (List.mem_of_getElem? (i := 319) rfl)) (hs _ (List.mem_of_getElem? (i := 320) rfl)) (hs _ (List.mem_of_getElem? (i := 321) rfl)) (hs _ (List.mem_of_getElem? (i := 322) rfl)) (fun j hj => by
    match j, hj with
    | 0, _ => exact (hs _ (List.mem_of_getElem? (i := 323) rfl))
    | 1, _ => exact (hs _ (List.mem_of_getElem? (i := 324) rfl))
    | 2, _ => exact (hs _ (List.mem_of_getElem? (i := 325) rfl))
    | 3, _ => exact (hs _ (List.mem_of_getElem? (i := 326) rfl))
    | 4, _ => exact (hs _ (List.mem_of_getElem? (i := 327) rfl))
    | 5, _ => exact (hs _ (List.mem_of_getElem? (i := 328) rfl))
    | 6, _ => exact (hs _ (List.mem_of_getElem? (i := 329) rfl))
    | j + 7, hj => exact absurd hj (by simp)) hA
  obtain ⟨qs32, ts32, r32_1, r32_2, r32_3, r32_4, r32_5⟩ := str_of (A := lA s) (tm := Term.string "GentleLettersModel" 191) (bs := [115, 104, 97, 109, 101]) (by decide) (hs _ (List.mem_of_getElem? (i := 331) rfl)) (hs _ (List.mem_of_getElem? (i := 332) rfl)) (hs _ (List.mem_of_getElem? (i := 333) rfl)) (hs _ (List.mem_of_getElem? (i := 334) rfl)) (fun j hj => by
    match j, hj with
    | 0, _ => exact (hs _ (List.mem_of_getElem? (i := 335) rfl))
    | 1, _ => exact (hs _ (List.mem_of_getElem? (i := 336) rfl))
    | 2, _ => exact (hs _ (List.mem_of_getElem? (i := 337) rfl))
    | 3, _ => exact (hs _ (List.mem_of_getElem? (i := 338) rfl))
    | 4, _ => exact (hs _ (List.mem_of_getElem? (i := 339) rfl))
    | j + 5, hj => exact absurd hj (by simp)) hA
  obtain ⟨qs33, ts33, r33_1, r33_2, r33_3, r33_4, r33_5⟩ := str_of (A := lA s) (tm := Term.string "GentleLettersModel" 193) (bs := [111, 102]) (by decide) (hs _ (List.mem_of_getElem? (i := 341) rfl)) (hs _ (List.mem_of_getElem? (i := 342) rfl)) (hs _ (List.mem_of_getElem? (i := 343) rfl)) (hs _ (List.mem_of_getElem? (i := 344) rfl)) (fun j hj => by
    match j, hj with
    | 0, _ => exact (hs _ (List.mem_of_getElem? (i := 345) rfl))
    | 1, _ => exact (hs _ (List.mem_of_getElem? (i := 346) rfl))
    | j + 2, hj => exact absurd hj (by simp)) hA
  obtain ⟨qs34, ts34, r34_1, r34_2, r34_3, r34_4, r34_5⟩ := str_of (A := lA s) (tm := Term.string "GentleLettersModel" 195) (bs := [103, 111, 111, 100]) (by decide) (hs _ (List.mem_of_getElem? (i := 348) rfl)) (hs _ (List.mem_of_getElem? (i := 349) rfl)) (hs _ (List.mem_of_getElem? (i := 350) rfl)) (hs _ (List.mem_of_getElem? (i := 351) rfl)) (fun j hj => by
    match j, hj with
    | 0, _ => exact (hs _ (List.mem_of_getElem? (i := 352) rfl))
    | 1, _ => exact (hs _ (List.mem_of_getElem? (i := 353) rfl))
    | 2, _ => exact (hs _ (List.mem_of_getElem? (i := 354) rfl))
    | 3, _ => exact (hs _ (List.mem_of_getElem? (i := 355) rfl))
    | j + 4, hj => exact absurd hj (by simp)) hA
  obtain ⟨qs35, ts35, r35_1, r35_2, r35_3, r35_4, r35_5⟩ := str_of (A := lA s) (tm := Term.string "GentleLettersModel" 196) (bs := [98, 97, 100]) (by decide) (hs _ (List.mem_of_getElem? (i := 357) rfl)) (hs _ (List.mem_of_getElem? (i := 358) rfl)) (hs _ (List.mem_of_getElem? (i := 359) rfl)) (hs _ (List.mem_of_getElem? (i := 360) rfl)) (fun j hj => by
    match j, hj with
    | 0, _ => exact (hs _ (List.mem_of_getElem? (i := 361) rfl))
    | 1, _ => exact (hs _ (List.mem_of_getElem? (i := 362) rfl))
    | 2, _ => exact (hs _ (List.mem_of_getElem? (i := 363) rfl))
    | j + 3, hj => exact absurd hj (by simp)) hA
  refine ⟨((fun k => ([c0, c1, c2, c3, c4, c5, c6, c7, c8, c9, c10, c11, c12] : List ClassId).getD k 0, fun k => ([j0, j1, j2, j3, j4, j5, j6, j7, j8, j9, j10, j11, j12] : List (Nat → Nat)).getD k (fun _ => 0)), fun k => ([a0, a1, a2, a3, a4, a5, 0, 0, 0, 0, qs0, ts0, qs1, ts1, qs2, ts2, qs3, ts3, qs4, ts4, qs5, ts5, qs6, ts6, qs7, ts7, qs8, ts8, qs9, ts9, qs10, ts10, qs11, ts11, qs12, ts12, qs13, ts13, qs14, ts14, qs15, ts15, qs16, ts16, qs17, ts17, qs18, ts18, qs19, ts19, qs20, ts20, qs21, ts21, qs22, ts22, qs23, ts23, qs24, ts24, qs25, ts25, qs26, ts26, qs27, ts27, qs28, ts28, qs29, ts29, qs30, ts30, qs31, ts31, qs32, ts32, qs33, ts33, qs34, ts34, qs35, ts35] : List ClassId).getD k 0), ⟨⟨?_, ?_⟩, ?_, ?_, ?_⟩, ?_, ?_, ?_⟩
  · intro k q hq
    match k, hq with
    | 0, hq => cases hq; exact hn0
    | 1, hq => cases hq; exact hn1
    | 2, hq => cases hq; exact hn2
    | 3, hq => cases hq; exact hn3
    | 4, hq => cases hq; exact hn4
    | 5, hq => cases hq; exact hn5
    | 6, hq => cases hq; exact hn6
    | 7, hq => cases hq; exact hn7
    | 8, hq => cases hq; exact hn8
    | 9, hq => cases hq; exact hn9
    | 10, hq => cases hq; exact hn10
    | 11, hq => cases hq; exact hn11
    | 12, hq => cases hq; exact hn12
    | k + 13, hq => simp [vwCl] at hq
  · intro k q hq
    match k, hq with
    | 0, hq => cases hq; exact ⟨fun n z => ⟨fun k h => (by cases h), k0, f0, o0, z0⟩, e0⟩
    | 1, hq => cases hq; exact ⟨fun n z => ⟨fun k h => (by cases h), k1, f1, o1, z1⟩, e1⟩
    | 2, hq => cases hq; exact ⟨fun n z => ⟨fun k h => (by cases h), k2, f2, o2, z2⟩, e2⟩
    | 3, hq => cases hq; exact ⟨fun n z => ⟨fun k h => (by cases h), k3, f3, o3, z3⟩, e3⟩
    | 4, hq => cases hq; exact ⟨fun n z => ⟨fun k h => (by cases h), k4, f4, o4, z4⟩, k4, o4, f4, z4, y4, e4⟩
    | 5, hq => cases hq; exact ⟨fun n z => ⟨fun k h => (by cases h), k5, f5, o5, z5⟩, k5, o5, f5, z5, y5, e5⟩
    | k + 6, hq => simp [TY] at hq
  · intro w hw
    have h1 := nests_ok w hw
    have h2 := hts w (List.mem_filter.mp hw).1
    cases w <;> first | exact va_Nw.of rfl h2 | exact absurd h1 (by simp [isNest])
  · exact va_AO.of v0
  · exact va_AO.of v1
  · exact va_Zof (hts _ (tin_3 _ (List.mem_of_getElem? (i := 19) rfl))) (hB _ b_624) (va_eqt (hs _ (List.mem_of_getElem? (i := 4) rfl))) hA
  · exact va_Zqof (hts _ (tin_3 _ (List.mem_of_getElem? (i := 35) rfl))) (hB _ b_636) (hs _ (List.mem_of_getElem? (i := 5) rfl)) hA
  · intro i q hq
    match i, hq with
    | 0, hq => obtain rfl := Option.some.inj (hq : (some ("GentleLetters$DeskReader", 125, "desk", [100, 101, 115, 107]) : Option (String × Nat × String × List Int32)) = some q); exact ⟨vk_R.of (hts _ (tin_3 _ (List.mem_of_getElem? (i := 1) rfl))) r0_1, r0_2, r0_3, r0_4, r0_5⟩
    | 1, hq => obtain rfl := Option.some.inj (hq : (some ("GentleLetters$DeskReader", 127, "states", [115, 116, 97, 116, 101, 115]) : Option (String × Nat × String × List Int32)) = some q); exact ⟨vk_R.of (hts _ (tin_3 _ (List.mem_of_getElem? (i := 63) rfl))) r1_1, r1_2, r1_3, r1_4, r1_5⟩
    | 2, hq => obtain rfl := Option.some.inj (hq : (some ("GentleLetters$DeskReader", 135, "really", [114, 101, 97, 108, 108, 121]) : Option (String × Nat × String × List Int32)) = some q); exact ⟨vk_R.of (hts _ (tin_3 _ (List.mem_of_getElem? (i := 76) rfl))) r2_1, r2_2, r2_3, r2_4, r2_5⟩
    | 3, hq => obtain rfl := Option.some.inj (hq : (some ("GentleLetters$DeskReader", 139, "days", [100, 97, 121, 115]) : Option (String × Nat × String × List Int32)) = some q); exact ⟨vk_R.of (hts _ (tin_3 _ (List.mem_of_getElem? (i := 77) rfl))) r3_1, r3_2, r3_3, r3_4, r3_5⟩
    | 4, hq => obtain rfl := Option.some.inj (hq : (some ("GentleLetters$DeskReader", 143, "heal", [104, 101, 97, 108]) : Option (String × Nat × String × List Int32)) = some q); exact ⟨vk_R.of (hts _ (tin_3 _ (List.mem_of_getElem? (i := 78) rfl))) r4_1, r4_2, r4_3, r4_4, r4_5⟩
    | 5, hq => obtain rfl := Option.some.inj (hq : (some ("GentleLetters$DeskReader", 147, "leak", [108, 101, 97, 107]) : Option (String × Nat × String × List Int32)) = some q); exact ⟨vk_R.of (hts _ (tin_3 _ (List.mem_of_getElem? (i := 79) rfl))) r5_1, r5_2, r5_3, r5_4, r5_5⟩
    | 6, hq => obtain rfl := Option.some.inj (hq : (some ("GentleLetters$DeskReader", 84, "grades", [103, 114, 97, 100, 101, 115]) : Option (String × Nat × String × List Int32)) = some q); exact ⟨vk_R.of (hts _ (tin_3 _ (List.mem_of_getElem? (i := 80) rfl))) r6_1, r6_2, r6_3, r6_4, r6_5⟩
    | 7, hq => obtain rfl := Option.some.inj (hq : (some ("GentleLetters$DeskReader", 89, "hearer", [104, 101, 97, 114, 101, 114]) : Option (String × Nat × String × List Int32)) = some q); exact ⟨vk_R.of (hts _ (tin_3 _ (List.mem_of_getElem? (i := 85) rfl))) r7_1, r7_2, r7_3, r7_4, r7_5⟩
    | 8, hq => obtain rfl := Option.some.inj (hq : (some ("GentleLetters$DeskReader", 154, "thinks", [116, 104, 105, 110, 107, 115]) : Option (String × Nat × String × List Int32)) = some q); exact ⟨vk_R.of (hts _ (tin_3 _ (List.mem_of_getElem? (i := 90) rfl))) r8_1, r8_2, r8_3, r8_4, r8_5⟩
    | 9, hq => obtain rfl := Option.some.inj (hq : (some ("GentleLetters$DeskReader", 159, "reckons", [114, 101, 99, 107, 111, 110, 115]) : Option (String × Nat × String × List Int32)) = some q); exact ⟨vk_R.of (hts _ (tin_3 _ (List.mem_of_getElem? (i := 91) rfl))) r9_1, r9_2, r9_3, r9_4, r9_5⟩
    | 10, hq => obtain rfl := Option.some.inj (hq : (some ("GentleLetters$DeskReader", 97, "word", [119, 111, 114, 100]) : Option (String × Nat × String × List Int32)) = some q); exact ⟨vk_R.of (hts _ (tin_3 _ (List.mem_of_getElem? (i := 92) rfl))) r10_1, r10_2, r10_3, r10_4, r10_5⟩
    | 11, hq => obtain rfl := Option.some.inj (hq : (some ("GentleLetters$DeskReader", 164, "shame", [115, 104, 97, 109, 101]) : Option (String × Nat × String × List Int32)) = some q); exact ⟨vk_R.of (hts _ (tin_3 _ (List.mem_of_getElem? (i := 97) rfl))) r11_1, r11_2, r11_3, r11_4, r11_5⟩
    | 12, hq => obtain rfl := Option.some.inj (hq : (some ("GentleLetters$DeskReader", 166, "of", [111, 102]) : Option (String × Nat × String × List Int32)) = some q); exact ⟨vk_R.of (hts _ (tin_3 _ (List.mem_of_getElem? (i := 98) rfl))) r12_1, r12_2, r12_3, r12_4, r12_5⟩
    | 13, hq => obtain rfl := Option.some.inj (hq : (some ("GentleLetters$DeskReader", 105, "plan", [112, 108, 97, 110]) : Option (String × Nat × String × List Int32)) = some q); exact ⟨vk_R.of (hts _ (tin_3 _ (List.mem_of_getElem? (i := 99) rfl))) r13_1, r13_2, r13_3, r13_4, r13_5⟩
    | 14, hq => obtain rfl := Option.some.inj (hq : (some ("GentleLetters$DeskReader", 113, "news", [110, 101, 119, 115]) : Option (String × Nat × String × List Int32)) = some q); exact ⟨vk_R.of (hts _ (tin_3 _ (List.mem_of_getElem? (i := 104) rfl))) r14_1, r14_2, r14_3, r14_4, r14_5⟩
    | 15, hq => obtain rfl := Option.some.inj (hq : (some ("GentleLetters$DeskReader", 180, "good", [103, 111, 111, 100]) : Option (String × Nat × String × List Int32)) = some q); exact ⟨vk_R.of (hts _ (tin_3 _ (List.mem_of_getElem? (i := 109) rfl))) r15_1, r15_2, r15_3, r15_4, r15_5⟩
    | 16, hq => obtain rfl := Option.some.inj (hq : (some ("GentleLetters$DeskReader", 182, "bad", [98, 97, 100]) : Option (String × Nat × String × List Int32)) = some q); exact ⟨vk_R.of (hts _ (tin_3 _ (List.mem_of_getElem? (i := 110) rfl))) r16_1, r16_2, r16_3, r16_4, r16_5⟩
    | 17, hq => obtain rfl := Option.some.inj (hq : (some ("GentleLetters$DeskReader", 120, "tells", [116, 101, 108, 108, 115]) : Option (String × Nat × String × List Int32)) = some q); exact ⟨vk_R.of (hts _ (tin_3 _ (List.mem_of_getElem? (i := 111) rfl))) r17_1, r17_2, r17_3, r17_4, r17_5⟩
    | 18, hq => obtain rfl := Option.some.inj (hq : (some ("GentleLettersModel", 168, "desk", [100, 101, 115, 107]) : Option (String × Nat × String × List Int32)) = some q); exact ⟨vk_R.of (hts _ (tin_7 _ (List.mem_of_getElem? (i := 3) rfl))) r18_1, r18_2, r18_3, r18_4, r18_5⟩
    | 19, hq => obtain rfl := Option.some.inj (hq : (some ("GentleLettersModel", 170, "states", [115, 116, 97, 116, 101, 115]) : Option (String × Nat × String × List Int32)) = some q); exact ⟨vk_R.of (hts _ (tin_7 _ (List.mem_of_getElem? (i := 22) rfl))) r19_1, r19_2, r19_3, r19_4, r19_5⟩
    | 20, hq => obtain rfl := Option.some.inj (hq : (some ("GentleLettersModel", 176, "really", [114, 101, 97, 108, 108, 121]) : Option (String × Nat × String × List Int32)) = some q); exact ⟨vk_R.of (hts _ (tin_7 _ (List.mem_of_getElem? (i := 31) rfl))) r20_1, r20_2, r20_3, r20_4, r20_5⟩
    | 21, hq => obtain rfl := Option.some.inj (hq : (some ("GentleLettersModel", 181, "days", [100, 97, 121, 115]) : Option (String × Nat × String × List Int32)) = some q); exact ⟨vk_R.of (hts _ (tin_7 _ (List.mem_of_getElem? (i := 36) rfl))) r21_1, r21_2, r21_3, r21_4, r21_5⟩
    | 22, hq => obtain rfl := Option.some.inj (hq : (some ("GentleLettersModel", 183, "heal", [104, 101, 97, 108]) : Option (String × Nat × String × List Int32)) = some q); exact ⟨vk_R.of (hts _ (tin_7 _ (List.mem_of_getElem? (i := 37) rfl))) r22_1, r22_2, r22_3, r22_4, r22_5⟩
    | 23, hq => obtain rfl := Option.some.inj (hq : (some ("GentleLettersModel", 185, "leak", [108, 101, 97, 107]) : Option (String × Nat × String × List Int32)) = some q); exact ⟨vk_R.of (hts _ (tin_7 _ (List.mem_of_getElem? (i := 38) rfl))) r23_1, r23_2, r23_3, r23_4, r23_5⟩
    | 24, hq => obtain rfl := Option.some.inj (hq : (some ("GentleLettersModel", 198, "grades", [103, 114, 97, 100, 101, 115]) : Option (String × Nat × String × List Int32)) = some q); exact ⟨vk_R.of (hts _ (tin_7 _ (List.mem_of_getElem? (i := 43) rfl))) r24_1, r24_2, r24_3, r24_4, r24_5⟩
    | 25, hq => obtain rfl := Option.some.inj (hq : (some ("GentleLettersModel", 200, "hearer", [104, 101, 97, 114, 101, 114]) : Option (String × Nat × String × List Int32)) = some q); exact ⟨vk_R.of (hts _ (tin_7 _ (List.mem_of_getElem? (i := 44) rfl))) r25_1, r25_2, r25_3, r25_4, r25_5⟩
    | 26, hq => obtain rfl := Option.some.inj (hq : (some ("GentleLettersModel", 202, "word", [119, 111, 114, 100]) : Option (String × Nat × String × List Int32)) = some q); exact ⟨vk_R.of (hts _ (tin_7 _ (List.mem_of_getElem? (i := 45) rfl))) r26_1, r26_2, r26_3, r26_4, r26_5⟩
    | 27, hq => obtain rfl := Option.some.inj (hq : (some ("GentleLettersModel", 204, "plan", [112, 108, 97, 110]) : Option (String × Nat × String × List Int32)) = some q); exact ⟨vk_R.of (hts _ (tin_7 _ (List.mem_of_getElem? (i := 46) rfl))) r27_1, r27_2, r27_3, r27_4, r27_5⟩
    | 28, hq => obtain rfl := Option.some.inj (hq : (some ("GentleLettersModel", 206, "news", [110, 101, 119, 115]) : Option (String × Nat × String × List Int32)) = some q); exact ⟨vk_R.of (hts _ (tin_7 _ (List.mem_of_getElem? (i := 47) rfl))) r28_1, r28_2, r28_3, r28_4, r28_5⟩
    | 29, hq => obtain rfl := Option.some.inj (hq : (some ("GentleLettersModel", 208, "tells", [116, 101, 108, 108, 115]) : Option (String × Nat × String × List Int32)) = some q); exact ⟨vk_R.of (hts _ (tin_7 _ (List.mem_of_getElem? (i := 48) rfl))) r29_1, r29_2, r29_3, r29_4, r29_5⟩
    | 30, hq => obtain rfl := Option.some.inj (hq : (some ("GentleLettersModel", 187, "thinks", [116, 104, 105, 110, 107, 115]) : Option (String × Nat × String × List Int32)) = some q); exact ⟨vk_R.of (hts _ (tin_7 _ (List.mem_of_getElem? (i := 53) rfl))) r30_1, r30_2, r30_3, r30_4, r30_5⟩
    | 31, hq => obtain rfl := Option.some.inj (hq : (some ("GentleLettersModel", 189, "reckons", [114, 101, 99, 107, 111, 110, 115]) : Option (String × Nat × String × List Int32)) = some q); exact ⟨vk_R.of (hts _ (tin_7 _ (List.mem_of_getElem? (i := 54) rfl))) r31_1, r31_2, r31_3, r31_4, r31_5⟩
    | 32, hq => obtain rfl := Option.some.inj (hq : (some ("GentleLettersModel", 191, "shame", [115, 104, 97, 109, 101]) : Option (String × Nat × String × List Int32)) = some q); exact ⟨vk_R.of (hts _ (tin_7 _ (List.mem_of_getElem? (i := 59) rfl))) r32_1, r32_2, r32_3, r32_4, r32_5⟩
    | 33, hq => obtain rfl := Option.some.inj (hq : (some ("GentleLettersModel", 193, "of", [111, 102]) : Option (String × Nat × String × List Int32)) = some q); exact ⟨vk_R.of (hts _ (tin_7 _ (List.mem_of_getElem? (i := 60) rfl))) r33_1, r33_2, r33_3, r33_4, r33_5⟩
    | 34, hq => obtain rfl := Option.some.inj (hq : (some ("GentleLettersModel", 195, "good", [103, 111, 111, 100]) : Option (String × Nat × String × List Int32)) = some q); exact ⟨vk_R.of (hts _ (tin_7 _ (List.mem_of_getElem? (i := 69) rfl))) r34_1, r34_2, r34_3, r34_4, r34_5⟩
    | 35, hq => obtain rfl := Option.some.inj (hq : (some ("GentleLettersModel", 196, "bad", [98, 97, 100]) : Option (String × Nat × String × List Int32)) = some q); exact ⟨vk_R.of (hts _ (tin_7 _ (List.mem_of_getElem? (i := 70) rfl))) r35_1, r35_2, r35_3, r35_4, r35_5⟩
    | i + 36, hq => simp [STR] at hq
