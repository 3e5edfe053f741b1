theorem b_597 : Cond.fieldLinkNest RX11 380 "GentleLetters$Desk" "really" "I" RX11 ∈ nests := ne (tin_1 _ (List.mem_of_getElem? (i := 102) rfl)) rfl
theorem b_598 : Cond.fieldLinkNest RX11 383 "GentleLetters$Desk" "heal" "I" RX11 ∈ nests := ne (tin_1 _ (List.mem_of_getElem? (i := 112) rfl)) rfl
theorem b_599 : Cond.fieldLinkNest RX11 386 "GentleLetters$Desk" "leak" "I" RX11 ∈ nests := ne (tin_1 _ (List.mem_of_getElem? (i := 115) rfl)) rfl
theorem b_600 : Cond.fieldLinkNest RX11 389 "GentleLetters$Desk" "plans" "I" RX11 ∈ nests := ne (tin_1 _ (List.mem_of_getElem? (i := 132) rfl)) rfl
theorem b_601 : Cond.fieldLinkNest RX11 392 "GentleLetters$Desk" "news" "I" RX11 ∈ nests := ne (tin_1 _ (List.mem_of_getElem? (i := 136) rfl)) rfl
theorem b_602 : Cond.fieldLinkNest RX11 105 "GentleLetters$Desk" "lines" "I" RX11 ∈ nests := ne (tin_1 _ (List.mem_of_getElem? (i := 118) rfl)) rfl
theorem b_603 : Cond.fieldLinkNest RX11 355 "GentleLetters$Desk" "log" "LGentleLetters$Log;" RX11 ∈ nests := ne (tin_1 _ (List.mem_of_getElem? (i := 164) rfl)) rfl
theorem b_604 : Cond.fieldLinkNest RX11 359 "GentleLetters$Log" "size" "I" RX11 ∈ nests := ne (tin_1 _ (List.mem_of_getElem? (i := 86) rfl)) rfl
theorem b_605 : Cond.methodLink RX11 395 yX11_countRows ∈ BIG := bi (tin_6 _ (List.mem_of_getElem? (i := 56) rfl)) rfl
theorem b_606 : Cond.code yX11_countRows cX11_countRows 3 (some .int) ∈ BIG := bi (tin_6 _ (List.mem_of_getElem? (i := 59) rfl)) rfl
theorem b_607 : Cond.instanceMethod yX11_countRows ∈ BIG := bi (tin_6 _ (List.mem_of_getElem? (i := 58) rfl)) rfl
theorem b_608 : Cond.selects RX11 yX11_countRows yX11_countRows ∈ BIG := bi (sin_7 _ (List.mem_map.mpr ⟨(yX11_countRows, 11), List.mem_of_getElem? (i := 1) rfl, rfl⟩)) rfl
theorem b_609 : Cond.laysFinal RX3 RX3 "kinds" "[I" ∈ BIG := bi (tin_1 _ (List.mem_of_getElem? (i := 87) rfl)) rfl
theorem b_610 : Cond.laysFinal RX3 RX3 "places" "[I" ∈ BIG := bi (tin_1 _ (List.mem_of_getElem? (i := 89) rfl)) rfl
theorem b_611 : Cond.laysFinal RX3 RX3 "olds" "[I" ∈ BIG := bi (tin_1 _ (List.mem_of_getElem? (i := 91) rfl)) rfl
theorem b_612 : Cond.lays RX3 RX3 "size" "I" ∈ BIG := bi (tin_1 _ (List.mem_of_getElem? (i := 93) rfl)) rfl
theorem m_yX11_countRows : MV yX11_countRows cX11_countRows 3 (some .int) 0 := ⟨b_606, b_607, b_608, b_332, by decide +kernel⟩
theorem i_X3 : ∀ w ∈ u_ws RX3 TX3 4, w ∈ BIG := fun w hw => by
  obtain ⟨k, hk, rfl⟩ := List.mem_map.mp hw
  have hk := List.mem_range.mp hk
  match k, hk with
  | 0, _ => exact b_609
  | 1, _ => exact b_610
  | 2, _ => exact b_611
  | 3, _ => exact b_612
  | k + 4, hk => exact absurd hk (by omega)
theorem dX11_count_0 : decode cX11_count 0 = .ok (.iload_n 1, 1) := by decide +kernel
theorem dX11_count_1 : decode cX11_count 1 = .ok (.tableswitch 174 0 12 #[67, 75, 83, 91, 99, 107, 115, 123, 131, 139, 147, 158, 169], 67) := by decide +kernel
theorem dX11_count_68 : decode cX11_count 68 = .ok (.aload_n 0, 1) := by decide +kernel
theorem dX11_count_69 : decode cX11_count 69 = .ok (.getfield 19, 3) := by decide +kernel
theorem dX11_count_72 : decode cX11_count 72 = .ok (.getfield 264, 3) := by decide +kernel
theorem dX11_count_75 : decode cX11_count 75 = .ok (.ireturn, 1) := by decide +kernel
theorem dX11_count_76 : decode cX11_count 76 = .ok (.aload_n 0, 1) := by decide +kernel
theorem dX11_count_77 : decode cX11_count 77 = .ok (.getfield 19, 3) := by decide +kernel
theorem dX11_count_80 : decode cX11_count 80 = .ok (.getfield 380, 3) := by decide +kernel
theorem dX11_count_83 : decode cX11_count 83 = .ok (.ireturn, 1) := by decide +kernel
theorem dX11_count_84 : decode cX11_count 84 = .ok (.aload_n 0, 1) := by decide +kernel
theorem dX11_count_85 : decode cX11_count 85 = .ok (.getfield 19, 3) := by decide +kernel
theorem dX11_count_88 : decode cX11_count 88 = .ok (.getfield 230, 3) := by decide +kernel
theorem dX11_count_91 : decode cX11_count 91 = .ok (.ireturn, 1) := by decide +kernel
theorem dX11_count_92 : decode cX11_count 92 = .ok (.aload_n 0, 1) := by decide +kernel
theorem dX11_count_93 : decode cX11_count 93 = .ok (.getfield 19, 3) := by decide +kernel
theorem dX11_count_96 : decode cX11_count 96 = .ok (.getfield 383, 3) := by decide +kernel
theorem dX11_count_99 : decode cX11_count 99 = .ok (.ireturn, 1) := by decide +kernel
theorem dX11_count_100 : decode cX11_count 100 = .ok (.aload_n 0, 1) := by decide +kernel
theorem dX11_count_101 : decode cX11_count 101 = .ok (.getfield 19, 3) := by decide +kernel
theorem dX11_count_104 : decode cX11_count 104 = .ok (.getfield 386, 3) := by decide +kernel
theorem dX11_count_107 : decode cX11_count 107 = .ok (.ireturn, 1) := by decide +kernel
theorem dX11_count_108 : decode cX11_count 108 = .ok (.aload_n 0, 1) := by decide +kernel
theorem dX11_count_109 : decode cX11_count 109 = .ok (.getfield 19, 3) := by decide +kernel
theorem dX11_count_112 : decode cX11_count 112 = .ok (.getfield 270, 3) := by decide +kernel
theorem dX11_count_115 : decode cX11_count 115 = .ok (.ireturn, 1) := by decide +kernel
theorem dX11_count_116 : decode cX11_count 116 = .ok (.aload_n 0, 1) := by decide +kernel
theorem dX11_count_117 : decode cX11_count 117 = .ok (.getfield 19, 3) := by decide +kernel
theorem dX11_count_120 : decode cX11_count 120 = .ok (.getfield 180, 3) := by decide +kernel
theorem dX11_count_123 : decode cX11_count 123 = .ok (.ireturn, 1) := by decide +kernel
theorem dX11_count_124 : decode cX11_count 124 = .ok (.aload_n 0, 1) := by decide +kernel
theorem dX11_count_125 : decode cX11_count 125 = .ok (.getfield 19, 3) := by decide +kernel
theorem dX11_count_128 : decode cX11_count 128 = .ok (.getfield 389, 3) := by decide +kernel
theorem dX11_count_131 : decode cX11_count 131 = .ok (.ireturn, 1) := by decide +kernel
theorem dX11_count_132 : decode cX11_count 132 = .ok (.aload_n 0, 1) := by decide +kernel
theorem dX11_count_133 : decode cX11_count 133 = .ok (.getfield 19, 3) := by decide +kernel
theorem dX11_count_136 : decode cX11_count 136 = .ok (.getfield 392, 3) := by decide +kernel
theorem dX11_count_139 : decode cX11_count 139 = .ok (.ireturn, 1) := by decide +kernel
theorem dX11_count_140 : decode cX11_count 140 = .ok (.aload_n 0, 1) := by decide +kernel
theorem dX11_count_141 : decode cX11_count 141 = .ok (.getfield 19, 3) := by decide +kernel
theorem dX11_count_144 : decode cX11_count 144 = .ok (.getfield 105, 3) := by decide +kernel
theorem dX11_count_147 : decode cX11_count 147 = .ok (.ireturn, 1) := by decide +kernel
theorem dX11_count_148 : decode cX11_count 148 = .ok (.aload_n 0, 1) := by decide +kernel
theorem dX11_count_149 : decode cX11_count 149 = .ok (.getfield 10, 3) := by decide +kernel
theorem dX11_count_152 : decode cX11_count 152 = .ok (.getfield 80, 3) := by decide +kernel
theorem dX11_count_155 : decode cX11_count 155 = .ok (.getfield 84, 3) := by decide +kernel
theorem dX11_count_158 : decode cX11_count 158 = .ok (.ireturn, 1) := by decide +kernel
theorem dX11_count_159 : decode cX11_count 159 = .ok (.aload_n 0, 1) := by decide +kernel
theorem dX11_count_160 : decode cX11_count 160 = .ok (.getfield 19, 3) := by decide +kernel
theorem dX11_count_163 : decode cX11_count 163 = .ok (.getfield 355, 3) := by decide +kernel
theorem dX11_count_166 : decode cX11_count 166 = .ok (.getfield 359, 3) := by decide +kernel
theorem dX11_count_169 : decode cX11_count 169 = .ok (.ireturn, 1) := by decide +kernel
theorem dX11_count_170 : decode cX11_count 170 = .ok (.aload_n 0, 1) := by decide +kernel
theorem dX11_count_171 : decode cX11_count 171 = .ok (.invokevirtual 395, 3) := by decide +kernel
theorem dX11_count_174 : decode cX11_count 174 = .ok (.ireturn, 1) := by decide +kernel
theorem dX11_count_175 : decode cX11_count 175 = .ok (.iconst (-1), 1) := by decide +kernel
theorem dX11_count_176 : decode cX11_count 176 = .ok (.ireturn, 1) := by decide +kernel
theorem dX11_countRows_0 : decode cX11_countRows 0 = .ok (.iconst 0, 1) := by decide +kernel
theorem dX11_countRows_1 : decode cX11_countRows 1 = .ok (.istore_n 1, 1) := by decide +kernel
theorem dX11_countRows_2 : decode cX11_countRows 2 = .ok (.iconst 0, 1) := by decide +kernel
theorem dX11_countRows_3 : decode cX11_countRows 3 = .ok (.istore_n 2, 1) := by decide +kernel
theorem dX11_countRows_4 : decode cX11_countRows 4 = .ok (.iload_n 2, 1) := by decide +kernel
theorem dX11_countRows_5 : decode cX11_countRows 5 = .ok (.iconst 4, 1) := by decide +kernel
theorem dX11_countRows_6 : decode cX11_countRows 6 = .ok (.if_icmp .ge 20, 3) := by decide +kernel
theorem dX11_countRows_9 : decode cX11_countRows 9 = .ok (.aload_n 0, 1) := by decide +kernel
theorem dX11_countRows_10 : decode cX11_countRows 10 = .ok (.iload_n 2, 1) := by decide +kernel
theorem dX11_countRows_11 : decode cX11_countRows 11 = .ok (.invokevirtual 404, 3) := by decide +kernel
theorem dX11_countRows_14 : decode cX11_countRows 14 = .ok (.ifnull 6, 3) := by decide +kernel
theorem dX11_countRows_17 : decode cX11_countRows 17 = .ok (.iinc 1 1, 3) := by decide +kernel
theorem dX11_countRows_20 : decode cX11_countRows 20 = .ok (.iinc 2 1, 3) := by decide +kernel
theorem dX11_countRows_23 : decode cX11_countRows 23 = .ok (.goto (-19), 3) := by decide +kernel
theorem dX11_countRows_26 : decode cX11_countRows 26 = .ok (.iload_n 1, 1) := by decide +kernel
theorem dX11_countRows_27 : decode cX11_countRows 27 = .ok (.ireturn, 1) := by decide +kernel
