theorem b_546 : Cond.fieldLink RX9 15 "GentleLetters$Tape" "size" "I" ∈ BIG := bi (tin_1 _ (List.mem_of_getElem? (i := 43) rfl)) rfl
theorem b_547 : Cond.fieldLink RX9 9 "GentleLetters$Tape" "bytes" "[B" ∈ BIG := bi (tin_1 _ (List.mem_of_getElem? (i := 42) rfl)) rfl
theorem b_548 : Cond.fieldLink RX11 10 "GentleLetters" "reader" "LGentleLetters$DeskReader;" ∈ BIG := bi (tin_2 _ (List.mem_of_getElem? (i := 157) rfl)) rfl
theorem b_549 : Cond.fieldLinkNest RX11 80 "GentleLetters$DeskReader" "tape" "LGentleLetters$Tape;" RX11 ∈ nests := ne (tin_1 _ (List.mem_of_getElem? (i := 207) rfl)) rfl
theorem b_550 : Cond.fieldLinkNest RX11 84 "GentleLetters$Tape" "size" "I" RX11 ∈ nests := ne (tin_1 _ (List.mem_of_getElem? (i := 44) rfl)) rfl
theorem b_551 : Cond.methodLinkNest RX11 90 yX9_put RX11 ∈ nests := ne (tin_2 _ (List.mem_of_getElem? (i := 195) rfl)) rfl
theorem b_552 : Cond.fieldLinkNest RX11 111 "GentleLetters$DeskReader" "place" "I" RX11 ∈ nests := ne (tin_1 _ (List.mem_of_getElem? (i := 213) rfl)) rfl
theorem b_553 : Cond.fieldLinkNest RX11 108 "GentleLetters$DeskReader" "fault" "I" RX11 ∈ nests := ne (tin_1 _ (List.mem_of_getElem? (i := 211) rfl)) rfl
theorem b_554 : Cond.fieldLink RX8 15 "GentleLetters$Row" "there" "Z" ∈ BIG := bi (tin_2 _ (List.mem_of_getElem? (i := 140) rfl)) rfl
theorem b_555 : Cond.fieldLink RX8 19 "GentleLetters$Row" "width" "I" ∈ BIG := bi (tin_2 _ (List.mem_of_getElem? (i := 142) rfl)) rfl
theorem b_556 : Cond.fieldLink RX8 23 "GentleLetters$Row" "size" "I" ∈ BIG := bi (tin_2 _ (List.mem_of_getElem? (i := 145) rfl)) rfl
theorem b_557 : Cond.fieldLink RX8 9 "GentleLetters$Row" "numbers" "[J" ∈ BIG := bi (tin_2 _ (List.mem_of_getElem? (i := 137) rfl)) rfl
theorem b_558 : Cond.methodLink RX8 26 yJ7_fill_d0a16 ∈ BIG := bi (tin_6 _ (List.mem_of_getElem? (i := 76) rfl)) rfl
theorem b_559 : Cond.methodLinkNest RX11 401 yX8_begin RX11 ∈ nests := ne (tin_6 _ (List.mem_of_getElem? (i := 72) rfl)) rfl
theorem b_560 : Cond.code yX8_begin cX8_begin 3 none ∈ BIG := bi (tin_6 _ (List.mem_of_getElem? (i := 75) rfl)) rfl
theorem b_561 : Cond.instanceMethod yX8_begin ∈ BIG := bi (tin_6 _ (List.mem_of_getElem? (i := 74) rfl)) rfl
theorem b_562 : Cond.selects RX8 yX8_begin yX8_begin ∈ BIG := bi (sin_7 _ (List.mem_map.mpr ⟨(yX8_begin, 4), List.mem_of_getElem? (i := 2) rfl, rfl⟩)) rfl
theorem b_563 : Cond.initialized RX8 ∈ BIG := bi (tin_1 _ (List.mem_of_getElem? (i := 12) rfl)) rfl
theorem b_564 : Cond.code yX9_put cX9_put 3 none ∈ BIG := bi (tin_2 _ (List.mem_of_getElem? (i := 198) rfl)) rfl
theorem b_565 : Cond.instanceMethod yX9_put ∈ BIG := bi (tin_2 _ (List.mem_of_getElem? (i := 197) rfl)) rfl
theorem b_566 : Cond.selects RX9 yX9_put yX9_put ∈ BIG := bi (sin_1 _ (List.mem_map.mpr ⟨(yX9_put, 6), List.mem_of_getElem? (i := 0) rfl, rfl⟩)) rfl
theorem b_567 : Cond.initialized RX9 ∈ BIG := bi (tin_1 _ (List.mem_of_getElem? (i := 3) rfl)) rfl
theorem b_568 : Cond.code yJ7_fill_d0a16 cJ7_fill_d0a16 5 none ∈ BIG := bi (tin_6 _ (List.mem_of_getElem? (i := 78) rfl)) rfl
theorem b_569 : Cond.static yJ7_fill_d0a16 ∈ BIG := bi (tin_6 _ (List.mem_of_getElem? (i := 77) rfl)) rfl
theorem b_570 : Cond.laysFinal RX1 RX1 "tape" "LGentleLetters$Tape;" ∈ BIG := bi (tin_1 _ (List.mem_of_getElem? (i := 215) rfl)) rfl
theorem b_571 : Cond.laysFinal RX1 RX1 "draft" "LGentleLetters$Desk;" ∈ BIG := bi (tin_1 _ (List.mem_of_getElem? (i := 217) rfl)) rfl
theorem b_572 : Cond.lays RX1 RX1 "fault" "I" ∈ BIG := bi (tin_1 _ (List.mem_of_getElem? (i := 219) rfl)) rfl
theorem b_573 : Cond.lays RX1 RX1 "place" "I" ∈ BIG := bi (tin_1 _ (List.mem_of_getElem? (i := 221) rfl)) rfl
theorem b_574 : Cond.lays RX1 RX1 "value" "I" ∈ BIG := bi (tin_1 _ (List.mem_of_getElem? (i := 223) rfl)) rfl
theorem b_575 : Cond.laysFinal RX9 RX9 "bytes" "[B" ∈ BIG := bi (tin_1 _ (List.mem_of_getElem? (i := 52) rfl)) rfl
theorem b_576 : Cond.lays RX9 RX9 "size" "I" ∈ BIG := bi (tin_1 _ (List.mem_of_getElem? (i := 54) rfl)) rfl
theorem b_577 : Cond.lays RX9 RX9 "kind" "I" ∈ BIG := bi (tin_1 _ (List.mem_of_getElem? (i := 56) rfl)) rfl
theorem b_578 : Cond.lays RX9 RX9 "start" "I" ∈ BIG := bi (tin_1 _ (List.mem_of_getElem? (i := 58) rfl)) rfl
theorem b_579 : Cond.lays RX9 RX9 "stop" "I" ∈ BIG := bi (tin_1 _ (List.mem_of_getElem? (i := 60) rfl)) rfl
theorem b_580 : Cond.lays RX9 RX9 "number" "I" ∈ BIG := bi (tin_1 _ (List.mem_of_getElem? (i := 62) rfl)) rfl
theorem m_yX8_begin : MV yX8_begin cX8_begin 3 none 2 := ⟨b_560, b_561, b_562, b_563, by decide +kernel⟩
theorem m_yX9_put : MV yX9_put cX9_put 3 none 1 := ⟨b_564, b_565, b_566, b_567, by decide +kernel⟩
theorem m_yJ7_fill_d0a16 : MS yJ7_fill_d0a16 cJ7_fill_d0a16 5 none 2 := ⟨b_568, b_569, b_181, by decide +kernel⟩
theorem i_X1 : ∀ w ∈ u_ws RX1 TX1 5, w ∈ BIG := fun w hw => by
  obtain ⟨k, hk, rfl⟩ := List.mem_map.mp hw
  have hk := List.mem_range.mp hk
  match k, hk with
  | 0, _ => exact b_570
  | 1, _ => exact b_571
  | 2, _ => exact b_572
  | 3, _ => exact b_573
  | 4, _ => exact b_574
  | k + 5, hk => exact absurd hk (by omega)
theorem i_X9 : ∀ w ∈ u_ws RX9 TX9 6, w ∈ BIG := fun w hw => by
  obtain ⟨k, hk, rfl⟩ := List.mem_map.mp hw
  have hk := List.mem_range.mp hk
  match k, hk with
  | 0, _ => exact b_575
  | 1, _ => exact b_576
  | 2, _ => exact b_577
  | 3, _ => exact b_578
  | 4, _ => exact b_579
  | 5, _ => exact b_580
  | k + 6, hk => exact absurd hk (by omega)
theorem dJ7_fill_d0a16_0 : decode cJ7_fill_d0a16 0 = .ok (.iconst 0, 1) := by decide +kernel
theorem dJ7_fill_d0a16_1 : decode cJ7_fill_d0a16 1 = .ok (.istore_n 3, 1) := by decide +kernel
theorem dJ7_fill_d0a16_2 : decode cJ7_fill_d0a16 2 = .ok (.aload_n 0, 1) := by decide +kernel
theorem dJ7_fill_d0a16_3 : decode cJ7_fill_d0a16 3 = .ok (.arraylength, 1) := by decide +kernel
theorem dJ7_fill_d0a16_4 : decode cJ7_fill_d0a16 4 = .ok (.istore 4, 2) := by decide +kernel
theorem dJ7_fill_d0a16_6 : decode cJ7_fill_d0a16 6 = .ok (.iload_n 3, 1) := by decide +kernel
theorem dJ7_fill_d0a16_7 : decode cJ7_fill_d0a16 7 = .ok (.iload 4, 2) := by decide +kernel
theorem dJ7_fill_d0a16_9 : decode cJ7_fill_d0a16 9 = .ok (.if_icmp .ge 13, 3) := by decide +kernel
theorem dJ7_fill_d0a16_12 : decode cJ7_fill_d0a16 12 = .ok (.aload_n 0, 1) := by decide +kernel
theorem dJ7_fill_d0a16_13 : decode cJ7_fill_d0a16 13 = .ok (.iload_n 3, 1) := by decide +kernel
theorem dJ7_fill_d0a16_14 : decode cJ7_fill_d0a16 14 = .ok (.lload_n 1, 1) := by decide +kernel
theorem dJ7_fill_d0a16_15 : decode cJ7_fill_d0a16 15 = .ok (.lastore, 1) := by decide +kernel
theorem dJ7_fill_d0a16_16 : decode cJ7_fill_d0a16 16 = .ok (.iinc 3 1, 3) := by decide +kernel
theorem dJ7_fill_d0a16_19 : decode cJ7_fill_d0a16 19 = .ok (.goto (-13), 3) := by decide +kernel
theorem dJ7_fill_d0a16_22 : decode cJ7_fill_d0a16 22 = .ok (.return_, 1) := by decide +kernel
theorem dX11_end_0 : decode cX11_end 0 = .ok (.iload_n 1, 1) := by decide +kernel
theorem dX11_end_1 : decode cX11_end 1 = .ok (.ifCond .lt 17, 3) := by decide +kernel
theorem dX11_end_4 : decode cX11_end 4 = .ok (.iload_n 1, 1) := by decide +kernel
theorem dX11_end_5 : decode cX11_end 5 = .ok (.aload_n 0, 1) := by decide +kernel
theorem dX11_end_6 : decode cX11_end 6 = .ok (.getfield 10, 3) := by decide +kernel
theorem dX11_end_9 : decode cX11_end 9 = .ok (.getfield 80, 3) := by decide +kernel
theorem dX11_end_12 : decode cX11_end 12 = .ok (.getfield 84, 3) := by decide +kernel
theorem dX11_end_15 : decode cX11_end 15 = .ok (.if_icmp .le 5, 3) := by decide +kernel
theorem dX11_end_18 : decode cX11_end 18 = .ok (.iconst (-1), 1) := by decide +kernel
theorem dX11_end_19 : decode cX11_end 19 = .ok (.ireturn, 1) := by decide +kernel
theorem dX11_end_20 : decode cX11_end 20 = .ok (.aload_n 0, 1) := by decide +kernel
theorem dX11_end_21 : decode cX11_end 21 = .ok (.getfield 10, 3) := by decide +kernel
theorem dX11_end_24 : decode cX11_end 24 = .ok (.getfield 80, 3) := by decide +kernel
theorem dX11_end_27 : decode cX11_end 27 = .ok (.iload_n 1, 1) := by decide +kernel
theorem dX11_end_28 : decode cX11_end 28 = .ok (.putfield 84, 3) := by decide +kernel
theorem dX11_end_31 : decode cX11_end 31 = .ok (.iload_n 1, 1) := by decide +kernel
theorem dX11_end_32 : decode cX11_end 32 = .ok (.ireturn, 1) := by decide +kernel
theorem dX11_fault_0 : decode cX11_fault 0 = .ok (.iload_n 1, 1) := by decide +kernel
theorem dX11_fault_1 : decode cX11_fault 1 = .ok (.ifCond .ne 11, 3) := by decide +kernel
theorem dX11_fault_4 : decode cX11_fault 4 = .ok (.aload_n 0, 1) := by decide +kernel
theorem dX11_fault_5 : decode cX11_fault 5 = .ok (.getfield 10, 3) := by decide +kernel
theorem dX11_fault_8 : decode cX11_fault 8 = .ok (.getfield 108, 3) := by decide +kernel
theorem dX11_fault_11 : decode cX11_fault 11 = .ok (.ireturn, 1) := by decide +kernel
theorem dX11_fault_12 : decode cX11_fault 12 = .ok (.iload_n 1, 1) := by decide +kernel
theorem dX11_fault_13 : decode cX11_fault 13 = .ok (.iconst 1, 1) := by decide +kernel
theorem dX11_fault_14 : decode cX11_fault 14 = .ok (.if_icmp .ne 13, 3) := by decide +kernel
theorem dX11_fault_17 : decode cX11_fault 17 = .ok (.aload_n 0, 1) := by decide +kernel
theorem dX11_fault_18 : decode cX11_fault 18 = .ok (.getfield 10, 3) := by decide +kernel
theorem dX11_fault_21 : decode cX11_fault 21 = .ok (.getfield 111, 3) := by decide +kernel
theorem dX11_fault_24 : decode cX11_fault 24 = .ok (.goto 4, 3) := by decide +kernel
theorem dX11_fault_27 : decode cX11_fault 27 = .ok (.iconst (-1), 1) := by decide +kernel
theorem dX11_fault_28 : decode cX11_fault 28 = .ok (.ireturn, 1) := by decide +kernel
theorem dX11_feed_0 : decode cX11_feed 0 = .ok (.aload_n 0, 1) := by decide +kernel
theorem dX11_feed_1 : decode cX11_feed 1 = .ok (.getfield 10, 3) := by decide +kernel
theorem dX11_feed_4 : decode cX11_feed 4 = .ok (.getfield 80, 3) := by decide +kernel
theorem dX11_feed_7 : decode cX11_feed 7 = .ok (.astore 6, 2) := by decide +kernel
theorem dX11_feed_9 : decode cX11_feed 9 = .ok (.aload 6, 2) := by decide +kernel
theorem dX11_feed_11 : decode cX11_feed 11 = .ok (.getfield 84, 3) := by decide +kernel
theorem dX11_feed_14 : decode cX11_feed 14 = .ok (.sipush 880, 3) := by decide +kernel
theorem dX11_feed_17 : decode cX11_feed 17 = .ok (.if_icmp .le 5, 3) := by decide +kernel
theorem dX11_feed_20 : decode cX11_feed 20 = .ok (.iconst (-1), 1) := by decide +kernel
theorem dX11_feed_21 : decode cX11_feed 21 = .ok (.ireturn, 1) := by decide +kernel
theorem dX11_feed_22 : decode cX11_feed 22 = .ok (.aload 6, 2) := by decide +kernel
theorem dX11_feed_24 : decode cX11_feed 24 = .ok (.iload_n 1, 1) := by decide +kernel
theorem dX11_feed_25 : decode cX11_feed 25 = .ok (.invokevirtual 90, 3) := by decide +kernel
theorem dX11_feed_28 : decode cX11_feed 28 = .ok (.aload 6, 2) := by decide +kernel
theorem dX11_feed_30 : decode cX11_feed 30 = .ok (.iload_n 2, 1) := by decide +kernel
theorem dX11_feed_31 : decode cX11_feed 31 = .ok (.invokevirtual 90, 3) := by decide +kernel
theorem dX11_feed_34 : decode cX11_feed 34 = .ok (.aload 6, 2) := by decide +kernel
theorem dX11_feed_36 : decode cX11_feed 36 = .ok (.iload_n 3, 1) := by decide +kernel
theorem dX11_feed_37 : decode cX11_feed 37 = .ok (.invokevirtual 90, 3) := by decide +kernel
theorem dX11_feed_40 : decode cX11_feed 40 = .ok (.aload 6, 2) := by decide +kernel
theorem dX11_feed_42 : decode cX11_feed 42 = .ok (.iload 4, 2) := by decide +kernel
theorem dX11_feed_44 : decode cX11_feed 44 = .ok (.invokevirtual 90, 3) := by decide +kernel
theorem dX11_feed_47 : decode cX11_feed 47 = .ok (.aload 6, 2) := by decide +kernel
theorem dX11_feed_49 : decode cX11_feed 49 = .ok (.iload 5, 2) := by decide +kernel
theorem dX11_feed_51 : decode cX11_feed 51 = .ok (.invokevirtual 90, 3) := by decide +kernel
theorem dX11_feed_54 : decode cX11_feed 54 = .ok (.aload 6, 2) := by decide +kernel
theorem dX11_feed_56 : decode cX11_feed 56 = .ok (.getfield 84, 3) := by decide +kernel
theorem dX11_feed_59 : decode cX11_feed 59 = .ok (.ireturn, 1) := by decide +kernel
theorem dX11_row_0 : decode cX11_row 0 = .ok (.iload_n 1, 1) := by decide +kernel
theorem dX11_row_1 : decode cX11_row 1 = .ok (.invokestatic 398, 3) := by decide +kernel
theorem dX11_row_4 : decode cX11_row 4 = .ok (.ifCond .eq 18, 3) := by decide +kernel
theorem dX11_row_7 : decode cX11_row 7 = .ok (.iload_n 2, 1) := by decide +kernel
theorem dX11_row_8 : decode cX11_row 8 = .ok (.ifCond .lt 14, 3) := by decide +kernel
theorem dX11_row_11 : decode cX11_row 11 = .ok (.iload_n 2, 1) := by decide +kernel
theorem dX11_row_12 : decode cX11_row 12 = .ok (.iconst 4, 1) := by decide +kernel
theorem dX11_row_13 : decode cX11_row 13 = .ok (.if_icmp .ge 9, 3) := by decide +kernel
theorem dX11_row_16 : decode cX11_row 16 = .ok (.iload_n 3, 1) := by decide +kernel
theorem dX11_row_17 : decode cX11_row 17 = .ok (.bipush 60, 2) := by decide +kernel
theorem dX11_row_19 : decode cX11_row 19 = .ok (.if_icmp .le 6, 3) := by decide +kernel
theorem dX11_row_22 : decode cX11_row 22 = .ok (.bipush (-2), 2) := by decide +kernel
theorem dX11_row_24 : decode cX11_row 24 = .ok (.ireturn, 1) := by decide +kernel
theorem dX11_row_25 : decode cX11_row 25 = .ok (.iload_n 3, 1) := by decide +kernel
theorem dX11_row_26 : decode cX11_row 26 = .ok (.ifCond .ge 6, 3) := by decide +kernel
theorem dX11_row_29 : decode cX11_row 29 = .ok (.bipush (-3), 2) := by decide +kernel
theorem dX11_row_31 : decode cX11_row 31 = .ok (.ireturn, 1) := by decide +kernel
theorem dX11_row_32 : decode cX11_row 32 = .ok (.aload_n 0, 1) := by decide +kernel
theorem dX11_row_33 : decode cX11_row 33 = .ok (.getfield 33, 3) := by decide +kernel
theorem dX11_row_36 : decode cX11_row 36 = .ok (.iload_n 1, 1) := by decide +kernel
theorem dX11_row_37 : decode cX11_row 37 = .ok (.aaload, 1) := by decide +kernel
theorem dX11_row_38 : decode cX11_row 38 = .ok (.astore 4, 2) := by decide +kernel
theorem dX11_row_40 : decode cX11_row 40 = .ok (.aload 4, 2) := by decide +kernel
theorem dX11_row_42 : decode cX11_row 42 = .ok (.ifnonnull 6, 3) := by decide +kernel
theorem dX11_row_48 : decode cX11_row 48 = .ok (.aload 4, 2) := by decide +kernel
theorem dX11_row_50 : decode cX11_row 50 = .ok (.iload_n 2, 1) := by decide +kernel
theorem dX11_row_51 : decode cX11_row 51 = .ok (.iload_n 3, 1) := by decide +kernel
theorem dX11_row_52 : decode cX11_row 52 = .ok (.invokevirtual 401, 3) := by decide +kernel
theorem dX11_row_55 : decode cX11_row 55 = .ok (.iconst 0, 1) := by decide +kernel
theorem dX11_row_56 : decode cX11_row 56 = .ok (.ireturn, 1) := by decide +kernel
theorem dX8_begin_0 : decode cX8_begin 0 = .ok (.aload_n 0, 1) := by decide +kernel
theorem dX8_begin_1 : decode cX8_begin 1 = .ok (.iconst 1, 1) := by decide +kernel
theorem dX8_begin_2 : decode cX8_begin 2 = .ok (.putfield 15, 3) := by decide +kernel
theorem dX8_begin_5 : decode cX8_begin 5 = .ok (.aload_n 0, 1) := by decide +kernel
theorem dX8_begin_6 : decode cX8_begin 6 = .ok (.iload_n 1, 1) := by decide +kernel
theorem dX8_begin_7 : decode cX8_begin 7 = .ok (.putfield 19, 3) := by decide +kernel
theorem dX8_begin_10 : decode cX8_begin 10 = .ok (.aload_n 0, 1) := by decide +kernel
theorem dX8_begin_11 : decode cX8_begin 11 = .ok (.iload_n 2, 1) := by decide +kernel
theorem dX8_begin_12 : decode cX8_begin 12 = .ok (.putfield 23, 3) := by decide +kernel
theorem dX8_begin_15 : decode cX8_begin 15 = .ok (.aload_n 0, 1) := by decide +kernel
theorem dX8_begin_16 : decode cX8_begin 16 = .ok (.getfield 9, 3) := by decide +kernel
theorem dX8_begin_19 : decode cX8_begin 19 = .ok (.lconst 0, 1) := by decide +kernel
theorem dX8_begin_20 : decode cX8_begin 20 = .ok (.invokestatic 26, 3) := by decide +kernel
theorem dX8_begin_23 : decode cX8_begin 23 = .ok (.return_, 1) := by decide +kernel
theorem dX9_put_0 : decode cX9_put 0 = .ok (.bipush 24, 2) := by decide +kernel
theorem dX9_put_2 : decode cX9_put 2 = .ok (.istore_n 2, 1) := by decide +kernel
theorem dX9_put_3 : decode cX9_put 3 = .ok (.iload_n 2, 1) := by decide +kernel
theorem dX9_put_4 : decode cX9_put 4 = .ok (.ifCond .lt 42, 3) := by decide +kernel
theorem dX9_put_7 : decode cX9_put 7 = .ok (.aload_n 0, 1) := by decide +kernel
theorem dX9_put_8 : decode cX9_put 8 = .ok (.getfield 15, 3) := by decide +kernel
theorem dX9_put_11 : decode cX9_put 11 = .ok (.sipush 900, 3) := by decide +kernel
theorem dX9_put_14 : decode cX9_put 14 = .ok (.if_icmp .ge 32, 3) := by decide +kernel
theorem dX9_put_17 : decode cX9_put 17 = .ok (.aload_n 0, 1) := by decide +kernel
theorem dX9_put_18 : decode cX9_put 18 = .ok (.getfield 9, 3) := by decide +kernel
theorem dX9_put_21 : decode cX9_put 21 = .ok (.aload_n 0, 1) := by decide +kernel
theorem dX9_put_22 : decode cX9_put 22 = .ok (.getfield 15, 3) := by decide +kernel
theorem dX9_put_25 : decode cX9_put 25 = .ok (.iload_n 1, 1) := by decide +kernel
theorem dX9_put_26 : decode cX9_put 26 = .ok (.iload_n 2, 1) := by decide +kernel
theorem dX9_put_27 : decode cX9_put 27 = .ok (.ishr, 1) := by decide +kernel
theorem dX9_put_28 : decode cX9_put 28 = .ok (.i2b, 1) := by decide +kernel
theorem dX9_put_29 : decode cX9_put 29 = .ok (.bastore, 1) := by decide +kernel
theorem dX9_put_30 : decode cX9_put 30 = .ok (.aload_n 0, 1) := by decide +kernel
theorem dX9_put_31 : decode cX9_put 31 = .ok (.dup, 1) := by decide +kernel
theorem dX9_put_32 : decode cX9_put 32 = .ok (.getfield 15, 3) := by decide +kernel
theorem dX9_put_35 : decode cX9_put 35 = .ok (.iconst 1, 1) := by decide +kernel
theorem dX9_put_36 : decode cX9_put 36 = .ok (.iadd, 1) := by decide +kernel
theorem dX9_put_37 : decode cX9_put 37 = .ok (.putfield 15, 3) := by decide +kernel
theorem dX9_put_40 : decode cX9_put 40 = .ok (.iinc 2 (-8), 3) := by decide +kernel
theorem dX9_put_43 : decode cX9_put 43 = .ok (.goto (-40), 3) := by decide +kernel
theorem dX9_put_46 : decode cX9_put 46 = .ok (.return_, 1) := by decide +kernel
