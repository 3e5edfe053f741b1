theorem b_473 : Cond.methodLink RX11 279 yX11_evenSquares ∈ BIG := bi (tin_5 _ (List.mem_of_getElem? (i := 73) rfl)) rfl
theorem b_474 : Cond.constantLong RX12 373 (10000) ∈ BIG := bi (tin_8 _ (List.mem_of_getElem? (i := 168) rfl)) rfl
theorem b_475 : Cond.constantLong RX12 253 (100) ∈ BIG := bi (tin_8 _ (List.mem_of_getElem? (i := 1) rfl)) rfl
theorem b_476 : Cond.methodLink RX12 375 yX12_evenOf ∈ BIG := bi (tin_8 _ (List.mem_of_getElem? (i := 169) rfl)) rfl
theorem b_477 : Cond.constant RX11 282 (100000) ∈ BIG := bi (tin_5 _ (List.mem_of_getElem? (i := 80) rfl)) rfl
theorem b_478 : Cond.constant RX11 179 (1000000000) ∈ BIG := bi (tin_4 _ (List.mem_of_getElem? (i := 15) rfl)) rfl
theorem b_479 : Cond.constantLong RX12 378 (100000) ∈ BIG := bi (tin_8 _ (List.mem_of_getElem? (i := 176) rfl)) rfl
theorem b_480 : Cond.code yX11_evenSquares cX11_evenSquares 4 (some .int) ∈ BIG := bi (tin_5 _ (List.mem_of_getElem? (i := 75) rfl)) rfl
theorem b_481 : Cond.static yX11_evenSquares ∈ BIG := bi (tin_5 _ (List.mem_of_getElem? (i := 74) rfl)) rfl
theorem b_482 : Cond.code yX12_evenOf cX12_evenOf 4 (some .int) ∈ BIG := bi (tin_8 _ (List.mem_of_getElem? (i := 171) rfl)) rfl
theorem b_483 : Cond.static yX12_evenOf ∈ BIG := bi (tin_8 _ (List.mem_of_getElem? (i := 170) rfl)) rfl
theorem m_yX11_evenSquares : MS yX11_evenSquares cX11_evenSquares 4 (some .int) 2 := ⟨b_480, b_481, b_27, by decide +kernel⟩
theorem m_yX12_evenOf : MS yX12_evenOf cX12_evenOf 4 (some .int) 2 := ⟨b_482, b_483, b_377, by decide +kernel⟩
theorem dX11_even_0 : decode cX11_even 0 = .ok (.iload_n 1, 1) := by decide +kernel
theorem dX11_even_1 : decode cX11_even 1 = .ok (.ifCond .lt 21, 3) := by decide +kernel
theorem dX11_even_4 : decode cX11_even 4 = .ok (.iload_n 1, 1) := by decide +kernel
theorem dX11_even_5 : decode cX11_even 5 = .ok (.sipush 10000, 3) := by decide +kernel
theorem dX11_even_8 : decode cX11_even 8 = .ok (.if_icmp .gt 14, 3) := by decide +kernel
theorem dX11_even_11 : decode cX11_even 11 = .ok (.iload_n 2, 1) := by decide +kernel
theorem dX11_even_12 : decode cX11_even 12 = .ok (.iconst 1, 1) := by decide +kernel
theorem dX11_even_13 : decode cX11_even 13 = .ok (.if_icmp .lt 9, 3) := by decide +kernel
theorem dX11_even_16 : decode cX11_even 16 = .ok (.iload_n 2, 1) := by decide +kernel
theorem dX11_even_17 : decode cX11_even 17 = .ok (.bipush 100, 2) := by decide +kernel
theorem dX11_even_19 : decode cX11_even 19 = .ok (.if_icmp .le 6, 3) := by decide +kernel
theorem dX11_even_22 : decode cX11_even 22 = .ok (.bipush (-2), 2) := by decide +kernel
theorem dX11_even_24 : decode cX11_even 24 = .ok (.ireturn, 1) := by decide +kernel
theorem dX11_even_25 : decode cX11_even 25 = .ok (.iload_n 1, 1) := by decide +kernel
theorem dX11_even_26 : decode cX11_even 26 = .ok (.iload_n 2, 1) := by decide +kernel
theorem dX11_even_27 : decode cX11_even 27 = .ok (.invokestatic 279, 3) := by decide +kernel
theorem dX11_even_30 : decode cX11_even 30 = .ok (.ireturn, 1) := by decide +kernel
theorem dX11_evenSquares_0 : decode cX11_evenSquares 0 = .ok (.iload_n 1, 1) := by decide +kernel
theorem dX11_evenSquares_1 : decode cX11_evenSquares 1 = .ok (.iconst 1, 1) := by decide +kernel
theorem dX11_evenSquares_2 : decode cX11_evenSquares 2 = .ok (.if_icmp .ge 5, 3) := by decide +kernel
theorem dX11_evenSquares_7 : decode cX11_evenSquares 7 = .ok (.iload_n 0, 1) := by decide +kernel
theorem dX11_evenSquares_8 : decode cX11_evenSquares 8 = .ok (.iload_n 1, 1) := by decide +kernel
theorem dX11_evenSquares_9 : decode cX11_evenSquares 9 = .ok (.idiv, 1) := by decide +kernel
theorem dX11_evenSquares_10 : decode cX11_evenSquares 10 = .ok (.istore_n 2, 1) := by decide +kernel
theorem dX11_evenSquares_11 : decode cX11_evenSquares 11 = .ok (.iload_n 0, 1) := by decide +kernel
theorem dX11_evenSquares_12 : decode cX11_evenSquares 12 = .ok (.iload_n 1, 1) := by decide +kernel
theorem dX11_evenSquares_13 : decode cX11_evenSquares 13 = .ok (.irem, 1) := by decide +kernel
theorem dX11_evenSquares_14 : decode cX11_evenSquares 14 = .ok (.istore_n 3, 1) := by decide +kernel
theorem dX11_evenSquares_15 : decode cX11_evenSquares 15 = .ok (.iload_n 3, 1) := by decide +kernel
theorem dX11_evenSquares_16 : decode cX11_evenSquares 16 = .ok (.iload_n 2, 1) := by decide +kernel
theorem dX11_evenSquares_17 : decode cX11_evenSquares 17 = .ok (.iconst 1, 1) := by decide +kernel
theorem dX11_evenSquares_18 : decode cX11_evenSquares 18 = .ok (.iadd, 1) := by decide +kernel
theorem dX11_evenSquares_19 : decode cX11_evenSquares 19 = .ok (.imul, 1) := by decide +kernel
theorem dX11_evenSquares_20 : decode cX11_evenSquares 20 = .ok (.iload_n 2, 1) := by decide +kernel
theorem dX11_evenSquares_21 : decode cX11_evenSquares 21 = .ok (.iconst 1, 1) := by decide +kernel
theorem dX11_evenSquares_22 : decode cX11_evenSquares 22 = .ok (.iadd, 1) := by decide +kernel
theorem dX11_evenSquares_23 : decode cX11_evenSquares 23 = .ok (.imul, 1) := by decide +kernel
theorem dX11_evenSquares_24 : decode cX11_evenSquares 24 = .ok (.iload_n 1, 1) := by decide +kernel
theorem dX11_evenSquares_25 : decode cX11_evenSquares 25 = .ok (.iload_n 3, 1) := by decide +kernel
theorem dX11_evenSquares_26 : decode cX11_evenSquares 26 = .ok (.isub, 1) := by decide +kernel
theorem dX11_evenSquares_27 : decode cX11_evenSquares 27 = .ok (.iload_n 2, 1) := by decide +kernel
theorem dX11_evenSquares_28 : decode cX11_evenSquares 28 = .ok (.imul, 1) := by decide +kernel
theorem dX11_evenSquares_29 : decode cX11_evenSquares 29 = .ok (.iload_n 2, 1) := by decide +kernel
theorem dX11_evenSquares_30 : decode cX11_evenSquares 30 = .ok (.imul, 1) := by decide +kernel
theorem dX11_evenSquares_31 : decode cX11_evenSquares 31 = .ok (.iadd, 1) := by decide +kernel
theorem dX11_evenSquares_32 : decode cX11_evenSquares 32 = .ok (.ireturn, 1) := by decide +kernel
theorem dX11_steps_0 : decode cX11_steps 0 = .ok (.iload_n 1, 1) := by decide +kernel
theorem dX11_steps_1 : decode cX11_steps 1 = .ok (.ifCond .lt 21, 3) := by decide +kernel
theorem dX11_steps_4 : decode cX11_steps 4 = .ok (.iload_n 1, 1) := by decide +kernel
theorem dX11_steps_5 : decode cX11_steps 5 = .ok (.sipush 10000, 3) := by decide +kernel
theorem dX11_steps_8 : decode cX11_steps 8 = .ok (.if_icmp .gt 14, 3) := by decide +kernel
theorem dX11_steps_11 : decode cX11_steps 11 = .ok (.iload_n 2, 1) := by decide +kernel
theorem dX11_steps_12 : decode cX11_steps 12 = .ok (.ifCond .lt 10, 3) := by decide +kernel
theorem dX11_steps_15 : decode cX11_steps 15 = .ok (.iload_n 2, 1) := by decide +kernel
theorem dX11_steps_16 : decode cX11_steps 16 = .ok (.ldc_w 282, 3) := by decide +kernel
theorem dX11_steps_19 : decode cX11_steps 19 = .ok (.if_icmp .le 6, 3) := by decide +kernel
theorem dX11_steps_22 : decode cX11_steps 22 = .ok (.bipush (-2), 2) := by decide +kernel
theorem dX11_steps_24 : decode cX11_steps 24 = .ok (.ireturn, 1) := by decide +kernel
theorem dX11_steps_25 : decode cX11_steps 25 = .ok (.iconst 1, 1) := by decide +kernel
theorem dX11_steps_26 : decode cX11_steps 26 = .ok (.istore_n 3, 1) := by decide +kernel
theorem dX11_steps_27 : decode cX11_steps 27 = .ok (.ldc 179, 2) := by decide +kernel
theorem dX11_steps_29 : decode cX11_steps 29 = .ok (.istore 4, 2) := by decide +kernel
theorem dX11_steps_31 : decode cX11_steps 31 = .ok (.iconst 1, 1) := by decide +kernel
theorem dX11_steps_32 : decode cX11_steps 32 = .ok (.istore 5, 2) := by decide +kernel
theorem dX11_steps_34 : decode cX11_steps 34 = .ok (.iload 5, 2) := by decide +kernel
theorem dX11_steps_36 : decode cX11_steps 36 = .ok (.bipush 100, 2) := by decide +kernel
theorem dX11_steps_38 : decode cX11_steps 38 = .ok (.if_icmp .gt 36, 3) := by decide +kernel
theorem dX11_steps_41 : decode cX11_steps 41 = .ok (.iload_n 1, 1) := by decide +kernel
theorem dX11_steps_42 : decode cX11_steps 42 = .ok (.iload 5, 2) := by decide +kernel
theorem dX11_steps_44 : decode cX11_steps 44 = .ok (.invokestatic 279, 3) := by decide +kernel
theorem dX11_steps_47 : decode cX11_steps 47 = .ok (.iload_n 2, 1) := by decide +kernel
theorem dX11_steps_48 : decode cX11_steps 48 = .ok (.iload 5, 2) := by decide +kernel
theorem dX11_steps_50 : decode cX11_steps 50 = .ok (.imul, 1) := by decide +kernel
theorem dX11_steps_51 : decode cX11_steps 51 = .ok (.iadd, 1) := by decide +kernel
theorem dX11_steps_52 : decode cX11_steps 52 = .ok (.istore 6, 2) := by decide +kernel
theorem dX11_steps_54 : decode cX11_steps 54 = .ok (.iload 6, 2) := by decide +kernel
theorem dX11_steps_56 : decode cX11_steps 56 = .ok (.iload 4, 2) := by decide +kernel
theorem dX11_steps_58 : decode cX11_steps 58 = .ok (.if_icmp .ge 10, 3) := by decide +kernel
theorem dX11_steps_61 : decode cX11_steps 61 = .ok (.iload 6, 2) := by decide +kernel
theorem dX11_steps_63 : decode cX11_steps 63 = .ok (.istore 4, 2) := by decide +kernel
theorem dX11_steps_65 : decode cX11_steps 65 = .ok (.iload 5, 2) := by decide +kernel
theorem dX11_steps_67 : decode cX11_steps 67 = .ok (.istore_n 3, 1) := by decide +kernel
theorem dX11_steps_68 : decode cX11_steps 68 = .ok (.iinc 5 1, 3) := by decide +kernel
theorem dX11_steps_71 : decode cX11_steps 71 = .ok (.goto (-37), 3) := by decide +kernel
theorem dX11_steps_74 : decode cX11_steps 74 = .ok (.iload_n 3, 1) := by decide +kernel
theorem dX11_steps_75 : decode cX11_steps 75 = .ok (.ireturn, 1) := by decide +kernel
theorem dX12_even_0 : decode cX12_even 0 = .ok (.iload_n 1, 1) := by decide +kernel
theorem dX12_even_1 : decode cX12_even 1 = .ok (.i2l, 1) := by decide +kernel
theorem dX12_even_2 : decode cX12_even 2 = .ok (.lconst 0, 1) := by decide +kernel
theorem dX12_even_3 : decode cX12_even 3 = .ok (.ldc2_w 373, 3) := by decide +kernel
theorem dX12_even_6 : decode cX12_even 6 = .ok (.invokestatic 67, 3) := by decide +kernel
theorem dX12_even_9 : decode cX12_even 9 = .ok (.ifCond .eq 23, 3) := by decide +kernel
theorem dX12_even_12 : decode cX12_even 12 = .ok (.iload_n 2, 1) := by decide +kernel
theorem dX12_even_13 : decode cX12_even 13 = .ok (.i2l, 1) := by decide +kernel
theorem dX12_even_14 : decode cX12_even 14 = .ok (.lconst 1, 1) := by decide +kernel
theorem dX12_even_15 : decode cX12_even 15 = .ok (.ldc2_w 253, 3) := by decide +kernel
theorem dX12_even_18 : decode cX12_even 18 = .ok (.invokestatic 67, 3) := by decide +kernel
theorem dX12_even_21 : decode cX12_even 21 = .ok (.ifCond .eq 11, 3) := by decide +kernel
theorem dX12_even_24 : decode cX12_even 24 = .ok (.iload_n 1, 1) := by decide +kernel
theorem dX12_even_25 : decode cX12_even 25 = .ok (.iload_n 2, 1) := by decide +kernel
theorem dX12_even_26 : decode cX12_even 26 = .ok (.invokestatic 375, 3) := by decide +kernel
theorem dX12_even_29 : decode cX12_even 29 = .ok (.goto 5, 3) := by decide +kernel
theorem dX12_even_32 : decode cX12_even 32 = .ok (.bipush (-2), 2) := by decide +kernel
theorem dX12_even_34 : decode cX12_even 34 = .ok (.ireturn, 1) := by decide +kernel
theorem dX12_evenOf_0 : decode cX12_evenOf 0 = .ok (.iload_n 0, 1) := by decide +kernel
theorem dX12_evenOf_1 : decode cX12_evenOf 1 = .ok (.iload_n 1, 1) := by decide +kernel
theorem dX12_evenOf_2 : decode cX12_evenOf 2 = .ok (.idiv, 1) := by decide +kernel
theorem dX12_evenOf_3 : decode cX12_evenOf 3 = .ok (.istore_n 2, 1) := by decide +kernel
theorem dX12_evenOf_4 : decode cX12_evenOf 4 = .ok (.iload_n 0, 1) := by decide +kernel
theorem dX12_evenOf_5 : decode cX12_evenOf 5 = .ok (.iload_n 1, 1) := by decide +kernel
theorem dX12_evenOf_6 : decode cX12_evenOf 6 = .ok (.irem, 1) := by decide +kernel
theorem dX12_evenOf_7 : decode cX12_evenOf 7 = .ok (.istore_n 3, 1) := by decide +kernel
theorem dX12_evenOf_8 : decode cX12_evenOf 8 = .ok (.iload_n 3, 1) := by decide +kernel
theorem dX12_evenOf_9 : decode cX12_evenOf 9 = .ok (.iload_n 2, 1) := by decide +kernel
theorem dX12_evenOf_10 : decode cX12_evenOf 10 = .ok (.iconst 1, 1) := by decide +kernel
theorem dX12_evenOf_11 : decode cX12_evenOf 11 = .ok (.iadd, 1) := by decide +kernel
theorem dX12_evenOf_12 : decode cX12_evenOf 12 = .ok (.imul, 1) := by decide +kernel
theorem dX12_evenOf_13 : decode cX12_evenOf 13 = .ok (.iload_n 2, 1) := by decide +kernel
theorem dX12_evenOf_14 : decode cX12_evenOf 14 = .ok (.iconst 1, 1) := by decide +kernel
theorem dX12_evenOf_15 : decode cX12_evenOf 15 = .ok (.iadd, 1) := by decide +kernel
theorem dX12_evenOf_16 : decode cX12_evenOf 16 = .ok (.imul, 1) := by decide +kernel
theorem dX12_evenOf_17 : decode cX12_evenOf 17 = .ok (.iload_n 1, 1) := by decide +kernel
theorem dX12_evenOf_18 : decode cX12_evenOf 18 = .ok (.iload_n 3, 1) := by decide +kernel
theorem dX12_evenOf_19 : decode cX12_evenOf 19 = .ok (.isub, 1) := by decide +kernel
theorem dX12_evenOf_20 : decode cX12_evenOf 20 = .ok (.iload_n 2, 1) := by decide +kernel
theorem dX12_evenOf_21 : decode cX12_evenOf 21 = .ok (.imul, 1) := by decide +kernel
theorem dX12_evenOf_22 : decode cX12_evenOf 22 = .ok (.iload_n 2, 1) := by decide +kernel
theorem dX12_evenOf_23 : decode cX12_evenOf 23 = .ok (.imul, 1) := by decide +kernel
theorem dX12_evenOf_24 : decode cX12_evenOf 24 = .ok (.iadd, 1) := by decide +kernel
theorem dX12_evenOf_25 : decode cX12_evenOf 25 = .ok (.ireturn, 1) := by decide +kernel
theorem dX12_steps_0 : decode cX12_steps 0 = .ok (.iload_n 1, 1) := by decide +kernel
theorem dX12_steps_1 : decode cX12_steps 1 = .ok (.i2l, 1) := by decide +kernel
theorem dX12_steps_2 : decode cX12_steps 2 = .ok (.lconst 0, 1) := by decide +kernel
theorem dX12_steps_3 : decode cX12_steps 3 = .ok (.ldc2_w 373, 3) := by decide +kernel
theorem dX12_steps_6 : decode cX12_steps 6 = .ok (.invokestatic 67, 3) := by decide +kernel
theorem dX12_steps_9 : decode cX12_steps 9 = .ok (.ifCond .eq 15, 3) := by decide +kernel
theorem dX12_steps_12 : decode cX12_steps 12 = .ok (.iload_n 2, 1) := by decide +kernel
theorem dX12_steps_13 : decode cX12_steps 13 = .ok (.i2l, 1) := by decide +kernel
theorem dX12_steps_14 : decode cX12_steps 14 = .ok (.lconst 0, 1) := by decide +kernel
theorem dX12_steps_15 : decode cX12_steps 15 = .ok (.ldc2_w 378, 3) := by decide +kernel
theorem dX12_steps_18 : decode cX12_steps 18 = .ok (.invokestatic 67, 3) := by decide +kernel
theorem dX12_steps_21 : decode cX12_steps 21 = .ok (.ifCond .ne 6, 3) := by decide +kernel
theorem dX12_steps_24 : decode cX12_steps 24 = .ok (.bipush (-2), 2) := by decide +kernel
theorem dX12_steps_26 : decode cX12_steps 26 = .ok (.ireturn, 1) := by decide +kernel
theorem dX12_steps_27 : decode cX12_steps 27 = .ok (.iconst 1, 1) := by decide +kernel
theorem dX12_steps_28 : decode cX12_steps 28 = .ok (.istore_n 3, 1) := by decide +kernel
theorem dX12_steps_29 : decode cX12_steps 29 = .ok (.iconst 2, 1) := by decide +kernel
theorem dX12_steps_30 : decode cX12_steps 30 = .ok (.istore 4, 2) := by decide +kernel
theorem dX12_steps_32 : decode cX12_steps 32 = .ok (.iload 4, 2) := by decide +kernel
theorem dX12_steps_34 : decode cX12_steps 34 = .ok (.bipush 100, 2) := by decide +kernel
theorem dX12_steps_36 : decode cX12_steps 36 = .ok (.if_icmp .gt 39, 3) := by decide +kernel
theorem dX12_steps_39 : decode cX12_steps 39 = .ok (.iload_n 1, 1) := by decide +kernel
theorem dX12_steps_40 : decode cX12_steps 40 = .ok (.iload 4, 2) := by decide +kernel
theorem dX12_steps_42 : decode cX12_steps 42 = .ok (.invokestatic 375, 3) := by decide +kernel
theorem dX12_steps_45 : decode cX12_steps 45 = .ok (.iload_n 2, 1) := by decide +kernel
theorem dX12_steps_46 : decode cX12_steps 46 = .ok (.iload 4, 2) := by decide +kernel
theorem dX12_steps_48 : decode cX12_steps 48 = .ok (.imul, 1) := by decide +kernel
theorem dX12_steps_49 : decode cX12_steps 49 = .ok (.iadd, 1) := by decide +kernel
theorem dX12_steps_50 : decode cX12_steps 50 = .ok (.iload_n 1, 1) := by decide +kernel
theorem dX12_steps_51 : decode cX12_steps 51 = .ok (.iload_n 3, 1) := by decide +kernel
theorem dX12_steps_52 : decode cX12_steps 52 = .ok (.invokestatic 375, 3) := by decide +kernel
theorem dX12_steps_55 : decode cX12_steps 55 = .ok (.iload_n 2, 1) := by decide +kernel
theorem dX12_steps_56 : decode cX12_steps 56 = .ok (.iload_n 3, 1) := by decide +kernel
theorem dX12_steps_57 : decode cX12_steps 57 = .ok (.imul, 1) := by decide +kernel
theorem dX12_steps_58 : decode cX12_steps 58 = .ok (.iadd, 1) := by decide +kernel
theorem dX12_steps_59 : decode cX12_steps 59 = .ok (.if_icmp .ge 8, 3) := by decide +kernel
theorem dX12_steps_62 : decode cX12_steps 62 = .ok (.iload 4, 2) := by decide +kernel
theorem dX12_steps_64 : decode cX12_steps 64 = .ok (.goto 4, 3) := by decide +kernel
theorem dX12_steps_67 : decode cX12_steps 67 = .ok (.iload_n 3, 1) := by decide +kernel
theorem dX12_steps_68 : decode cX12_steps 68 = .ok (.istore_n 3, 1) := by decide +kernel
theorem dX12_steps_69 : decode cX12_steps 69 = .ok (.iinc 4 1, 3) := by decide +kernel
theorem dX12_steps_72 : decode cX12_steps 72 = .ok (.goto (-40), 3) := by decide +kernel
theorem dX12_steps_75 : decode cX12_steps 75 = .ok (.iload_n 3, 1) := by decide +kernel
theorem dX12_steps_76 : decode cX12_steps 76 = .ok (.ireturn, 1) := by decide +kernel
/-- n steps of an amount as even as can be: their squares together -/
def evF (a n : Int32) : Int32 := (a - a / n * n) * (a / n + 1) * (a / n + 1) + (n - (a - a / n * n)) * (a / n) * (a / n)
def sp_even (a n : Int32) : Int32 := if (0 ≤ a.toInt ∧ a.toInt ≤ 10000) ∧ (1 ≤ n.toInt ∧ n.toInt ≤ 100) then evF a n else -2
def cst (a q n : Int32) : Int32 := evF a n + q * n
/-- the least that is best among 1 .. k + 1 -/
def bst (a q : Int32) : Nat → Int32
  | 0 => 1
  | k + 1 => if cst a q (nI (k + 2)) < cst a q (bst a q k) then nI (k + 2) else bst a q k
def sp_steps (a q : Int32) : Int32 := if (0 ≤ a.toInt ∧ a.toInt ≤ 10000) ∧ (0 ≤ q.toInt ∧ q.toInt ≤ 100000) then bst a q 99 else -2
theorem bst_pos (a q : Int32) : ∀ k : Nat, k ≤ 1000 → 1 ≤ (bst a q k).toInt
  | 0, _ => (by decide : (1 : Int) ≤ (1 : Int32).toInt)
  | k + 1, h => by
    unfold bst
    split
    · rw [nI_toInt (by omega)]; omega
    · exact bst_pos a q k (by omega)
theorem cst1 {a q : Int32} (h1 : 0 ≤ a.toInt) (h2 : a.toInt ≤ 10000) (h3 : 0 ≤ q.toInt) (h4 : q.toInt ≤ 100000) : (cst a q 1).toInt < 1000000000 := by
  obtain ⟨j, hj, rfl⟩ := nI_of2 (x := a) (M := 10000) (n := 10000) (by decide) (fun z => by have := k_lt (a := a.toInt) (b := 0) rfl (by decide) z; omega) (Int32.le_iff_toInt_le.mpr (by rw [show (10000 : Int32).toInt = 10000 by decide]; exact h2))
  obtain ⟨k, hk, rfl⟩ := nI_of2 (x := q) (M := 100000) (n := 100000) (by decide) (fun z => by have := k_lt (a := q.toInt) (b := 0) rfl (by decide) z; omega) (Int32.le_iff_toInt_le.mpr (by rw [show (100000 : Int32).toInt = 100000 by decide]; exact h4))
  have d1 : nI j / 1 = nI j := by
    have := pk_div (a := j) (d := 1) (by omega) (by decide) (by decide)
    rw [Nat.div_one] at this
    exact this
  have e : cst (nI j) (nI k) 1 = nI (j * j + k) := by
    unfold cst evF
    rw [d1, Int32.mul_one, Int32.sub_self, Int32.zero_mul, Int32.zero_mul, Int32.sub_zero, Int32.one_mul, Int32.mul_one, Int32.zero_add, pk_mul, nI_add]
  have hm : j * j ≤ 10000 * 10000 := Nat.mul_le_mul hj hj
  rw [e, nI_toInt (by omega)]
  omega
