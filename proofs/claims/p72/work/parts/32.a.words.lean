theorem b_593 : Cond.methodLink RX11 279 yX11_evenSquares ∈ BIG := bi (tin_5 _ (List.mem_of_getElem? (i := 73) rfl)) rfl
theorem b_594 : Cond.constant RX11 282 (100000) ∈ BIG := bi (tin_5 _ (List.mem_of_getElem? (i := 80) rfl)) rfl
theorem b_595 : Cond.code yX11_evenSquares cX11_evenSquares 4 (some .int) ∈ BIG := bi (tin_5 _ (List.mem_of_getElem? (i := 75) rfl)) rfl
theorem b_596 : Cond.static yX11_evenSquares ∈ BIG := bi (tin_5 _ (List.mem_of_getElem? (i := 74) rfl)) rfl
theorem m_yX11_evenSquares : MS yX11_evenSquares cX11_evenSquares 4 (some .int) 2 := ⟨b_595, b_596, b_332, by decide +kernel⟩
theorem dX11_even_0 : decode cX11_even 0 = .ok (.iload_n 1, 1) := by decide +kernel
theorem dX11_even_1 : decode cX11_even 1 = .ok (.ifCond .lt 21, 3) := by decide +kernel
theorem dX11_even_4 : decode cX11_even 4 = .ok (.iload_n 1, 1) := by decide +kernel
theorem dX11_even_5 : decode cX11_even 5 = .ok (.sipush 10000, 3) := by decide +kernel
theorem dX11_even_8 : decode cX11_even 8 = .ok (.if_icmp .gt 14, 3) := by decide +kernel
theorem dX11_even_11 : decode cX11_even 11 = .ok (.iload_n 2, 1) := by decide +kernel
theorem dX11_even_12 : decode cX11_even 12 = .ok (.iconst 1, 1) := by decide +kernel
theorem dX11_even_13 : decode cX11_even 13 = .ok (.if_icmp .lt 9, 3) := by decide +kernel
theorem dX11_even_16 : decode cX11_even 16 = .ok (.iload_n 2, 1) := by decide +kernel
theorem dX11_even_17 : decode cX11_even 17 = .ok (.bipush 100, 2) := by decide +kernel
theorem dX11_even_19 : decode cX11_even 19 = .ok (.if_icmp .le 6, 3) := by decide +kernel
theorem dX11_even_22 : decode cX11_even 22 = .ok (.bipush (-2), 2) := by decide +kernel
theorem dX11_even_24 : decode cX11_even 24 = .ok (.ireturn, 1) := by decide +kernel
theorem dX11_even_25 : decode cX11_even 25 = .ok (.iload_n 1, 1) := by decide +kernel
theorem dX11_even_26 : decode cX11_even 26 = .ok (.iload_n 2, 1) := by decide +kernel
theorem dX11_even_27 : decode cX11_even 27 = .ok (.invokestatic 279, 3) := by decide +kernel
theorem dX11_even_30 : decode cX11_even 30 = .ok (.ireturn, 1) := by decide +kernel
theorem dX11_evenSquares_0 : decode cX11_evenSquares 0 = .ok (.iload_n 1, 1) := by decide +kernel
theorem dX11_evenSquares_1 : decode cX11_evenSquares 1 = .ok (.iconst 1, 1) := by decide +kernel
theorem dX11_evenSquares_2 : decode cX11_evenSquares 2 = .ok (.if_icmp .ge 5, 3) := by decide +kernel
theorem dX11_evenSquares_7 : decode cX11_evenSquares 7 = .ok (.iload_n 0, 1) := by decide +kernel
theorem dX11_evenSquares_8 : decode cX11_evenSquares 8 = .ok (.iload_n 1, 1) := by decide +kernel
theorem dX11_evenSquares_9 : decode cX11_evenSquares 9 = .ok (.idiv, 1) := by decide +kernel
theorem dX11_evenSquares_10 : decode cX11_evenSquares 10 = .ok (.istore_n 2, 1) := by decide +kernel
theorem dX11_evenSquares_11 : decode cX11_evenSquares 11 = .ok (.iload_n 0, 1) := by decide +kernel
theorem dX11_evenSquares_12 : decode cX11_evenSquares 12 = .ok (.iload_n 1, 1) := by decide +kernel
theorem dX11_evenSquares_13 : decode cX11_evenSquares 13 = .ok (.irem, 1) := by decide +kernel
theorem dX11_evenSquares_14 : decode cX11_evenSquares 14 = .ok (.istore_n 3, 1) := by decide +kernel
theorem dX11_evenSquares_15 : decode cX11_evenSquares 15 = .ok (.iload_n 3, 1) := by decide +kernel
theorem dX11_evenSquares_16 : decode cX11_evenSquares 16 = .ok (.iload_n 2, 1) := by decide +kernel
theorem dX11_evenSquares_17 : decode cX11_evenSquares 17 = .ok (.iconst 1, 1) := by decide +kernel
theorem dX11_evenSquares_18 : decode cX11_evenSquares 18 = .ok (.iadd, 1) := by decide +kernel
theorem dX11_evenSquares_19 : decode cX11_evenSquares 19 = .ok (.imul, 1) := by decide +kernel
theorem dX11_evenSquares_20 : decode cX11_evenSquares 20 = .ok (.iload_n 2, 1) := by decide +kernel
theorem dX11_evenSquares_21 : decode cX11_evenSquares 21 = .ok (.iconst 1, 1) := by decide +kernel
theorem dX11_evenSquares_22 : decode cX11_evenSquares 22 = .ok (.iadd, 1) := by decide +kernel
theorem dX11_evenSquares_23 : decode cX11_evenSquares 23 = .ok (.imul, 1) := by decide +kernel
theorem dX11_evenSquares_24 : decode cX11_evenSquares 24 = .ok (.iload_n 1, 1) := by decide +kernel
theorem dX11_evenSquares_25 : decode cX11_evenSquares 25 = .ok (.iload_n 3, 1) := by decide +kernel
theorem dX11_evenSquares_26 : decode cX11_evenSquares 26 = .ok (.isub, 1) := by decide +kernel
theorem dX11_evenSquares_27 : decode cX11_evenSquares 27 = .ok (.iload_n 2, 1) := by decide +kernel
theorem dX11_evenSquares_28 : decode cX11_evenSquares 28 = .ok (.imul, 1) := by decide +kernel
theorem dX11_evenSquares_29 : decode cX11_evenSquares 29 = .ok (.iload_n 2, 1) := by decide +kernel
theorem dX11_evenSquares_30 : decode cX11_evenSquares 30 = .ok (.imul, 1) := by decide +kernel
theorem dX11_evenSquares_31 : decode cX11_evenSquares 31 = .ok (.iadd, 1) := by decide +kernel
theorem dX11_evenSquares_32 : decode cX11_evenSquares 32 = .ok (.ireturn, 1) := by decide +kernel
theorem dX11_steps_0 : decode cX11_steps 0 = .ok (.iload_n 1, 1) := by decide +kernel
theorem dX11_steps_1 : decode cX11_steps 1 = .ok (.ifCond .lt 21, 3) := by decide +kernel
theorem dX11_steps_4 : decode cX11_steps 4 = .ok (.iload_n 1, 1) := by decide +kernel
theorem dX11_steps_5 : decode cX11_steps 5 = .ok (.sipush 10000, 3) := by decide +kernel
theorem dX11_steps_8 : decode cX11_steps 8 = .ok (.if_icmp .gt 14, 3) := by decide +kernel
theorem dX11_steps_11 : decode cX11_steps 11 = .ok (.iload_n 2, 1) := by decide +kernel
theorem dX11_steps_12 : decode cX11_steps 12 = .ok (.ifCond .lt 10, 3) := by decide +kernel
theorem dX11_steps_15 : decode cX11_steps 15 = .ok (.iload_n 2, 1) := by decide +kernel
theorem dX11_steps_16 : decode cX11_steps 16 = .ok (.ldc_w 282, 3) := by decide +kernel
theorem dX11_steps_19 : decode cX11_steps 19 = .ok (.if_icmp .le 6, 3) := by decide +kernel
theorem dX11_steps_22 : decode cX11_steps 22 = .ok (.bipush (-2), 2) := by decide +kernel
theorem dX11_steps_24 : decode cX11_steps 24 = .ok (.ireturn, 1) := by decide +kernel
theorem dX11_steps_25 : decode cX11_steps 25 = .ok (.iconst 1, 1) := by decide +kernel
theorem dX11_steps_26 : decode cX11_steps 26 = .ok (.istore_n 3, 1) := by decide +kernel
theorem dX11_steps_27 : decode cX11_steps 27 = .ok (.ldc 179, 2) := by decide +kernel
theorem dX11_steps_29 : decode cX11_steps 29 = .ok (.istore 4, 2) := by decide +kernel
theorem dX11_steps_31 : decode cX11_steps 31 = .ok (.iconst 1, 1) := by decide +kernel
theorem dX11_steps_32 : decode cX11_steps 32 = .ok (.istore 5, 2) := by decide +kernel
theorem dX11_steps_34 : decode cX11_steps 34 = .ok (.iload 5, 2) := by decide +kernel
theorem dX11_steps_36 : decode cX11_steps 36 = .ok (.bipush 100, 2) := by decide +kernel
theorem dX11_steps_38 : decode cX11_steps 38 = .ok (.if_icmp .gt 36, 3) := by decide +kernel
theorem dX11_steps_41 : decode cX11_steps 41 = .ok (.iload_n 1, 1) := by decide +kernel
theorem dX11_steps_42 : decode cX11_steps 42 = .ok (.iload 5, 2) := by decide +kernel
theorem dX11_steps_44 : decode cX11_steps 44 = .ok (.invokestatic 279, 3) := by decide +kernel
theorem dX11_steps_47 : decode cX11_steps 47 = .ok (.iload_n 2, 1) := by decide +kernel
theorem dX11_steps_48 : decode cX11_steps 48 = .ok (.iload 5, 2) := by decide +kernel
theorem dX11_steps_50 : decode cX11_steps 50 = .ok (.imul, 1) := by decide +kernel
theorem dX11_steps_51 : decode cX11_steps 51 = .ok (.iadd, 1) := by decide +kernel
theorem dX11_steps_52 : decode cX11_steps 52 = .ok (.istore 6, 2) := by decide +kernel
theorem dX11_steps_54 : decode cX11_steps 54 = .ok (.iload 6, 2) := by decide +kernel
theorem dX11_steps_56 : decode cX11_steps 56 = .ok (.iload 4, 2) := by decide +kernel
theorem dX11_steps_58 : decode cX11_steps 58 = .ok (.if_icmp .ge 10, 3) := by decide +kernel
theorem dX11_steps_61 : decode cX11_steps 61 = .ok (.iload 6, 2) := by decide +kernel
theorem dX11_steps_63 : decode cX11_steps 63 = .ok (.istore 4, 2) := by decide +kernel
theorem dX11_steps_65 : decode cX11_steps 65 = .ok (.iload 5, 2) := by decide +kernel
theorem dX11_steps_67 : decode cX11_steps 67 = .ok (.istore_n 3, 1) := by decide +kernel
theorem dX11_steps_68 : decode cX11_steps 68 = .ok (.iinc 5 1, 3) := by decide +kernel
theorem dX11_steps_71 : decode cX11_steps 71 = .ok (.goto (-37), 3) := by decide +kernel
theorem dX11_steps_74 : decode cX11_steps 74 = .ok (.iload_n 3, 1) := by decide +kernel
theorem dX11_steps_75 : decode cX11_steps 75 = .ok (.ireturn, 1) := by decide +kernel
/-- n steps of an amount as even as can be: their squares together -/
def evF (a n : Int32) : Int32 := (a - a / n * n) * (a / n + 1) * (a / n + 1) + (n - (a - a / n * n)) * (a / n) * (a / n)
def sp_even (a n : Int32) : Int32 := if (0 ≤ a.toInt ∧ a.toInt ≤ 10000) ∧ (1 ≤ n.toInt ∧ n.toInt ≤ 100) then evF a n else -2
def cst (a q n : Int32) : Int32 := evF a n + q * n
/-- the least that is best among 1 .. k + 1 -/
def bst (a q : Int32) : Nat → Int32
  | 0 => 1
  | k + 1 => if cst a q (nI (k + 2)) < cst a q (bst a q k) then nI (k + 2) else bst a q k
def sp_steps (a q : Int32) : Int32 := if (0 ≤ a.toInt ∧ a.toInt ≤ 10000) ∧ (0 ≤ q.toInt ∧ q.toInt ≤ 100000) then bst a q 99 else -2
theorem bst_pos (a q : Int32) : ∀ k : Nat, k ≤ 1000 → 1 ≤ (bst a q k).toInt
  | 0, _ => (by decide : (1 : Int) ≤ (1 : Int32).toInt)
  | k + 1, h => by
    unfold bst
    split
    · rw [nI_toInt (by omega)]; omega
    · exact bst_pos a q k (by omega)
theorem cst1 {a q : Int32} (h1 : 0 ≤ a.toInt) (h2 : a.toInt ≤ 10000) (h3 : 0 ≤ q.toInt) (h4 : q.toInt ≤ 100000) : (cst a q 1).toInt < 1000000000 := by
  obtain ⟨j, hj, rfl⟩ := nI_of2 (x := a) (M := 10000) (n := 10000) (by decide) (fun z => by have := k_lt (a := a.toInt) (b := 0) rfl (by decide) z; omega) (Int32.le_iff_toInt_le.mpr (by rw [show (10000 : Int32).toInt = 10000 by decide]; exact h2))
  obtain ⟨k, hk, rfl⟩ := nI_of2 (x := q) (M := 100000) (n := 100000) (by decide) (fun z => by have := k_lt (a := q.toInt) (b := 0) rfl (by decide) z; omega) (Int32.le_iff_toInt_le.mpr (by rw [show (100000 : Int32).toInt = 100000 by decide]; exact h4))
  have d1 : nI j / 1 = nI j := by
    have := pk_div (a := j) (d := 1) (by omega) (by decide) (by decide)
    rw [Nat.div_one] at this
    exact this
  have e : cst (nI j) (nI k) 1 = nI (j * j + k) := by
    unfold cst evF
    rw [d1, Int32.mul_one, Int32.sub_self, Int32.zero_mul, Int32.zero_mul, Int32.sub_zero, Int32.one_mul, Int32.mul_one, Int32.zero_add, pk_mul, nI_add]
  have hm : j * j ≤ 10000 * 10000 := Nat.mul_le_mul hj hj
  rw [e, nI_toInt (by omega)]
  omega
