theorem b_1191 : Cond.constantLong RX12 373 (10000) ∈ BIG := bi (tin_8 _ (List.mem_of_getElem? (i := 168) rfl)) rfl
theorem b_1192 : Cond.methodLink RX12 375 yX12_evenOf ∈ BIG := bi (tin_8 _ (List.mem_of_getElem? (i := 169) rfl)) rfl
theorem b_1193 : Cond.constantLong RX12 378 (100000) ∈ BIG := bi (tin_8 _ (List.mem_of_getElem? (i := 176) rfl)) rfl
theorem b_1194 : Cond.code yX12_evenOf cX12_evenOf 4 (some .int) ∈ BIG := bi (tin_8 _ (List.mem_of_getElem? (i := 171) rfl)) rfl
theorem b_1195 : Cond.static yX12_evenOf ∈ BIG := bi (tin_8 _ (List.mem_of_getElem? (i := 170) rfl)) rfl
theorem m_yX12_evenOf : MS yX12_evenOf cX12_evenOf 4 (some .int) 2 := ⟨b_1194, b_1195, b_810, by decide +kernel⟩
theorem dX12_even_0 : decode cX12_even 0 = .ok (.iload_n 1, 1) := by decide +kernel
theorem dX12_even_1 : decode cX12_even 1 = .ok (.i2l, 1) := by decide +kernel
theorem dX12_even_2 : decode cX12_even 2 = .ok (.lconst 0, 1) := by decide +kernel
theorem dX12_even_3 : decode cX12_even 3 = .ok (.ldc2_w 373, 3) := by decide +kernel
theorem dX12_even_6 : decode cX12_even 6 = .ok (.invokestatic 67, 3) := by decide +kernel
theorem dX12_even_9 : decode cX12_even 9 = .ok (.ifCond .eq 23, 3) := by decide +kernel
theorem dX12_even_12 : decode cX12_even 12 = .ok (.iload_n 2, 1) := by decide +kernel
theorem dX12_even_13 : decode cX12_even 13 = .ok (.i2l, 1) := by decide +kernel
theorem dX12_even_14 : decode cX12_even 14 = .ok (.lconst 1, 1) := by decide +kernel
theorem dX12_even_15 : decode cX12_even 15 = .ok (.ldc2_w 253, 3) := by decide +kernel
theorem dX12_even_18 : decode cX12_even 18 = .ok (.invokestatic 67, 3) := by decide +kernel
theorem dX12_even_21 : decode cX12_even 21 = .ok (.ifCond .eq 11, 3) := by decide +kernel
theorem dX12_even_24 : decode cX12_even 24 = .ok (.iload_n 1, 1) := by decide +kernel
theorem dX12_even_25 : decode cX12_even 25 = .ok (.iload_n 2, 1) := by decide +kernel
theorem dX12_even_26 : decode cX12_even 26 = .ok (.invokestatic 375, 3) := by decide +kernel
theorem dX12_even_29 : decode cX12_even 29 = .ok (.goto 5, 3) := by decide +kernel
theorem dX12_even_32 : decode cX12_even 32 = .ok (.bipush (-2), 2) := by decide +kernel
theorem dX12_even_34 : decode cX12_even 34 = .ok (.ireturn, 1) := by decide +kernel
theorem dX12_steps_0 : decode cX12_steps 0 = .ok (.iload_n 1, 1) := by decide +kernel
theorem dX12_steps_1 : decode cX12_steps 1 = .ok (.i2l, 1) := by decide +kernel
theorem dX12_steps_2 : decode cX12_steps 2 = .ok (.lconst 0, 1) := by decide +kernel
theorem dX12_steps_3 : decode cX12_steps 3 = .ok (.ldc2_w 373, 3) := by decide +kernel
theorem dX12_steps_6 : decode cX12_steps 6 = .ok (.invokestatic 67, 3) := by decide +kernel
theorem dX12_steps_9 : decode cX12_steps 9 = .ok (.ifCond .eq 15, 3) := by decide +kernel
theorem dX12_steps_12 : decode cX12_steps 12 = .ok (.iload_n 2, 1) := by decide +kernel
theorem dX12_steps_13 : decode cX12_steps 13 = .ok (.i2l, 1) := by decide +kernel
theorem dX12_steps_14 : decode cX12_steps 14 = .ok (.lconst 0, 1) := by decide +kernel
theorem dX12_steps_15 : decode cX12_steps 15 = .ok (.ldc2_w 378, 3) := by decide +kernel
theorem dX12_steps_18 : decode cX12_steps 18 = .ok (.invokestatic 67, 3) := by decide +kernel
theorem dX12_steps_21 : decode cX12_steps 21 = .ok (.ifCond .ne 6, 3) := by decide +kernel
theorem dX12_steps_24 : decode cX12_steps 24 = .ok (.bipush (-2), 2) := by decide +kernel
theorem dX12_steps_26 : decode cX12_steps 26 = .ok (.ireturn, 1) := by decide +kernel
theorem dX12_steps_27 : decode cX12_steps 27 = .ok (.iconst 1, 1) := by decide +kernel
theorem dX12_steps_28 : decode cX12_steps 28 = .ok (.istore_n 3, 1) := by decide +kernel
theorem dX12_steps_29 : decode cX12_steps 29 = .ok (.iconst 2, 1) := by decide +kernel
theorem dX12_steps_30 : decode cX12_steps 30 = .ok (.istore 4, 2) := by decide +kernel
theorem dX12_steps_32 : decode cX12_steps 32 = .ok (.iload 4, 2) := by decide +kernel
theorem dX12_steps_34 : decode cX12_steps 34 = .ok (.bipush 100, 2) := by decide +kernel
theorem dX12_steps_36 : decode cX12_steps 36 = .ok (.if_icmp .gt 39, 3) := by decide +kernel
theorem dX12_steps_39 : decode cX12_steps 39 = .ok (.iload_n 1, 1) := by decide +kernel
theorem dX12_steps_40 : decode cX12_steps 40 = .ok (.iload 4, 2) := by decide +kernel
theorem dX12_steps_42 : decode cX12_steps 42 = .ok (.invokestatic 375, 3) := by decide +kernel
theorem dX12_steps_45 : decode cX12_steps 45 = .ok (.iload_n 2, 1) := by decide +kernel
theorem dX12_steps_46 : decode cX12_steps 46 = .ok (.iload 4, 2) := by decide +kernel
theorem dX12_steps_48 : decode cX12_steps 48 = .ok (.imul, 1) := by decide +kernel
theorem dX12_steps_49 : decode cX12_steps 49 = .ok (.iadd, 1) := by decide +kernel
theorem dX12_steps_50 : decode cX12_steps 50 = .ok (.iload_n 1, 1) := by decide +kernel
theorem dX12_steps_51 : decode cX12_steps 51 = .ok (.iload_n 3, 1) := by decide +kernel
theorem dX12_steps_52 : decode cX12_steps 52 = .ok (.invokestatic 375, 3) := by decide +kernel
theorem dX12_steps_55 : decode cX12_steps 55 = .ok (.iload_n 2, 1) := by decide +kernel
theorem dX12_steps_56 : decode cX12_steps 56 = .ok (.iload_n 3, 1) := by decide +kernel
theorem dX12_steps_57 : decode cX12_steps 57 = .ok (.imul, 1) := by decide +kernel
theorem dX12_steps_58 : decode cX12_steps 58 = .ok (.iadd, 1) := by decide +kernel
theorem dX12_steps_59 : decode cX12_steps 59 = .ok (.if_icmp .ge 8, 3) := by decide +kernel
theorem dX12_steps_62 : decode cX12_steps 62 = .ok (.iload 4, 2) := by decide +kernel
theorem dX12_steps_64 : decode cX12_steps 64 = .ok (.goto 4, 3) := by decide +kernel
theorem dX12_steps_67 : decode cX12_steps 67 = .ok (.iload_n 3, 1) := by decide +kernel
theorem dX12_steps_68 : decode cX12_steps 68 = .ok (.istore_n 3, 1) := by decide +kernel
theorem dX12_steps_69 : decode cX12_steps 69 = .ok (.iinc 4 1, 3) := by decide +kernel
theorem dX12_steps_72 : decode cX12_steps 72 = .ok (.goto (-40), 3) := by decide +kernel
theorem dX12_steps_75 : decode cX12_steps 75 = .ok (.iload_n 3, 1) := by decide +kernel
theorem dX12_steps_76 : decode cX12_steps 76 = .ok (.ireturn, 1) := by decide +kernel
/-- the reference's question: a number between two others -/
def inF (v lo hi : Int64) : Int32 := if lo.toInt ≤ v.toInt ∧ v.toInt ≤ hi.toInt then 1 else 0
theorem inF_yes {v lo hi : Int64} {a b d : Int} (h1 : v.toInt = a) (h2 : lo.toInt = b) (h3 : hi.toInt = d) (c : b ≤ a ∧ a ≤ d) : inF v lo hi = 1 := if_pos (by rw [h1, h2, h3]; exact c)
theorem inF_not {v lo hi : Int64} {a b d : Int} (h1 : v.toInt = a) (h2 : lo.toInt = b) (h3 : hi.toInt = d) (c : ¬ (b ≤ a ∧ a ≤ d)) : inF v lo hi = 0 := if_neg (by rw [h1, h2, h3]; exact c)
