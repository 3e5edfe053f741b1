theorem b_1053 : Cond.instantiable RX11 11 ∈ BIG := bi (tin_1 _ (List.mem_of_getElem? (i := 23) rfl)) rfl
theorem b_1054 : Cond.instantiable RX12 29 ∈ BIG := bi (tin_6 _ (List.mem_of_getElem? (i := 97) rfl)) rfl
theorem b_1055 : Cond.classLink RL 7 RX11 ∈ BIG := bi (tin_1 _ (List.mem_of_getElem? (i := 22) rfl)) rfl
theorem b_1056 : Cond.methodLink RL 9 yX11_init ∈ BIG := bi (tin_1 _ (List.mem_of_getElem? (i := 24) rfl)) rfl
theorem b_1057 : Cond.classLink RL 10 RX12 ∈ BIG := bi (tin_6 _ (List.mem_of_getElem? (i := 96) rfl)) rfl
theorem b_1058 : Cond.methodLink RL 12 yX12_init ∈ BIG := bi (tin_6 _ (List.mem_of_getElem? (i := 98) rfl)) rfl
theorem b_1059 : Cond.code yX11_init cX11_init 2 none ∈ BIG := bi (tin_1 _ (List.mem_of_getElem? (i := 26) rfl)) rfl
theorem b_1060 : Cond.instanceMethod yX11_init ∈ BIG := bi (tin_1 _ (List.mem_of_getElem? (i := 25) rfl)) rfl
theorem b_1061 : Cond.code yX12_init cX12_init 1 none ∈ BIG := bi (tin_6 _ (List.mem_of_getElem? (i := 100) rfl)) rfl
theorem b_1062 : Cond.instanceMethod yX12_init ∈ BIG := bi (tin_6 _ (List.mem_of_getElem? (i := 99) rfl)) rfl
theorem m_yX11_init : MI yX11_init cX11_init 2 0 := ⟨b_1059, b_1060, b_27, rfl, by decide +kernel⟩
theorem m_yX12_init : MI yX12_init cX12_init 1 0 := ⟨b_1061, b_1062, b_377, rfl, by decide +kernel⟩
theorem dL_law_0 : decode cL_law 0 = .ok (.new 7, 3) := by decide +kernel
theorem dL_law_3 : decode cL_law 3 = .ok (.dup, 1) := by decide +kernel
theorem dL_law_4 : decode cL_law 4 = .ok (.invokespecial 9, 3) := by decide +kernel
theorem dL_law_7 : decode cL_law 7 = .ok (.astore_n 1, 1) := by decide +kernel
theorem dL_law_8 : decode cL_law 8 = .ok (.new 10, 3) := by decide +kernel
theorem dL_law_11 : decode cL_law 11 = .ok (.dup, 1) := by decide +kernel
theorem dL_law_12 : decode cL_law 12 = .ok (.invokespecial 12, 3) := by decide +kernel
theorem dL_law_15 : decode cL_law 15 = .ok (.astore_n 2, 1) := by decide +kernel
theorem dL_law_16 : decode cL_law 16 = .ok (.iconst 0, 1) := by decide +kernel
theorem dL_law_17 : decode cL_law 17 = .ok (.istore_n 3, 1) := by decide +kernel
theorem dL_law_27 : decode cL_law 27 = .ok (.aload_n 0, 1) := by decide +kernel
theorem dL_law_28 : decode cL_law 28 = .ok (.iload_n 3, 1) := by decide +kernel
theorem dL_law_29 : decode cL_law 29 = .ok (.iaload, 1) := by decide +kernel
theorem dL_law_30 : decode cL_law 30 = .ok (.bipush 127, 2) := by decide +kernel
theorem dL_law_32 : decode cL_law 32 = .ok (.iand, 1) := by decide +kernel
theorem dL_law_33 : decode cL_law 33 = .ok (.tableswitch 2432 0 70 #[299, 362, 385, 398, 421, 444, 477, 510, 543, 566, 589, 622, 675, 708, 751, 784, 807, 840, 873, 906, 929, 952, 975, 1008, 1051, 1074, 1097, 1130, 1153, 1186, 1209, 1242, 1265, 1298, 1351, 1364, 1387, 1420, 1453, 1476, 1489, 1502, 1525, 1558, 1591, 1614, 1657, 1690, 1713, 1746, 1779, 1802, 1825, 1858, 1871, 1904, 1917, 1930, 1953, 1986, 2019, 2042, 2085, 2098, 2151, 2184, 2207, 2230, 2253, 2296, 2369], 299) := by decide +kernel
