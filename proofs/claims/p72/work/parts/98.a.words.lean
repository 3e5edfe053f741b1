theorem b_1841 : Cond.instantiable RX11 11 ∈ BIG := bi (tin_1 _ (List.mem_of_getElem? (i := 23) rfl)) rfl
theorem b_1842 : Cond.instantiable RX12 29 ∈ BIG := bi (tin_6 _ (List.mem_of_getElem? (i := 97) rfl)) rfl
theorem b_1843 : Cond.classLink RL 7 RX11 ∈ BIG := bi (tin_1 _ (List.mem_of_getElem? (i := 22) rfl)) rfl
theorem b_1844 : Cond.methodLink RL 9 yX11_init ∈ BIG := bi (tin_1 _ (List.mem_of_getElem? (i := 24) rfl)) rfl
theorem b_1845 : Cond.classLink RL 10 RX12 ∈ BIG := bi (tin_6 _ (List.mem_of_getElem? (i := 96) rfl)) rfl
theorem b_1846 : Cond.methodLink RL 12 yX12_init ∈ BIG := bi (tin_6 _ (List.mem_of_getElem? (i := 98) rfl)) rfl
theorem b_1847 : Cond.code yX11_init cX11_init 2 none ∈ BIG := bi (tin_1 _ (List.mem_of_getElem? (i := 26) rfl)) rfl
theorem b_1848 : Cond.instanceMethod yX11_init ∈ BIG := bi (tin_1 _ (List.mem_of_getElem? (i := 25) rfl)) rfl
theorem b_1849 : Cond.code yX12_init cX12_init 1 none ∈ BIG := bi (tin_6 _ (List.mem_of_getElem? (i := 100) rfl)) rfl
theorem b_1850 : Cond.instanceMethod yX12_init ∈ BIG := bi (tin_6 _ (List.mem_of_getElem? (i := 99) rfl)) rfl
theorem m_yX11_init : MI yX11_init cX11_init 2 0 := ⟨b_1847, b_1848, b_332, rfl, by decide +kernel⟩
theorem m_yX12_init : MI yX12_init cX12_init 1 0 := ⟨b_1849, b_1850, b_810, rfl, by decide +kernel⟩
theorem dL_law_0 : decode cL_law 0 = .ok (.new 7, 3) := by decide +kernel
theorem dL_law_3 : decode cL_law 3 = .ok (.dup, 1) := by decide +kernel
theorem dL_law_4 : decode cL_law 4 = .ok (.invokespecial 9, 3) := by decide +kernel
theorem dL_law_7 : decode cL_law 7 = .ok (.astore_n 1, 1) := by decide +kernel
theorem dL_law_8 : decode cL_law 8 = .ok (.new 10, 3) := by decide +kernel
theorem dL_law_11 : decode cL_law 11 = .ok (.dup, 1) := by decide +kernel
theorem dL_law_12 : decode cL_law 12 = .ok (.invokespecial 12, 3) := by decide +kernel
theorem dL_law_15 : decode cL_law 15 = .ok (.astore_n 2, 1) := by decide +kernel
theorem dL_law_16 : decode cL_law 16 = .ok (.iconst 0, 1) := by decide +kernel
theorem dL_law_17 : decode cL_law 17 = .ok (.istore_n 3, 1) := by decide +kernel
theorem str_of {args : Array Value} {s : State} {tm : Term} {bs : List Int32} {A : Nat → Prop} (hN : bs.length < 2 ^ 31) (hex : (Cond.exactly tm "java/lang/String").before args s = true) (hco : (Cond.eq (.field tm "java/lang/String" "coder" "B") (.int 0)).before args s = true) (har : (Cond.arrayOf (.field tm "java/lang/String" "value" "[B") .byte).before args s = true) (hle : (Cond.eq (.length (.field tm "java/lang/String" "value" "[B")) (.int (Int32.ofNat bs.length))).before args s = true)
    (hel : ∀ j : Nat, j < bs.length → (Cond.eq (.elem (.field tm "java/lang/String" "value" "[B") (.int (Int32.ofNat j))) (.int (bs.getD j 0))).before args s = true) (hA : ∀ a : Nat, a < s.heap.size → ¬ A a) : ∃ q t : Nat, tm.eval args s none [] s = some (.ref q) ∧ va_O "java/lang/String" q A s s.heap ∧ va_OF "java/lang/String" "coder" "B" (.int 0) q A s s.heap ∧ va_OF "java/lang/String" "value" "[B" (.ref t) q A s s.heap ∧ va_T .byte t bs.length (fun j => .int (bs.getD j 0)) A s s.heap := by
  have e1 : ∀ i : Nat, i < 1 → ([bs.length] : List Nat).getD i 0 < 2 ^ 31 := by
    intro i hi
    obtain rfl : i = 0 := by omega
    exact hN
  have e2 : ∀ i : Nat, i < 1 → (Cond.eq (.length (.field tm "java/lang/String" "value" "[B")) (.int (Int32.ofNat (([bs.length] : List Nat).getD i 0)))).before args s = true := by
    intro i hi
    obtain rfl : i = 0 := by omega
    exact hle
  have e3 : ∀ i : Nat, i < 1 → ∀ j : Nat, j < ([bs.length] : List Nat).getD i 0 → (Cond.eq (.elem (.field tm "java/lang/String" "value" "[B") (.int (Int32.ofNat j))) (.int ((([bs] : List (List Int32)).getD i []).getD j 0))).before args s = true := by
    intro i hi j hj
    obtain rfl : i = 0 := by omega
    exact hel j hj
  obtain ⟨adK, adV, hS, he⟩ := vk_Sof (args := args) (s := s) (N := 1) (tm := fun _ => tm) (len := [bs.length]) (byt := [bs]) (A := A) e1 (fun _ _ => hex) (fun _ _ => hco) (fun _ _ => har) e2 e3 (fun i j hi hj h => absurd (show i = j by omega) h) hA
  obtain ⟨h1, h2, h3, h4⟩ := hS.1 0 (by omega)
  exact ⟨adK 0, adV 0, he 0 (by omega), h1, h2, h3, h4⟩
theorem lgok_z : lgok (fun _ => 0) (fun _ => 0) (fun _ => 0) := fun _ _ => ⟨fun _ => show 0 ≤ (0 : Int32).toInt ∧ (0 : Int32).toInt ≤ 7 by decide, fun _ => show 0 ≤ (0 : Int32).toInt ∧ (0 : Int32).toInt ≤ 31 by decide, fun _ _ => show 0 ≤ (0 : Int32).toInt ∧ (0 : Int32).toInt ≤ 7 by decide⟩
theorem wod_0 : wod (fun _ => 0) := ⟨wok_z (fun _ _ => rfl), Or.inr ⟨by decide, by decide, by decide⟩⟩
theorem imok_0 : imok (fun _ => 0) := fun _ _ => wod_0
theorem mny_b : ab mny 4 (-1) 60 := fun j hj => by
  match j, hj with
  | 0, _ => decide
  | 1, _ => decide
  | 2, _ => decide
  | 3, _ => decide
  | j + 4, h => exact absurd h (by omega)
def X0 : XS := ((fun k => match k with | 1 => -1 | _ => 0), (fun _ _ => 0), fun _ _ => 0)
theorem X0_ok : OX X0 := ⟨(by decide), (by decide), (by decide), (by decide), (by decide), (by decide), (by decide), (by decide), (by decide), (by decide), (ab_const (v := 0) (by decide) (by decide)), (ab_const (v := 0) (by decide) (by decide)), (by decide), (by decide), (by decide), (by decide), (by decide), (by decide), (by decide), (by decide), (ab_const (v := 0) (by decide) (by decide)), (ab_const (v := 0) (by decide) (by decide)), (by decide), (by decide), (by decide), (by decide), (by decide), (by decide), (by decide), (by decide), (ab_const (v := 0) (by decide) (by decide)), (ab_const (v := 0) (by decide) (by decide)), (by decide), (by decide), (by decide), (by decide), (by decide), (by decide), (by decide), (by decide), (ab_const (v := 0) (by decide) (by decide)), (ab_const (v := 0) (by decide) (by decide)), (by decide), (by decide), (by decide), (by decide), (by decide), (by decide), (by decide), (by decide), (ab_const (v := 0) (by decide) (by decide)), (ab_const (v := 0) (by decide) (by decide)), (by decide), (by decide), (by decide), (by decide), (by decide), (by decide), (by decide), (by decide), (by decide), (by decide), (by decide), (by decide), (by decide), (by decide), (by decide), (by decide), (ab_const (v := 0) (by decide) (by decide)), (ab_const (v := 0) (by decide) (by decide)), (ab_const (v := 0) (by decide) (by decide)), (by decide), (ab_const (v := 0) (by decide) (by decide)), (by decide), (by decide), (ab_const (v := 0) (by decide) (by decide)), (ab_const (v := 0) (by decide) (by decide)), lgok_z, lgok_z, lgok_z, lgok_z, lgok_z⟩
def Y0 : XS := ((fun k => match k with | 8 => -1 | _ => 0), (fun k => match k with | 11 => mny | _ => fun _ => 0), fun _ _ => 0)
theorem Y0_ok : OM Y0 := ⟨(by decide), (by decide), (by decide), (by decide), (by decide), (by decide), (by decide), (by decide), (by decide), wod_0, imok_0, mny_b, (ab_const (v := 0) (by decide) (by decide))⟩
theorem OR0_ok : OR_ X0 Y0 := ⟨rfl, rfl, rfl, (Or.inl ⟨by decide, by decide⟩), (Or.inl ⟨by decide, by decide⟩), (Or.inl ⟨by decide, by decide⟩), (Or.inl ⟨by decide, by decide⟩)⟩
theorem dL_law_18 : decode cL_law 18 = .ok (.iload_n 3, 1) := by decide +kernel
theorem dL_law_19 : decode cL_law 19 = .ok (.aload_n 0, 1) := by decide +kernel
theorem dL_law_20 : decode cL_law 20 = .ok (.arraylength, 1) := by decide +kernel
theorem dL_law_21 : decode cL_law 21 = .ok (.bipush 6, 2) := by decide +kernel
theorem dL_law_23 : decode cL_law 23 = .ok (.isub, 1) := by decide +kernel
theorem dL_law_24 : decode cL_law 24 = .ok (.if_icmp .gt 2447, 3) := by decide +kernel
theorem dL_law_27 : decode cL_law 27 = .ok (.aload_n 0, 1) := by decide +kernel
theorem dL_law_28 : decode cL_law 28 = .ok (.iload_n 3, 1) := by decide +kernel
theorem dL_law_29 : decode cL_law 29 = .ok (.iaload, 1) := by decide +kernel
theorem dL_law_30 : decode cL_law 30 = .ok (.bipush 127, 2) := by decide +kernel
theorem dL_law_32 : decode cL_law 32 = .ok (.iand, 1) := by decide +kernel
theorem dL_law_33 : decode cL_law 33 = .ok (.tableswitch 2432 0 70 #[299, 362, 385, 398, 421, 444, 477, 510, 543, 566, 589, 622, 675, 708, 751, 784, 807, 840, 873, 906, 929, 952, 975, 1008, 1051, 1074, 1097, 1130, 1153, 1186, 1209, 1242, 1265, 1298, 1351, 1364, 1387, 1420, 1453, 1476, 1489, 1502, 1525, 1558, 1591, 1614, 1657, 1690, 1713, 1746, 1779, 1802, 1825, 1858, 1871, 1904, 1917, 1930, 1953, 1986, 2019, 2042, 2085, 2098, 2151, 2184, 2207, 2230, 2253, 2296, 2369], 299) := by decide +kernel
theorem dL_law_2465 : decode cL_law 2465 = .ok (.iinc 3 6, 3) := by decide +kernel
theorem dL_law_2468 : decode cL_law 2468 = .ok (.goto (-2450), 3) := by decide +kernel
theorem dL_law_2471 : decode cL_law 2471 = .ok (.iconst 1, 1) := by decide +kernel
theorem dL_law_2472 : decode cL_law 2472 = .ok (.ireturn, 1) := by decide +kernel
