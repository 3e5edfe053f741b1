theorem b_1023 : Cond.fieldLink RX12 37 "GentleLettersModel" "order" "[I" ∈ BIG := bi (tin_6 _ (List.mem_of_getElem? (i := 120) rfl)) rfl
theorem b_1024 : Cond.methodLink RX12 354 yX12_swap ∈ BIG := bi (tin_8 _ (List.mem_of_getElem? (i := 156) rfl)) rfl
theorem b_1025 : Cond.code yX12_swap cX12_swap 4 none ∈ BIG := bi (tin_8 _ (List.mem_of_getElem? (i := 159) rfl)) rfl
theorem b_1026 : Cond.instanceMethod yX12_swap ∈ BIG := bi (tin_8 _ (List.mem_of_getElem? (i := 158) rfl)) rfl
theorem b_1027 : Cond.selects RX12 yX12_swap yX12_swap ∈ BIG := bi (sin_10 _ (List.mem_map.mpr ⟨(yX12_swap, 29), List.mem_of_getElem? (i := 13) rfl, rfl⟩)) rfl
theorem m_yX12_swap : MV yX12_swap cX12_swap 4 none 2 := ⟨b_1025, b_1026, b_1027, b_810, by decide +kernel⟩
theorem dX12_leftInOrder_0 : decode cX12_leftInOrder 0 = .ok (.aload_n 0, 1) := by decide +kernel
theorem dX12_leftInOrder_1 : decode cX12_leftInOrder 1 = .ok (.invokevirtual 81, 3) := by decide +kernel
theorem dX12_leftInOrder_4 : decode cX12_leftInOrder 4 = .ok (.istore_n 3, 1) := by decide +kernel
theorem dX12_leftInOrder_5 : decode cX12_leftInOrder 5 = .ok (.iconst 0, 1) := by decide +kernel
theorem dX12_leftInOrder_6 : decode cX12_leftInOrder 6 = .ok (.istore 4, 2) := by decide +kernel
theorem dX12_leftInOrder_8 : decode cX12_leftInOrder 8 = .ok (.iconst 0, 1) := by decide +kernel
theorem dX12_leftInOrder_9 : decode cX12_leftInOrder 9 = .ok (.istore 5, 2) := by decide +kernel
theorem dX12_leftInOrder_11 : decode cX12_leftInOrder 11 = .ok (.iload 5, 2) := by decide +kernel
theorem dX12_leftInOrder_13 : decode cX12_leftInOrder 13 = .ok (.aload_n 0, 1) := by decide +kernel
theorem dX12_leftInOrder_14 : decode cX12_leftInOrder 14 = .ok (.getfield 49, 3) := by decide +kernel
theorem dX12_leftInOrder_17 : decode cX12_leftInOrder 17 = .ok (.iload_n 1, 1) := by decide +kernel
theorem dX12_leftInOrder_18 : decode cX12_leftInOrder 18 = .ok (.iaload, 1) := by decide +kernel
theorem dX12_leftInOrder_19 : decode cX12_leftInOrder 19 = .ok (.if_icmp .ge 56, 3) := by decide +kernel
theorem dX12_leftInOrder_22 : decode cX12_leftInOrder 22 = .ok (.aload_n 0, 1) := by decide +kernel
theorem dX12_leftInOrder_23 : decode cX12_leftInOrder 23 = .ok (.iload_n 1, 1) := by decide +kernel
theorem dX12_leftInOrder_24 : decode cX12_leftInOrder 24 = .ok (.aload_n 0, 1) := by decide +kernel
theorem dX12_leftInOrder_25 : decode cX12_leftInOrder 25 = .ok (.getfield 37, 3) := by decide +kernel
theorem dX12_leftInOrder_28 : decode cX12_leftInOrder 28 = .ok (.iload 5, 2) := by decide +kernel
theorem dX12_leftInOrder_30 : decode cX12_leftInOrder 30 = .ok (.iaload, 1) := by decide +kernel
theorem dX12_leftInOrder_31 : decode cX12_leftInOrder 31 = .ok (.invokevirtual 303, 3) := by decide +kernel
theorem dX12_leftInOrder_34 : decode cX12_leftInOrder 34 = .ok (.istore 6, 2) := by decide +kernel
theorem dX12_leftInOrder_36 : decode cX12_leftInOrder 36 = .ok (.iload 4, 2) := by decide +kernel
theorem dX12_leftInOrder_38 : decode cX12_leftInOrder 38 = .ok (.aload_n 0, 1) := by decide +kernel
theorem dX12_leftInOrder_39 : decode cX12_leftInOrder 39 = .ok (.aload_n 0, 1) := by decide +kernel
theorem dX12_leftInOrder_40 : decode cX12_leftInOrder 40 = .ok (.iload_n 2, 1) := by decide +kernel
theorem dX12_leftInOrder_41 : decode cX12_leftInOrder 41 = .ok (.iload_n 3, 1) := by decide +kernel
theorem dX12_leftInOrder_42 : decode cX12_leftInOrder 42 = .ok (.iload 6, 2) := by decide +kernel
theorem dX12_leftInOrder_44 : decode cX12_leftInOrder 44 = .ok (.invokevirtual 289, 3) := by decide +kernel
theorem dX12_leftInOrder_47 : decode cX12_leftInOrder 47 = .ok (.iload 5, 2) := by decide +kernel
theorem dX12_leftInOrder_49 : decode cX12_leftInOrder 49 = .ok (.aload_n 0, 1) := by decide +kernel
theorem dX12_leftInOrder_50 : decode cX12_leftInOrder 50 = .ok (.getfield 9, 3) := by decide +kernel
theorem dX12_leftInOrder_53 : decode cX12_leftInOrder 53 = .ok (.iconst 2, 1) := by decide +kernel
theorem dX12_leftInOrder_54 : decode cX12_leftInOrder 54 = .ok (.iaload, 1) := by decide +kernel
theorem dX12_leftInOrder_55 : decode cX12_leftInOrder 55 = .ok (.invokevirtual 306, 3) := by decide +kernel
theorem dX12_leftInOrder_58 : decode cX12_leftInOrder 58 = .ok (.iadd, 1) := by decide +kernel
theorem dX12_leftInOrder_59 : decode cX12_leftInOrder 59 = .ok (.istore 4, 2) := by decide +kernel
theorem dX12_leftInOrder_61 : decode cX12_leftInOrder 61 = .ok (.aload_n 0, 1) := by decide +kernel
theorem dX12_leftInOrder_62 : decode cX12_leftInOrder 62 = .ok (.iload_n 3, 1) := by decide +kernel
theorem dX12_leftInOrder_63 : decode cX12_leftInOrder 63 = .ok (.iload 6, 2) := by decide +kernel
theorem dX12_leftInOrder_65 : decode cX12_leftInOrder 65 = .ok (.invokevirtual 243, 3) := by decide +kernel
theorem dX12_leftInOrder_68 : decode cX12_leftInOrder 68 = .ok (.istore_n 3, 1) := by decide +kernel
theorem dX12_leftInOrder_69 : decode cX12_leftInOrder 69 = .ok (.iinc 5 1, 3) := by decide +kernel
theorem dX12_leftInOrder_72 : decode cX12_leftInOrder 72 = .ok (.goto (-61), 3) := by decide +kernel
theorem dX12_leftInOrder_75 : decode cX12_leftInOrder 75 = .ok (.iload 4, 2) := by decide +kernel
theorem dX12_leftInOrder_77 : decode cX12_leftInOrder 77 = .ok (.ireturn, 1) := by decide +kernel
theorem dX12_nextOrder_0 : decode cX12_nextOrder 0 = .ok (.iload_n 1, 1) := by decide +kernel
theorem dX12_nextOrder_1 : decode cX12_nextOrder 1 = .ok (.iconst 2, 1) := by decide +kernel
theorem dX12_nextOrder_2 : decode cX12_nextOrder 2 = .ok (.isub, 1) := by decide +kernel
theorem dX12_nextOrder_3 : decode cX12_nextOrder 3 = .ok (.istore_n 2, 1) := by decide +kernel
theorem dX12_nextOrder_4 : decode cX12_nextOrder 4 = .ok (.iload_n 2, 1) := by decide +kernel
theorem dX12_nextOrder_5 : decode cX12_nextOrder 5 = .ok (.ifCond .lt 26, 3) := by decide +kernel
theorem dX12_nextOrder_8 : decode cX12_nextOrder 8 = .ok (.aload_n 0, 1) := by decide +kernel
theorem dX12_nextOrder_9 : decode cX12_nextOrder 9 = .ok (.getfield 37, 3) := by decide +kernel
theorem dX12_nextOrder_12 : decode cX12_nextOrder 12 = .ok (.iload_n 2, 1) := by decide +kernel
theorem dX12_nextOrder_13 : decode cX12_nextOrder 13 = .ok (.iaload, 1) := by decide +kernel
theorem dX12_nextOrder_14 : decode cX12_nextOrder 14 = .ok (.aload_n 0, 1) := by decide +kernel
theorem dX12_nextOrder_15 : decode cX12_nextOrder 15 = .ok (.getfield 37, 3) := by decide +kernel
theorem dX12_nextOrder_18 : decode cX12_nextOrder 18 = .ok (.iload_n 2, 1) := by decide +kernel
theorem dX12_nextOrder_19 : decode cX12_nextOrder 19 = .ok (.iconst 1, 1) := by decide +kernel
theorem dX12_nextOrder_20 : decode cX12_nextOrder 20 = .ok (.iadd, 1) := by decide +kernel
theorem dX12_nextOrder_21 : decode cX12_nextOrder 21 = .ok (.iaload, 1) := by decide +kernel
theorem dX12_nextOrder_22 : decode cX12_nextOrder 22 = .ok (.if_icmp .le 9, 3) := by decide +kernel
theorem dX12_nextOrder_25 : decode cX12_nextOrder 25 = .ok (.iinc 2 (-1), 3) := by decide +kernel
theorem dX12_nextOrder_28 : decode cX12_nextOrder 28 = .ok (.goto (-24), 3) := by decide +kernel
theorem dX12_nextOrder_31 : decode cX12_nextOrder 31 = .ok (.iload_n 2, 1) := by decide +kernel
theorem dX12_nextOrder_32 : decode cX12_nextOrder 32 = .ok (.ifCond .ge 5, 3) := by decide +kernel
theorem dX12_nextOrder_35 : decode cX12_nextOrder 35 = .ok (.iconst 0, 1) := by decide +kernel
theorem dX12_nextOrder_36 : decode cX12_nextOrder 36 = .ok (.ireturn, 1) := by decide +kernel
theorem dX12_nextOrder_37 : decode cX12_nextOrder 37 = .ok (.iload_n 1, 1) := by decide +kernel
theorem dX12_nextOrder_38 : decode cX12_nextOrder 38 = .ok (.iconst 1, 1) := by decide +kernel
theorem dX12_nextOrder_39 : decode cX12_nextOrder 39 = .ok (.isub, 1) := by decide +kernel
theorem dX12_nextOrder_40 : decode cX12_nextOrder 40 = .ok (.istore_n 3, 1) := by decide +kernel
theorem dX12_nextOrder_41 : decode cX12_nextOrder 41 = .ok (.aload_n 0, 1) := by decide +kernel
theorem dX12_nextOrder_42 : decode cX12_nextOrder 42 = .ok (.getfield 37, 3) := by decide +kernel
theorem dX12_nextOrder_45 : decode cX12_nextOrder 45 = .ok (.iload_n 3, 1) := by decide +kernel
theorem dX12_nextOrder_46 : decode cX12_nextOrder 46 = .ok (.iaload, 1) := by decide +kernel
theorem dX12_nextOrder_47 : decode cX12_nextOrder 47 = .ok (.aload_n 0, 1) := by decide +kernel
theorem dX12_nextOrder_48 : decode cX12_nextOrder 48 = .ok (.getfield 37, 3) := by decide +kernel
theorem dX12_nextOrder_51 : decode cX12_nextOrder 51 = .ok (.iload_n 2, 1) := by decide +kernel
theorem dX12_nextOrder_52 : decode cX12_nextOrder 52 = .ok (.iaload, 1) := by decide +kernel
theorem dX12_nextOrder_53 : decode cX12_nextOrder 53 = .ok (.if_icmp .ge 9, 3) := by decide +kernel
theorem dX12_nextOrder_56 : decode cX12_nextOrder 56 = .ok (.iinc 3 (-1), 3) := by decide +kernel
theorem dX12_nextOrder_59 : decode cX12_nextOrder 59 = .ok (.goto (-18), 3) := by decide +kernel
theorem dX12_nextOrder_62 : decode cX12_nextOrder 62 = .ok (.aload_n 0, 1) := by decide +kernel
theorem dX12_nextOrder_63 : decode cX12_nextOrder 63 = .ok (.iload_n 2, 1) := by decide +kernel
theorem dX12_nextOrder_64 : decode cX12_nextOrder 64 = .ok (.iload_n 3, 1) := by decide +kernel
theorem dX12_nextOrder_65 : decode cX12_nextOrder 65 = .ok (.invokevirtual 354, 3) := by decide +kernel
theorem dX12_nextOrder_68 : decode cX12_nextOrder 68 = .ok (.iload_n 2, 1) := by decide +kernel
theorem dX12_nextOrder_69 : decode cX12_nextOrder 69 = .ok (.iconst 1, 1) := by decide +kernel
theorem dX12_nextOrder_70 : decode cX12_nextOrder 70 = .ok (.iadd, 1) := by decide +kernel
theorem dX12_nextOrder_71 : decode cX12_nextOrder 71 = .ok (.istore 4, 2) := by decide +kernel
theorem dX12_nextOrder_73 : decode cX12_nextOrder 73 = .ok (.iload_n 1, 1) := by decide +kernel
theorem dX12_nextOrder_74 : decode cX12_nextOrder 74 = .ok (.iconst 1, 1) := by decide +kernel
theorem dX12_nextOrder_75 : decode cX12_nextOrder 75 = .ok (.isub, 1) := by decide +kernel
theorem dX12_nextOrder_76 : decode cX12_nextOrder 76 = .ok (.istore 5, 2) := by decide +kernel
theorem dX12_nextOrder_78 : decode cX12_nextOrder 78 = .ok (.iload 4, 2) := by decide +kernel
theorem dX12_nextOrder_80 : decode cX12_nextOrder 80 = .ok (.iload 5, 2) := by decide +kernel
theorem dX12_nextOrder_82 : decode cX12_nextOrder 82 = .ok (.if_icmp .ge 20, 3) := by decide +kernel
theorem dX12_nextOrder_85 : decode cX12_nextOrder 85 = .ok (.aload_n 0, 1) := by decide +kernel
theorem dX12_nextOrder_86 : decode cX12_nextOrder 86 = .ok (.iload 4, 2) := by decide +kernel
theorem dX12_nextOrder_88 : decode cX12_nextOrder 88 = .ok (.iload 5, 2) := by decide +kernel
theorem dX12_nextOrder_90 : decode cX12_nextOrder 90 = .ok (.invokevirtual 354, 3) := by decide +kernel
theorem dX12_nextOrder_93 : decode cX12_nextOrder 93 = .ok (.iinc 4 1, 3) := by decide +kernel
theorem dX12_nextOrder_96 : decode cX12_nextOrder 96 = .ok (.iinc 5 (-1), 3) := by decide +kernel
theorem dX12_nextOrder_99 : decode cX12_nextOrder 99 = .ok (.goto (-21), 3) := by decide +kernel
theorem dX12_nextOrder_102 : decode cX12_nextOrder 102 = .ok (.iconst 1, 1) := by decide +kernel
theorem dX12_nextOrder_103 : decode cX12_nextOrder 103 = .ok (.ireturn, 1) := by decide +kernel
theorem dX12_swap_0 : decode cX12_swap 0 = .ok (.aload_n 0, 1) := by decide +kernel
theorem dX12_swap_1 : decode cX12_swap 1 = .ok (.getfield 37, 3) := by decide +kernel
theorem dX12_swap_4 : decode cX12_swap 4 = .ok (.iload_n 1, 1) := by decide +kernel
theorem dX12_swap_5 : decode cX12_swap 5 = .ok (.iaload, 1) := by decide +kernel
theorem dX12_swap_6 : decode cX12_swap 6 = .ok (.istore_n 3, 1) := by decide +kernel
theorem dX12_swap_7 : decode cX12_swap 7 = .ok (.aload_n 0, 1) := by decide +kernel
theorem dX12_swap_8 : decode cX12_swap 8 = .ok (.getfield 37, 3) := by decide +kernel
theorem dX12_swap_11 : decode cX12_swap 11 = .ok (.iload_n 1, 1) := by decide +kernel
theorem dX12_swap_12 : decode cX12_swap 12 = .ok (.aload_n 0, 1) := by decide +kernel
theorem dX12_swap_13 : decode cX12_swap 13 = .ok (.getfield 37, 3) := by decide +kernel
theorem dX12_swap_16 : decode cX12_swap 16 = .ok (.iload_n 2, 1) := by decide +kernel
theorem dX12_swap_17 : decode cX12_swap 17 = .ok (.iaload, 1) := by decide +kernel
theorem dX12_swap_18 : decode cX12_swap 18 = .ok (.iastore, 1) := by decide +kernel
theorem dX12_swap_19 : decode cX12_swap 19 = .ok (.aload_n 0, 1) := by decide +kernel
theorem dX12_swap_20 : decode cX12_swap 20 = .ok (.getfield 37, 3) := by decide +kernel
theorem dX12_swap_23 : decode cX12_swap 23 = .ok (.iload_n 2, 1) := by decide +kernel
theorem dX12_swap_24 : decode cX12_swap 24 = .ok (.iload_n 3, 1) := by decide +kernel
theorem dX12_swap_25 : decode cX12_swap 25 = .ok (.iastore, 1) := by decide +kernel
theorem dX12_swap_26 : decode cX12_swap 26 = .ok (.return_, 1) := by decide +kernel
/-- the first n places hold each of 0 .. n - 1 once -/
def odok (n : Int32) (f : Nat → Int32) : Prop := (∀ i : Nat, (i : Int) < n.toInt → 0 ≤ (f i).toInt ∧ (f i).toInt < n.toInt) ∧ ∀ i j : Nat, (i : Int) < n.toInt → (j : Int) < n.toInt → (f i).toInt = (f j).toInt → i = j
def swp (f : Nat → Int32) (a b : Int32) : Nat → Int32 := upd (upd f a.toNatClampNeg (f b.toNatClampNeg)) b.toNatClampNeg (f a.toNatClampNeg)
def dg (x : Int32) : Nat := x.toInt.toNat % 6
/-- an order as a number -/
def onum (f : Nat → Int32) : Nat := ((((dg (f 0) * 6 + dg (f 1)) * 6 + dg (f 2)) * 6 + dg (f 3)) * 6 + dg (f 4)) * 6 + dg (f 5)
theorem dg_b (x : Int32) : dg x < 6 := Nat.mod_lt _ (by decide)
theorem onum_b (f : Nat → Int32) : onum f < 46656 := by
  have h0 := dg_b (f 0); have h1 := dg_b (f 1); have h2 := dg_b (f 2); have h3 := dg_b (f 3); have h4 := dg_b (f 4); have h5 := dg_b (f 5)
  unfold onum; omega
def gr (f g : Nat → Int32) (i : Nat) : Prop := (∀ k, k < i → g k = f k) ∧ dg (f i) < dg (g i)
theorem onum_lt {f g : Nat → Int32} {i : Nat} (hi : i < 6) (h : gr f g i) : onum f < onum g := by
  obtain ⟨hp, hd⟩ := h
  have a0 := dg_b (f 0); have a1 := dg_b (f 1); have a2 := dg_b (f 2); have a3 := dg_b (f 3); have a4 := dg_b (f 4); have a5 := dg_b (f 5)
  have b0 := dg_b (g 0); have b1 := dg_b (g 1); have b2 := dg_b (g 2); have b3 := dg_b (g 3); have b4 := dg_b (g 4); have b5 := dg_b (g 5)
  unfold onum
  match i, hi with
  | 0, _ => omega
  | 1, _ => rw [hp 0 (by omega)]; omega
  | 2, _ => rw [hp 0 (by omega), hp 1 (by omega)]; omega
  | 3, _ => rw [hp 0 (by omega), hp 1 (by omega), hp 2 (by omega)]; omega
  | 4, _ => rw [hp 0 (by omega), hp 1 (by omega), hp 2 (by omega), hp 3 (by omega)]; omega
  | 5, _ => rw [hp 0 (by omega), hp 1 (by omega), hp 2 (by omega), hp 3 (by omega), hp 4 (by omega)]; omega
theorem cln {x : Int32} (h : 0 ≤ x.toInt) : ((x.toNatClampNeg : Nat) : Int) = x.toInt := by
  unfold Int32.toNatClampNeg
  exact Int.toNat_of_nonneg h
theorem od_r {n x : Int32} {f : Nat → Int32} (h : odok n f) (h1 : 0 ≤ x.toInt) (h2 : x.toInt < n.toInt) : 0 ≤ (f x.toNatClampNeg).toInt ∧ (f x.toNatClampNeg).toInt < n.toInt := h.1 _ (by rw [cln h1]; exact h2)
theorem sw_1 {f : Nat → Int32} {a b : Int32} {k : Nat} (h1 : k ≠ a.toNatClampNeg) (h2 : k ≠ b.toNatClampNeg) : swp f a b k = f k := by
  unfold swp; rw [uo h2, uo h1]
theorem sw_a {f : Nat → Int32} {a b : Int32} : swp f a b b.toNatClampNeg = f a.toNatClampNeg := by
  unfold swp; rw [pk_us]
theorem sw_b {f : Nat → Int32} {a b : Int32} : swp f a b a.toNatClampNeg = f b.toNatClampNeg := by
  unfold swp
  by_cases q : a.toNatClampNeg = b.toNatClampNeg
  · rw [q, pk_us]
  · rw [uo q, pk_us]
theorem od_sw {n a b : Int32} {f : Nat → Int32} (h : odok n f) (a1 : 0 ≤ a.toInt) (a2 : a.toInt < n.toInt) (b1 : 0 ≤ b.toInt) (b2 : b.toInt < n.toInt) : odok n (swp f a b) := by
  have ca := cln a1
  have cb := cln b1
  have key : ∀ i : Nat, (i : Int) < n.toInt → ∃ k : Nat, (k : Int) < n.toInt ∧ swp f a b i = f k ∧ ((i = a.toNatClampNeg ∧ k = b.toNatClampNeg) ∨ (i ≠ a.toNatClampNeg ∧ i = b.toNatClampNeg ∧ k = a.toNatClampNeg) ∨ (i ≠ a.toNatClampNeg ∧ i ≠ b.toNatClampNeg ∧ k = i)) := by
    intro i hi
    by_cases q1 : i = a.toNatClampNeg
    · exact ⟨b.toNatClampNeg, by omega, by rw [q1]; exact sw_b, Or.inl ⟨q1, rfl⟩⟩
    · by_cases q2 : i = b.toNatClampNeg
      · exact ⟨a.toNatClampNeg, by omega, by rw [q2]; exact sw_a, Or.inr (Or.inl ⟨q1, q2, rfl⟩)⟩
      · exact ⟨i, hi, sw_1 q1 q2, Or.inr (Or.inr ⟨q1, q2, rfl⟩)⟩
  refine ⟨fun i hi => ?_, fun i j hi hj he => ?_⟩
  · obtain ⟨k, hk, e, -⟩ := key i hi
    rw [e]; exact h.1 k hk
  · obtain ⟨k, hk, e, c⟩ := key i hi
    obtain ⟨k', hk', e', c'⟩ := key j hj
    rw [e, e'] at he
    have := h.2 k k' hk hk' he
    omega
theorem grw_0 {n i j : Int32} {f : Nat → Int32} (h : odok n f) (hn : n.toInt ≤ 6) (i1 : 0 ≤ i.toInt) (ij : i.toInt < j.toInt) (jn : j.toInt < n.toInt) (hle : (f i.toNatClampNeg).toInt ≤ (f j.toNatClampNeg).toInt) : gr f (swp f i j) i.toNatClampNeg := by
  have ci := cln i1
  have cj := cln (x := j) (by omega)
  refine ⟨fun k hk => sw_1 (by omega) (by omega), ?_⟩
  rw [sw_b]
  have r1 := h.1 i.toNatClampNeg (by omega)
  have r2 := h.1 j.toNatClampNeg (by omega)
  have ne : (f i.toNatClampNeg).toInt ≠ (f j.toNatClampNeg).toInt := fun q => by
    have := h.2 _ _ (by omega) (by omega) q
    omega
  unfold dg
  omega
theorem grw_s {i : Nat} {a b : Int32} {f g : Nat → Int32} (h : gr f g i) (a1 : (i : Int) < a.toInt) (b1 : (i : Int) < b.toInt) : gr f (swp g a b) i := by
  have ca := cln (x := a) (by omega)
  have cb := cln (x := b) (by omega)
  refine ⟨fun k hk => ?_, ?_⟩
  · rw [sw_1 (by omega) (by omega)]; exact h.1 k hk
  · rw [sw_1 (by omega) (by omega)]; exact h.2
def idf (f : Nat → Int32) (n : Nat) : Prop := ∀ j, j < n → f j = nI j
theorem idf_s {f : Nat → Int32} {n m k : Nat} {v : Int32} (h : idf f n) (hm : m = n + 1) (hk : k = n) (hv : v = nI n) : idf (upd f k v) m := fun j hj => by
  subst hk
  by_cases q : j = k
  · subst q; rw [pk_us, hv]
  · rw [uo q]; exact h j (by omega)
theorem od_id {f : Nat → Int32} {n : Int32} (h : idf f 6) (hn : n.toInt ≤ 6) : odok n f := by
  refine ⟨fun i hi => ?_, fun i j hi hj e => ?_⟩
  · rw [h i (by omega), nI_toInt (by omega)]; omega
  · rw [h i (by omega), h j (by omega), nI_toInt (by omega), nI_toInt (by omega)] at e; omega
