theorem b_581 : Cond.fieldLinkNest RX11 408 "GentleLetters$Row" "size" "I" RX11 ∈ nests := ne (tin_2 _ (List.mem_of_getElem? (i := 146) rfl)) rfl
theorem b_582 : Cond.fieldLinkNest RX11 409 "GentleLetters$Row" "numbers" "[J" RX11 ∈ nests := ne (tin_2 _ (List.mem_of_getElem? (i := 139) rfl)) rfl
theorem b_583 : Cond.methodLinkNest RX11 413 yX8_cut RX11 ∈ nests := ne (tin_6 _ (List.mem_of_getElem? (i := 83) rfl)) rfl
theorem b_584 : Cond.fieldLinkNest RX11 417 "GentleLetters$Row" "width" "I" RX11 ∈ nests := ne (tin_2 _ (List.mem_of_getElem? (i := 143) rfl)) rfl
theorem b_585 : Cond.methodLinkNest RX11 420 yX8_holds RX11 ∈ nests := ne (tin_6 _ (List.mem_of_getElem? (i := 91) rfl)) rfl
theorem b_586 : Cond.methodLink RX11 424 arraycopyName ∈ BIG := bi (tin_6 _ (List.mem_of_getElem? (i := 95) rfl)) rfl
theorem b_587 : Cond.code yX8_cut cX8_cut 3 (some .long) ∈ BIG := bi (tin_6 _ (List.mem_of_getElem? (i := 86) rfl)) rfl
theorem b_588 : Cond.instanceMethod yX8_cut ∈ BIG := bi (tin_6 _ (List.mem_of_getElem? (i := 85) rfl)) rfl
theorem b_589 : Cond.selects RX8 yX8_cut yX8_cut ∈ BIG := bi (sin_7 _ (List.mem_map.mpr ⟨(yX8_cut, 4), List.mem_of_getElem? (i := 3) rfl, rfl⟩)) rfl
theorem b_590 : Cond.code yX8_holds cX8_holds 3 (some .boolean) ∈ BIG := bi (tin_6 _ (List.mem_of_getElem? (i := 94) rfl)) rfl
theorem b_591 : Cond.instanceMethod yX8_holds ∈ BIG := bi (tin_6 _ (List.mem_of_getElem? (i := 93) rfl)) rfl
theorem b_592 : Cond.selects RX8 yX8_holds yX8_holds ∈ BIG := bi (sin_7 _ (List.mem_map.mpr ⟨(yX8_holds, 4), List.mem_of_getElem? (i := 4) rfl, rfl⟩)) rfl
theorem m_yX8_cut : MV yX8_cut cX8_cut 3 (some .long) 1 := ⟨b_587, b_588, b_589, b_563, by decide +kernel⟩
theorem m_yX8_holds : MV yX8_holds cX8_holds 3 (some .boolean) 2 := ⟨b_590, b_591, b_592, b_563, by decide +kernel⟩
theorem dX11_paste_0 : decode cX11_paste 0 = .ok (.iload_n 1, 1) := by decide +kernel
theorem dX11_paste_1 : decode cX11_paste 1 = .ok (.invokestatic 398, 3) := by decide +kernel
theorem dX11_paste_4 : decode cX11_paste 4 = .ok (.ifCond .eq 10, 3) := by decide +kernel
theorem dX11_paste_7 : decode cX11_paste 7 = .ok (.iload_n 3, 1) := by decide +kernel
theorem dX11_paste_8 : decode cX11_paste 8 = .ok (.invokestatic 398, 3) := by decide +kernel
theorem dX11_paste_11 : decode cX11_paste 11 = .ok (.ifCond .ne 6, 3) := by decide +kernel
theorem dX11_paste_14 : decode cX11_paste 14 = .ok (.bipush (-2), 2) := by decide +kernel
theorem dX11_paste_16 : decode cX11_paste 16 = .ok (.ireturn, 1) := by decide +kernel
theorem dX11_paste_17 : decode cX11_paste 17 = .ok (.aload_n 0, 1) := by decide +kernel
theorem dX11_paste_18 : decode cX11_paste 18 = .ok (.iload_n 1, 1) := by decide +kernel
theorem dX11_paste_19 : decode cX11_paste 19 = .ok (.invokevirtual 404, 3) := by decide +kernel
theorem dX11_paste_22 : decode cX11_paste 22 = .ok (.astore 6, 2) := by decide +kernel
theorem dX11_paste_24 : decode cX11_paste 24 = .ok (.aload_n 0, 1) := by decide +kernel
theorem dX11_paste_25 : decode cX11_paste 25 = .ok (.iload_n 3, 1) := by decide +kernel
theorem dX11_paste_26 : decode cX11_paste 26 = .ok (.invokevirtual 404, 3) := by decide +kernel
theorem dX11_paste_29 : decode cX11_paste 29 = .ok (.astore 7, 2) := by decide +kernel
theorem dX11_paste_31 : decode cX11_paste 31 = .ok (.aload 6, 2) := by decide +kernel
theorem dX11_paste_33 : decode cX11_paste 33 = .ok (.ifnull 8, 3) := by decide +kernel
theorem dX11_paste_36 : decode cX11_paste 36 = .ok (.aload 7, 2) := by decide +kernel
theorem dX11_paste_38 : decode cX11_paste 38 = .ok (.ifnonnull 6, 3) := by decide +kernel
theorem dX11_paste_41 : decode cX11_paste 41 = .ok (.bipush (-6), 2) := by decide +kernel
theorem dX11_paste_43 : decode cX11_paste 43 = .ok (.ireturn, 1) := by decide +kernel
theorem dX11_paste_44 : decode cX11_paste 44 = .ok (.aload 6, 2) := by decide +kernel
theorem dX11_paste_46 : decode cX11_paste 46 = .ok (.getfield 417, 3) := by decide +kernel
theorem dX11_paste_49 : decode cX11_paste 49 = .ok (.aload 7, 2) := by decide +kernel
theorem dX11_paste_51 : decode cX11_paste 51 = .ok (.getfield 417, 3) := by decide +kernel
theorem dX11_paste_54 : decode cX11_paste 54 = .ok (.if_icmp .eq 6, 3) := by decide +kernel
theorem dX11_paste_57 : decode cX11_paste 57 = .ok (.bipush (-8), 2) := by decide +kernel
theorem dX11_paste_59 : decode cX11_paste 59 = .ok (.ireturn, 1) := by decide +kernel
theorem dX11_paste_60 : decode cX11_paste 60 = .ok (.aload 6, 2) := by decide +kernel
theorem dX11_paste_62 : decode cX11_paste 62 = .ok (.iload_n 2, 1) := by decide +kernel
theorem dX11_paste_63 : decode cX11_paste 63 = .ok (.iload 5, 2) := by decide +kernel
theorem dX11_paste_65 : decode cX11_paste 65 = .ok (.invokevirtual 420, 3) := by decide +kernel
theorem dX11_paste_68 : decode cX11_paste 68 = .ok (.ifCond .eq 15, 3) := by decide +kernel
theorem dX11_paste_71 : decode cX11_paste 71 = .ok (.aload 7, 2) := by decide +kernel
theorem dX11_paste_73 : decode cX11_paste 73 = .ok (.iload 4, 2) := by decide +kernel
theorem dX11_paste_75 : decode cX11_paste 75 = .ok (.iload 5, 2) := by decide +kernel
theorem dX11_paste_77 : decode cX11_paste 77 = .ok (.invokevirtual 420, 3) := by decide +kernel
theorem dX11_paste_80 : decode cX11_paste 80 = .ok (.ifCond .ne 6, 3) := by decide +kernel
theorem dX11_paste_83 : decode cX11_paste 83 = .ok (.bipush (-7), 2) := by decide +kernel
theorem dX11_paste_85 : decode cX11_paste 85 = .ok (.ireturn, 1) := by decide +kernel
theorem dX11_paste_86 : decode cX11_paste 86 = .ok (.aload 6, 2) := by decide +kernel
theorem dX11_paste_88 : decode cX11_paste 88 = .ok (.getfield 409, 3) := by decide +kernel
theorem dX11_paste_91 : decode cX11_paste 91 = .ok (.iload_n 2, 1) := by decide +kernel
theorem dX11_paste_92 : decode cX11_paste 92 = .ok (.aload 7, 2) := by decide +kernel
theorem dX11_paste_94 : decode cX11_paste 94 = .ok (.getfield 409, 3) := by decide +kernel
theorem dX11_paste_97 : decode cX11_paste 97 = .ok (.iload 4, 2) := by decide +kernel
theorem dX11_paste_99 : decode cX11_paste 99 = .ok (.iload 5, 2) := by decide +kernel
theorem dX11_paste_101 : decode cX11_paste 101 = .ok (.invokestatic 424, 3) := by decide +kernel
theorem dX11_paste_104 : decode cX11_paste 104 = .ok (.iconst 0, 1) := by decide +kernel
theorem dX11_paste_105 : decode cX11_paste 105 = .ok (.ireturn, 1) := by decide +kernel
theorem dX11_write_0 : decode cX11_write 0 = .ok (.iload_n 1, 1) := by decide +kernel
theorem dX11_write_1 : decode cX11_write 1 = .ok (.invokestatic 398, 3) := by decide +kernel
theorem dX11_write_4 : decode cX11_write 4 = .ok (.ifCond .ne 6, 3) := by decide +kernel
theorem dX11_write_7 : decode cX11_write 7 = .ok (.bipush (-2), 2) := by decide +kernel
theorem dX11_write_9 : decode cX11_write 9 = .ok (.ireturn, 1) := by decide +kernel
theorem dX11_write_10 : decode cX11_write 10 = .ok (.aload_n 0, 1) := by decide +kernel
theorem dX11_write_11 : decode cX11_write 11 = .ok (.iload_n 1, 1) := by decide +kernel
theorem dX11_write_12 : decode cX11_write 12 = .ok (.invokevirtual 404, 3) := by decide +kernel
theorem dX11_write_15 : decode cX11_write 15 = .ok (.astore 5, 2) := by decide +kernel
theorem dX11_write_17 : decode cX11_write 17 = .ok (.aload 5, 2) := by decide +kernel
theorem dX11_write_19 : decode cX11_write 19 = .ok (.ifnonnull 6, 3) := by decide +kernel
theorem dX11_write_22 : decode cX11_write 22 = .ok (.bipush (-6), 2) := by decide +kernel
theorem dX11_write_24 : decode cX11_write 24 = .ok (.ireturn, 1) := by decide +kernel
theorem dX11_write_25 : decode cX11_write 25 = .ok (.iload_n 2, 1) := by decide +kernel
theorem dX11_write_26 : decode cX11_write 26 = .ok (.ifCond .lt 12, 3) := by decide +kernel
theorem dX11_write_29 : decode cX11_write 29 = .ok (.iload_n 2, 1) := by decide +kernel
theorem dX11_write_30 : decode cX11_write 30 = .ok (.aload 5, 2) := by decide +kernel
theorem dX11_write_32 : decode cX11_write 32 = .ok (.getfield 408, 3) := by decide +kernel
theorem dX11_write_35 : decode cX11_write 35 = .ok (.if_icmp .lt 6, 3) := by decide +kernel
theorem dX11_write_38 : decode cX11_write 38 = .ok (.bipush (-7), 2) := by decide +kernel
theorem dX11_write_40 : decode cX11_write 40 = .ok (.ireturn, 1) := by decide +kernel
theorem dX11_write_41 : decode cX11_write 41 = .ok (.aload 5, 2) := by decide +kernel
theorem dX11_write_43 : decode cX11_write 43 = .ok (.getfield 409, 3) := by decide +kernel
theorem dX11_write_46 : decode cX11_write 46 = .ok (.iload_n 2, 1) := by decide +kernel
theorem dX11_write_47 : decode cX11_write 47 = .ok (.aload 5, 2) := by decide +kernel
theorem dX11_write_49 : decode cX11_write 49 = .ok (.lload_n 3, 1) := by decide +kernel
theorem dX11_write_50 : decode cX11_write 50 = .ok (.invokevirtual 413, 3) := by decide +kernel
theorem dX11_write_53 : decode cX11_write 53 = .ok (.lastore, 1) := by decide +kernel
theorem dX11_write_54 : decode cX11_write 54 = .ok (.iconst 0, 1) := by decide +kernel
theorem dX11_write_55 : decode cX11_write 55 = .ok (.ireturn, 1) := by decide +kernel
theorem dX8_cut_0 : decode cX8_cut 0 = .ok (.aload_n 0, 1) := by decide +kernel
theorem dX8_cut_1 : decode cX8_cut 1 = .ok (.getfield 19, 3) := by decide +kernel
theorem dX8_cut_4 : decode cX8_cut 4 = .ok (.tableswitch 42 0 2 #[28, 33, 38], 28) := by decide +kernel
theorem dX8_cut_32 : decode cX8_cut 32 = .ok (.lload_n 1, 1) := by decide +kernel
theorem dX8_cut_33 : decode cX8_cut 33 = .ok (.l2i, 1) := by decide +kernel
theorem dX8_cut_34 : decode cX8_cut 34 = .ok (.i2b, 1) := by decide +kernel
theorem dX8_cut_35 : decode cX8_cut 35 = .ok (.i2l, 1) := by decide +kernel
theorem dX8_cut_36 : decode cX8_cut 36 = .ok (.lreturn, 1) := by decide +kernel
theorem dX8_cut_37 : decode cX8_cut 37 = .ok (.lload_n 1, 1) := by decide +kernel
theorem dX8_cut_38 : decode cX8_cut 38 = .ok (.l2i, 1) := by decide +kernel
theorem dX8_cut_39 : decode cX8_cut 39 = .ok (.i2s, 1) := by decide +kernel
theorem dX8_cut_40 : decode cX8_cut 40 = .ok (.i2l, 1) := by decide +kernel
theorem dX8_cut_41 : decode cX8_cut 41 = .ok (.lreturn, 1) := by decide +kernel
theorem dX8_cut_42 : decode cX8_cut 42 = .ok (.lload_n 1, 1) := by decide +kernel
theorem dX8_cut_43 : decode cX8_cut 43 = .ok (.l2i, 1) := by decide +kernel
theorem dX8_cut_44 : decode cX8_cut 44 = .ok (.i2l, 1) := by decide +kernel
theorem dX8_cut_45 : decode cX8_cut 45 = .ok (.lreturn, 1) := by decide +kernel
theorem dX8_cut_46 : decode cX8_cut 46 = .ok (.lload_n 1, 1) := by decide +kernel
theorem dX8_cut_47 : decode cX8_cut 47 = .ok (.lreturn, 1) := by decide +kernel
theorem dX8_holds_0 : decode cX8_holds 0 = .ok (.iload_n 1, 1) := by decide +kernel
theorem dX8_holds_1 : decode cX8_holds 1 = .ok (.ifCond .lt 29, 3) := by decide +kernel
theorem dX8_holds_4 : decode cX8_holds 4 = .ok (.iload_n 2, 1) := by decide +kernel
theorem dX8_holds_5 : decode cX8_holds 5 = .ok (.ifCond .lt 25, 3) := by decide +kernel
theorem dX8_holds_8 : decode cX8_holds 8 = .ok (.iload_n 1, 1) := by decide +kernel
theorem dX8_holds_9 : decode cX8_holds 9 = .ok (.aload_n 0, 1) := by decide +kernel
theorem dX8_holds_10 : decode cX8_holds 10 = .ok (.getfield 23, 3) := by decide +kernel
theorem dX8_holds_13 : decode cX8_holds 13 = .ok (.if_icmp .gt 17, 3) := by decide +kernel
theorem dX8_holds_16 : decode cX8_holds 16 = .ok (.iload_n 2, 1) := by decide +kernel
theorem dX8_holds_17 : decode cX8_holds 17 = .ok (.aload_n 0, 1) := by decide +kernel
theorem dX8_holds_18 : decode cX8_holds 18 = .ok (.getfield 23, 3) := by decide +kernel
theorem dX8_holds_21 : decode cX8_holds 21 = .ok (.iload_n 1, 1) := by decide +kernel
theorem dX8_holds_22 : decode cX8_holds 22 = .ok (.isub, 1) := by decide +kernel
theorem dX8_holds_23 : decode cX8_holds 23 = .ok (.if_icmp .gt 7, 3) := by decide +kernel
theorem dX8_holds_26 : decode cX8_holds 26 = .ok (.iconst 1, 1) := by decide +kernel
theorem dX8_holds_27 : decode cX8_holds 27 = .ok (.goto 4, 3) := by decide +kernel
theorem dX8_holds_30 : decode cX8_holds 30 = .ok (.iconst 0, 1) := by decide +kernel
theorem dX8_holds_31 : decode cX8_holds 31 = .ok (.ireturn, 1) := by decide +kernel
section LATE
variable {p : Program} {l : Launch} {e : Env} {R : Room} {s : State} {m : MethodId} {args : Array Value} {below : List Frame} {meth : Method} {c : Code} {H : Heap} {locs : List Loc} {cells slots : Nat}
variable {g : GG} {y : MethodName} {S : Type} {val : S → Option Value} {post : S → Prop} {w1 : S → va_W} {A : Nat → Prop} {pc mc ms nL : Nat} {ls : Array Slot} {cc : ByteArray}
theorem rt_l (F : Fx p m meth c cc nL s args y (some .long) g A) {v : Int64} (u : S) (hv : some (Value.long v) = val u) (hp : post u) (hP : va_P g.1 vwCl (w1 u) H) (hD : va_D A (w1 u)) (hS : va_S A s.heap H locs) (h1 : cells ≤ mc) (h2 : slots ≤ ms) (hdg : decode cc pc = .ok (.lreturn, 1)) : W p l e R s m args below meth c H locs cells slots (MQ below (QX val post g w1 A) args s mc ms A) (F0 m pc ls [.long v]) := by
  obtain ⟨⟨hx, hb, hml, hown, hB⟩, hr, hlk, hKn, hA, hnm⟩ := F
  refine W.widen (k := mc) (n := ms) h1 h2 ?_
  exact W.lret (v := v) hx hb hr (fun t ht hW => ⟨⟨u, by rw [hv], hp, by rw [ht]; exact hP, hD⟩, hS.F ht⟩) hS.2.2 hdg hlk
end LATE
theorem nlt0 {x : Int32} (h : 0 ≤ x.toInt) : ¬ x < 0 := fun q => by
  have := k_lt (a := x.toInt) (b := 0) rfl (by decide) q
  omega
theorem cl2 {x y : Int32} {n : Nat} (h1 : 0 ≤ x.toInt) (h2 : 0 ≤ y.toInt) (h3 : x.toInt + y.toInt ≤ n) : x.toNatClampNeg + y.toNatClampNeg ≤ n := by
  have e1 : (x.toNatClampNeg : Int) = x.toInt := by
    unfold Int32.toNatClampNeg
    exact Int.toNat_of_nonneg h1
  have e2 : (y.toNatClampNeg : Int) = y.toInt := by
    unfold Int32.toNatClampNeg
    exact Int.toNat_of_nonneg h2
  omega

def sel4 (a b c d p : Int32) : Int32 := if p.toInt = 0 then a else if p.toInt = 1 then b else if p.toInt = 2 then c else d
theorem sel_0 {a b c d : Int32} : sel4 a b c d 0 = a := if_pos (by decide)
theorem sel_1 {a b c d : Int32} : sel4 a b c d 1 = b := by unfold sel4; rw [if_neg (by decide), if_pos (by decide)]
theorem sel_2 {a b c d : Int32} : sel4 a b c d 2 = c := by unfold sel4; rw [if_neg (by decide), if_neg (by decide), if_pos (by decide)]
theorem sel_3 {a b c d : Int32} : sel4 a b c d 3 = d := by unfold sel4; rw [if_neg (by decide), if_neg (by decide), if_neg (by decide)]
