section
-- ===== PART A: goes FIRST, ahead of the names: the tables' words, and 'selects' of the private methods out of them =====
/-- a private method of a class that the tables say can be made, by its rows of tables_1 -/
def lw_okq (q : MethodName × Nat) : Prop := (q.1.cls ≠ "java/lang/invoke/MethodHandle" ∧ q.1.cls ≠ "java/lang/invoke/VarHandle") ∧ Cond.instantiable q.1.cls q.2 ∈ tables_1 ∧ Cond.privateMethod q.1 ∈ tables_1 ∧ Cond.instanceMethod q.1 ∈ tables_1
theorem lw_p0 : lw_okq (⟨"GentleLetters$Tape", "put", "(I)V"⟩, 6) := ⟨⟨by decide +kernel, by decide +kernel⟩, List.mem_of_getElem? (i := 37) (by decide +kernel), List.mem_of_getElem? (i := 436) (by decide +kernel), List.mem_of_getElem? (i := 437) (by decide +kernel)⟩
theorem lw_p1 : lw_okq (⟨"GentleLetters$DeskReader", "readDesk", "()Z"⟩, 5) := ⟨⟨by decide +kernel, by decide +kernel⟩, List.mem_of_getElem? (i := 31) (by decide +kernel), List.mem_of_getElem? (i := 448) (by decide +kernel), List.mem_of_getElem? (i := 449) (by decide +kernel)⟩
theorem lw_p2 : lw_okq (⟨"GentleLetters$Desk", "clear", "()V"⟩, 20) := ⟨⟨by decide +kernel, by decide +kernel⟩, List.mem_of_getElem? (i := 67) (by decide +kernel), List.mem_of_getElem? (i := 452) (by decide +kernel), List.mem_of_getElem? (i := 453) (by decide +kernel)⟩
theorem lw_p3 : lw_okq (⟨"GentleLetters$Tape", "rewind", "()V"⟩, 6) := ⟨⟨by decide +kernel, by decide +kernel⟩, List.mem_of_getElem? (i := 37) (by decide +kernel), List.mem_of_getElem? (i := 459) (by decide +kernel), List.mem_of_getElem? (i := 460) (by decide +kernel)⟩
theorem lw_p4 : lw_okq (⟨"GentleLetters$Tape", "advance", "()V"⟩, 6) := ⟨⟨by decide +kernel, by decide +kernel⟩, List.mem_of_getElem? (i := 37) (by decide +kernel), List.mem_of_getElem? (i := 463) (by decide +kernel), List.mem_of_getElem? (i := 464) (by decide +kernel)⟩
theorem lw_p5 : lw_okq (⟨"GentleLetters$DeskReader", "readLine", "()Z"⟩, 5) := ⟨⟨by decide +kernel, by decide +kernel⟩, List.mem_of_getElem? (i := 31) (by decide +kernel), List.mem_of_getElem? (i := 474) (by decide +kernel), List.mem_of_getElem? (i := 475) (by decide +kernel)⟩
theorem lw_p6 : lw_okq (⟨"GentleLetters$DeskReader", "readHead", "()Z"⟩, 5) := ⟨⟨by decide +kernel, by decide +kernel⟩, List.mem_of_getElem? (i := 31) (by decide +kernel), List.mem_of_getElem? (i := 478) (by decide +kernel), List.mem_of_getElem? (i := 479) (by decide +kernel)⟩
theorem lw_p7 : lw_okq (⟨"GentleLetters$DeskReader", "takeWord", "(Ljava/lang/String;)Z"⟩, 5) := ⟨⟨by decide +kernel, by decide +kernel⟩, List.mem_of_getElem? (i := 31) (by decide +kernel), List.mem_of_getElem? (i := 483) (by decide +kernel), List.mem_of_getElem? (i := 484) (by decide +kernel)⟩
theorem lw_p8 : lw_okq (⟨"GentleLetters$Tape", "standsOn", "(Ljava/lang/String;)Z"⟩, 6) := ⟨⟨by decide +kernel, by decide +kernel⟩, List.mem_of_getElem? (i := 37) (by decide +kernel), List.mem_of_getElem? (i := 487) (by decide +kernel), List.mem_of_getElem? (i := 488) (by decide +kernel)⟩
theorem lw_p9 : lw_okq (⟨"GentleLetters$DeskReader", "blame", "(I)Z"⟩, 5) := ⟨⟨by decide +kernel, by decide +kernel⟩, List.mem_of_getElem? (i := 31) (by decide +kernel), List.mem_of_getElem? (i := 539) (by decide +kernel), List.mem_of_getElem? (i := 540) (by decide +kernel)⟩
theorem lw_p10 : lw_okq (⟨"GentleLetters$DeskReader", "takeNamed", "(Ljava/lang/String;II)Z"⟩, 5) := ⟨⟨by decide +kernel, by decide +kernel⟩, List.mem_of_getElem? (i := 31) (by decide +kernel), List.mem_of_getElem? (i := 545) (by decide +kernel), List.mem_of_getElem? (i := 546) (by decide +kernel)⟩
theorem lw_p11 : lw_okq (⟨"GentleLetters$DeskReader", "takeNumber", "(II)Z"⟩, 5) := ⟨⟨by decide +kernel, by decide +kernel⟩, List.mem_of_getElem? (i := 31) (by decide +kernel), List.mem_of_getElem? (i := 549) (by decide +kernel), List.mem_of_getElem? (i := 550) (by decide +kernel)⟩
theorem lw_p12 : lw_okq (⟨"GentleLetters$DeskReader", "findNumber", "(II)Z"⟩, 5) := ⟨⟨by decide +kernel, by decide +kernel⟩, List.mem_of_getElem? (i := 31) (by decide +kernel), List.mem_of_getElem? (i := 553) (by decide +kernel), List.mem_of_getElem? (i := 554) (by decide +kernel)⟩
theorem lw_p13 : lw_okq (⟨"GentleLetters$DeskReader", "readGrades", "()Z"⟩, 5) := ⟨⟨by decide +kernel, by decide +kernel⟩, List.mem_of_getElem? (i := 31) (by decide +kernel), List.mem_of_getElem? (i := 562) (by decide +kernel), List.mem_of_getElem? (i := 563) (by decide +kernel)⟩
theorem lw_p14 : lw_okq (⟨"GentleLetters$DeskReader", "readHearer", "()Z"⟩, 5) := ⟨⟨by decide +kernel, by decide +kernel⟩, List.mem_of_getElem? (i := 31) (by decide +kernel), List.mem_of_getElem? (i := 567) (by decide +kernel), List.mem_of_getElem? (i := 568) (by decide +kernel)⟩
theorem lw_p15 : lw_okq (⟨"GentleLetters$DeskReader", "readWord", "()Z"⟩, 5) := ⟨⟨by decide +kernel, by decide +kernel⟩, List.mem_of_getElem? (i := 31) (by decide +kernel), List.mem_of_getElem? (i := 574) (by decide +kernel), List.mem_of_getElem? (i := 575) (by decide +kernel)⟩
def lw_privs_1 : List (MethodName × Nat) := [(⟨"GentleLetters$Tape", "put", "(I)V"⟩, 6), (⟨"GentleLetters$DeskReader", "readDesk", "()Z"⟩, 5), (⟨"GentleLetters$Desk", "clear", "()V"⟩, 20), (⟨"GentleLetters$Tape", "rewind", "()V"⟩, 6), (⟨"GentleLetters$Tape", "advance", "()V"⟩, 6), (⟨"GentleLetters$DeskReader", "readLine", "()Z"⟩, 5), (⟨"GentleLetters$DeskReader", "readHead", "()Z"⟩, 5), (⟨"GentleLetters$DeskReader", "takeWord", "(Ljava/lang/String;)Z"⟩, 5), (⟨"GentleLetters$Tape", "standsOn", "(Ljava/lang/String;)Z"⟩, 6), (⟨"GentleLetters$DeskReader", "blame", "(I)Z"⟩, 5), (⟨"GentleLetters$DeskReader", "takeNamed", "(Ljava/lang/String;II)Z"⟩, 5), (⟨"GentleLetters$DeskReader", "takeNumber", "(II)Z"⟩, 5), (⟨"GentleLetters$DeskReader", "findNumber", "(II)Z"⟩, 5), (⟨"GentleLetters$DeskReader", "readGrades", "()Z"⟩, 5), (⟨"GentleLetters$DeskReader", "readHearer", "()Z"⟩, 5), (⟨"GentleLetters$DeskReader", "readWord", "()Z"⟩, 5)]
theorem lw_r1 : ∀ q ∈ lw_privs_1, lw_okq q := List.forall_mem_cons.mpr ⟨lw_p0, List.forall_mem_cons.mpr ⟨lw_p1, List.forall_mem_cons.mpr ⟨lw_p2, List.forall_mem_cons.mpr ⟨lw_p3, List.forall_mem_cons.mpr ⟨lw_p4, List.forall_mem_cons.mpr ⟨lw_p5, List.forall_mem_cons.mpr ⟨lw_p6, List.forall_mem_cons.mpr ⟨lw_p7, List.forall_mem_cons.mpr ⟨lw_p8, List.forall_mem_cons.mpr ⟨lw_p9, List.forall_mem_cons.mpr ⟨lw_p10, List.forall_mem_cons.mpr ⟨lw_p11, List.forall_mem_cons.mpr ⟨lw_p12, List.forall_mem_cons.mpr ⟨lw_p13, List.forall_mem_cons.mpr ⟨lw_p14, List.forall_mem_cons.mpr ⟨lw_p15, fun _ h => absurd h List.not_mem_nil⟩⟩⟩⟩⟩⟩⟩⟩⟩⟩⟩⟩⟩⟩⟩⟩
theorem lw_p16 : lw_okq (⟨"GentleLetters$DeskReader", "readPlan", "()Z"⟩, 5) := ⟨⟨by decide +kernel, by decide +kernel⟩, List.mem_of_getElem? (i := 31) (by decide +kernel), List.mem_of_getElem? (i := 581) (by decide +kernel), List.mem_of_getElem? (i := 582) (by decide +kernel)⟩
theorem lw_p17 : lw_okq (⟨"GentleLetters$DeskReader", "readNews", "()Z"⟩, 5) := ⟨⟨by decide +kernel, by decide +kernel⟩, List.mem_of_getElem? (i := 31) (by decide +kernel), List.mem_of_getElem? (i := 586) (by decide +kernel), List.mem_of_getElem? (i := 587) (by decide +kernel)⟩
theorem lw_p18 : lw_okq (⟨"GentleLetters$DeskReader", "readTells", "()Z"⟩, 5) := ⟨⟨by decide +kernel, by decide +kernel⟩, List.mem_of_getElem? (i := 31) (by decide +kernel), List.mem_of_getElem? (i := 593) (by decide +kernel), List.mem_of_getElem? (i := 594) (by decide +kernel)⟩
theorem lw_p19 : lw_okq (⟨"GentleLetters$DeskReader", "takeSemicolon", "()Z"⟩, 5) := ⟨⟨by decide +kernel, by decide +kernel⟩, List.mem_of_getElem? (i := 31) (by decide +kernel), List.mem_of_getElem? (i := 597) (by decide +kernel), List.mem_of_getElem? (i := 598) (by decide +kernel)⟩
theorem lw_p20 : lw_okq (⟨"GentleLetters$Desk", "copyFrom", "(LGentleLetters$Desk;)V"⟩, 20) := ⟨⟨by decide +kernel, by decide +kernel⟩, List.mem_of_getElem? (i := 67) (by decide +kernel), List.mem_of_getElem? (i := 601) (by decide +kernel), List.mem_of_getElem? (i := 602) (by decide +kernel)⟩
theorem lw_p21 : lw_okq (⟨"GentleLetters$Log", "takeAll", "(LGentleLetters$Log;)V"⟩, 4) := ⟨⟨by decide +kernel, by decide +kernel⟩, List.mem_of_getElem? (i := 73) (by decide +kernel), List.mem_of_getElem? (i := 608) (by decide +kernel), List.mem_of_getElem? (i := 609) (by decide +kernel)⟩
theorem lw_p22 : lw_okq (⟨"GentleLetters$Desk", "hasState", "(I)Z"⟩, 20) := ⟨⟨by decide +kernel, by decide +kernel⟩, List.mem_of_getElem? (i := 67) (by decide +kernel), List.mem_of_getElem? (i := 621) (by decide +kernel), List.mem_of_getElem? (i := 622) (by decide +kernel)⟩
theorem lw_p23 : lw_okq (⟨"GentleLetters$Desk", "hasHearer", "(I)Z"⟩, 20) := ⟨⟨by decide +kernel, by decide +kernel⟩, List.mem_of_getElem? (i := 67) (by decide +kernel), List.mem_of_getElem? (i := 629) (by decide +kernel), List.mem_of_getElem? (i := 630) (by decide +kernel)⟩
theorem lw_p24 : lw_okq (⟨"GentleLetters$Desk", "thoughtOf", "(II)I"⟩, 20) := ⟨⟨by decide +kernel, by decide +kernel⟩, List.mem_of_getElem? (i := 67) (by decide +kernel), List.mem_of_getElem? (i := 633) (by decide +kernel), List.mem_of_getElem? (i := 634) (by decide +kernel)⟩
theorem lw_p25 : lw_okq (⟨"GentleLetters$Desk", "hasWord", "(I)Z"⟩, 20) := ⟨⟨by decide +kernel, by decide +kernel⟩, List.mem_of_getElem? (i := 67) (by decide +kernel), List.mem_of_getElem? (i := 641) (by decide +kernel), List.mem_of_getElem? (i := 642) (by decide +kernel)⟩
theorem lw_p26 : lw_okq (⟨"GentleLetters$Desk", "isTrue", "(I)Z"⟩, 20) := ⟨⟨by decide +kernel, by decide +kernel⟩, List.mem_of_getElem? (i := 67) (by decide +kernel), List.mem_of_getElem? (i := 645) (by decide +kernel), List.mem_of_getElem? (i := 646) (by decide +kernel)⟩
theorem lw_p27 : lw_okq (⟨"GentleLetters$Desk", "hasPlan", "(I)Z"⟩, 20) := ⟨⟨by decide +kernel, by decide +kernel⟩, List.mem_of_getElem? (i := 67) (by decide +kernel), List.mem_of_getElem? (i := 653) (by decide +kernel), List.mem_of_getElem? (i := 654) (by decide +kernel)⟩
theorem lw_p28 : lw_okq (⟨"GentleLetters$Desk", "planWord", "(II)I"⟩, 20) := ⟨⟨by decide +kernel, by decide +kernel⟩, List.mem_of_getElem? (i := 67) (by decide +kernel), List.mem_of_getElem? (i := 657) (by decide +kernel), List.mem_of_getElem? (i := 658) (by decide +kernel)⟩
theorem lw_p29 : lw_okq (⟨"GentleLetters$Desk", "hasNews", "(I)Z"⟩, 20) := ⟨⟨by decide +kernel, by decide +kernel⟩, List.mem_of_getElem? (i := 67) (by decide +kernel), List.mem_of_getElem? (i := 665) (by decide +kernel), List.mem_of_getElem? (i := 666) (by decide +kernel)⟩
theorem lw_p30 : lw_okq (⟨"GentleLetters$Desk", "hasBelief", "(I)Z"⟩, 20) := ⟨⟨by decide +kernel, by decide +kernel⟩, List.mem_of_getElem? (i := 67) (by decide +kernel), List.mem_of_getElem? (i := 677) (by decide +kernel), List.mem_of_getElem? (i := 678) (by decide +kernel)⟩
theorem lw_p31 : lw_okq (⟨"GentleLetters$Desk", "everything", "()I"⟩, 20) := ⟨⟨by decide +kernel, by decide +kernel⟩, List.mem_of_getElem? (i := 67) (by decide +kernel), List.mem_of_getElem? (i := 681) (by decide +kernel), List.mem_of_getElem? (i := 682) (by decide +kernel)⟩
def lw_privs_2 : List (MethodName × Nat) := [(⟨"GentleLetters$DeskReader", "readPlan", "()Z"⟩, 5), (⟨"GentleLetters$DeskReader", "readNews", "()Z"⟩, 5), (⟨"GentleLetters$DeskReader", "readTells", "()Z"⟩, 5), (⟨"GentleLetters$DeskReader", "takeSemicolon", "()Z"⟩, 5), (⟨"GentleLetters$Desk", "copyFrom", "(LGentleLetters$Desk;)V"⟩, 20), (⟨"GentleLetters$Log", "takeAll", "(LGentleLetters$Log;)V"⟩, 4), (⟨"GentleLetters$Desk", "hasState", "(I)Z"⟩, 20), (⟨"GentleLetters$Desk", "hasHearer", "(I)Z"⟩, 20), (⟨"GentleLetters$Desk", "thoughtOf", "(II)I"⟩, 20), (⟨"GentleLetters$Desk", "hasWord", "(I)Z"⟩, 20), (⟨"GentleLetters$Desk", "isTrue", "(I)Z"⟩, 20), (⟨"GentleLetters$Desk", "hasPlan", "(I)Z"⟩, 20), (⟨"GentleLetters$Desk", "planWord", "(II)I"⟩, 20), (⟨"GentleLetters$Desk", "hasNews", "(I)Z"⟩, 20), (⟨"GentleLetters$Desk", "hasBelief", "(I)Z"⟩, 20), (⟨"GentleLetters$Desk", "everything", "()I"⟩, 20)]
theorem lw_r2 : ∀ q ∈ lw_privs_2, lw_okq q := List.forall_mem_cons.mpr ⟨lw_p16, List.forall_mem_cons.mpr ⟨lw_p17, List.forall_mem_cons.mpr ⟨lw_p18, List.forall_mem_cons.mpr ⟨lw_p19, List.forall_mem_cons.mpr ⟨lw_p20, List.forall_mem_cons.mpr ⟨lw_p21, List.forall_mem_cons.mpr ⟨lw_p22, List.forall_mem_cons.mpr ⟨lw_p23, List.forall_mem_cons.mpr ⟨lw_p24, List.forall_mem_cons.mpr ⟨lw_p25, List.forall_mem_cons.mpr ⟨lw_p26, List.forall_mem_cons.mpr ⟨lw_p27, List.forall_mem_cons.mpr ⟨lw_p28, List.forall_mem_cons.mpr ⟨lw_p29, List.forall_mem_cons.mpr ⟨lw_p30, List.forall_mem_cons.mpr ⟨lw_p31, fun _ h => absurd h List.not_mem_nil⟩⟩⟩⟩⟩⟩⟩⟩⟩⟩⟩⟩⟩⟩⟩⟩
theorem lw_p32 : lw_okq (⟨"GentleLetters$Desk", "meanOf", "(II)I"⟩, 20) := ⟨⟨by decide +kernel, by decide +kernel⟩, List.mem_of_getElem? (i := 67) (by decide +kernel), List.mem_of_getElem? (i := 685) (by decide +kernel), List.mem_of_getElem? (i := 686) (by decide +kernel)⟩
theorem lw_p33 : lw_okq (⟨"GentleLetters$Desk", "likelihood", "(IIII)I"⟩, 20) := ⟨⟨by decide +kernel, by decide +kernel⟩, List.mem_of_getElem? (i := 67) (by decide +kernel), List.mem_of_getElem? (i := 694) (by decide +kernel), List.mem_of_getElem? (i := 695) (by decide +kernel)⟩
theorem lw_p34 : lw_okq (⟨"GentleLetters$Desk", "canTell", "(I)Z"⟩, 20) := ⟨⟨by decide +kernel, by decide +kernel⟩, List.mem_of_getElem? (i := 67) (by decide +kernel), List.mem_of_getElem? (i := 711) (by decide +kernel), List.mem_of_getElem? (i := 712) (by decide +kernel)⟩
theorem lw_p35 : lw_okq (⟨"GentleLetters$Desk", "nextBelief", "(II)I"⟩, 20) := ⟨⟨by decide +kernel, by decide +kernel⟩, List.mem_of_getElem? (i := 67) (by decide +kernel), List.mem_of_getElem? (i := 716) (by decide +kernel), List.mem_of_getElem? (i := 717) (by decide +kernel)⟩
theorem lw_p36 : lw_okq (⟨"GentleLetters$Desk", "hurtBetween", "(III)I"⟩, 20) := ⟨⟨by decide +kernel, by decide +kernel⟩, List.mem_of_getElem? (i := 67) (by decide +kernel), List.mem_of_getElem? (i := 724) (by decide +kernel), List.mem_of_getElem? (i := 725) (by decide +kernel)⟩
theorem lw_p37 : lw_okq (⟨"GentleLetters", "takeWeek", "(I)I"⟩, 11) := ⟨⟨by decide +kernel, by decide +kernel⟩, List.mem_of_getElem? (i := 23) (by decide +kernel), List.mem_of_getElem? (i := 741) (by decide +kernel), List.mem_of_getElem? (i := 742) (by decide +kernel)⟩
theorem lw_p38 : lw_okq (⟨"GentleLetters$Desk", "stands", "()Z"⟩, 20) := ⟨⟨by decide +kernel, by decide +kernel⟩, List.mem_of_getElem? (i := 67) (by decide +kernel), List.mem_of_getElem? (i := 748) (by decide +kernel), List.mem_of_getElem? (i := 749) (by decide +kernel)⟩
theorem lw_p39 : lw_okq (⟨"GentleLetters", "rowOf", "(I)LGentleLetters$Row;"⟩, 11) := ⟨⟨by decide +kernel, by decide +kernel⟩, List.mem_of_getElem? (i := 23) (by decide +kernel), List.mem_of_getElem? (i := 752) (by decide +kernel), List.mem_of_getElem? (i := 753) (by decide +kernel)⟩
theorem lw_p40 : lw_okq (⟨"GentleLetters$Week", "take", "(LGentleLetters$Row;LGentleLetters$Desk;)Z"⟩, 10) := ⟨⟨by decide +kernel, by decide +kernel⟩, List.mem_of_getElem? (i := 232) (by decide +kernel), List.mem_of_getElem? (i := 756) (by decide +kernel), List.mem_of_getElem? (i := 757) (by decide +kernel)⟩
theorem lw_p41 : lw_okq (⟨"GentleLetters$Week", "believe", "(LGentleLetters$Desk;)V"⟩, 10) := ⟨⟨by decide +kernel, by decide +kernel⟩, List.mem_of_getElem? (i := 232) (by decide +kernel), List.mem_of_getElem? (i := 761) (by decide +kernel), List.mem_of_getElem? (i := 762) (by decide +kernel)⟩
theorem lw_p42 : lw_okq (⟨"GentleLetters$Week", "lastBelief", "(LGentleLetters$Desk;)I"⟩, 10) := ⟨⟨by decide +kernel, by decide +kernel⟩, List.mem_of_getElem? (i := 232) (by decide +kernel), List.mem_of_getElem? (i := 767) (by decide +kernel), List.mem_of_getElem? (i := 768) (by decide +kernel)⟩
theorem lw_p43 : lw_okq (⟨"GentleLetters", "feelWeek", "(II)I"⟩, 11) := ⟨⟨by decide +kernel, by decide +kernel⟩, List.mem_of_getElem? (i := 23) (by decide +kernel), List.mem_of_getElem? (i := 775) (by decide +kernel), List.mem_of_getElem? (i := 776) (by decide +kernel)⟩
theorem lw_p44 : lw_okq (⟨"GentleLetters$Week", "feel", "(LGentleLetters$Desk;I)V"⟩, 10) := ⟨⟨by decide +kernel, by decide +kernel⟩, List.mem_of_getElem? (i := 232) (by decide +kernel), List.mem_of_getElem? (i := 779) (by decide +kernel), List.mem_of_getElem? (i := 780) (by decide +kernel)⟩
theorem lw_p45 : lw_okq (⟨"GentleLetters$Week", "sumOfHurts", "()I"⟩, 10) := ⟨⟨by decide +kernel, by decide +kernel⟩, List.mem_of_getElem? (i := 232) (by decide +kernel), List.mem_of_getElem? (i := 784) (by decide +kernel), List.mem_of_getElem? (i := 785) (by decide +kernel)⟩
theorem lw_p46 : lw_okq (⟨"GentleLetters$Week", "greatestHurt", "()I"⟩, 10) := ⟨⟨by decide +kernel, by decide +kernel⟩, List.mem_of_getElem? (i := 232) (by decide +kernel), List.mem_of_getElem? (i := 792) (by decide +kernel), List.mem_of_getElem? (i := 793) (by decide +kernel)⟩
theorem lw_p47 : lw_okq (⟨"GentleLetters$Week", "sumLeft", "(LGentleLetters$Desk;)I"⟩, 10) := ⟨⟨by decide +kernel, by decide +kernel⟩, List.mem_of_getElem? (i := 232) (by decide +kernel), List.mem_of_getElem? (i := 803) (by decide +kernel), List.mem_of_getElem? (i := 804) (by decide +kernel)⟩
def lw_privs_3 : List (MethodName × Nat) := [(⟨"GentleLetters$Desk", "meanOf", "(II)I"⟩, 20), (⟨"GentleLetters$Desk", "likelihood", "(IIII)I"⟩, 20), (⟨"GentleLetters$Desk", "canTell", "(I)Z"⟩, 20), (⟨"GentleLetters$Desk", "nextBelief", "(II)I"⟩, 20), (⟨"GentleLetters$Desk", "hurtBetween", "(III)I"⟩, 20), (⟨"GentleLetters", "takeWeek", "(I)I"⟩, 11), (⟨"GentleLetters$Desk", "stands", "()Z"⟩, 20), (⟨"GentleLetters", "rowOf", "(I)LGentleLetters$Row;"⟩, 11), (⟨"GentleLetters$Week", "take", "(LGentleLetters$Row;LGentleLetters$Desk;)Z"⟩, 10), (⟨"GentleLetters$Week", "believe", "(LGentleLetters$Desk;)V"⟩, 10), (⟨"GentleLetters$Week", "lastBelief", "(LGentleLetters$Desk;)I"⟩, 10), (⟨"GentleLetters", "feelWeek", "(II)I"⟩, 11), (⟨"GentleLetters$Week", "feel", "(LGentleLetters$Desk;I)V"⟩, 10), (⟨"GentleLetters$Week", "sumOfHurts", "()I"⟩, 10), (⟨"GentleLetters$Week", "greatestHurt", "()I"⟩, 10), (⟨"GentleLetters$Week", "sumLeft", "(LGentleLetters$Desk;)I"⟩, 10)]
theorem lw_r3 : ∀ q ∈ lw_privs_3, lw_okq q := List.forall_mem_cons.mpr ⟨lw_p32, List.forall_mem_cons.mpr ⟨lw_p33, List.forall_mem_cons.mpr ⟨lw_p34, List.forall_mem_cons.mpr ⟨lw_p35, List.forall_mem_cons.mpr ⟨lw_p36, List.forall_mem_cons.mpr ⟨lw_p37, List.forall_mem_cons.mpr ⟨lw_p38, List.forall_mem_cons.mpr ⟨lw_p39, List.forall_mem_cons.mpr ⟨lw_p40, List.forall_mem_cons.mpr ⟨lw_p41, List.forall_mem_cons.mpr ⟨lw_p42, List.forall_mem_cons.mpr ⟨lw_p43, List.forall_mem_cons.mpr ⟨lw_p44, List.forall_mem_cons.mpr ⟨lw_p45, List.forall_mem_cons.mpr ⟨lw_p46, List.forall_mem_cons.mpr ⟨lw_p47, fun _ h => absurd h List.not_mem_nil⟩⟩⟩⟩⟩⟩⟩⟩⟩⟩⟩⟩⟩⟩⟩⟩
theorem lw_p48 : lw_okq (⟨"GentleLetters$Desk", "leftOf", "(II)I"⟩, 20) := ⟨⟨by decide +kernel, by decide +kernel⟩, List.mem_of_getElem? (i := 67) (by decide +kernel), List.mem_of_getElem? (i := 807) (by decide +kernel), List.mem_of_getElem? (i := 808) (by decide +kernel)⟩
theorem lw_p49 : lw_okq (⟨"GentleLetters$Week", "firstLie", "(LGentleLetters$Desk;)I"⟩, 10) := ⟨⟨by decide +kernel, by decide +kernel⟩, List.mem_of_getElem? (i := 232) (by decide +kernel), List.mem_of_getElem? (i := 816) (by decide +kernel), List.mem_of_getElem? (i := 817) (by decide +kernel)⟩
theorem lw_p50 : lw_okq (⟨"GentleLetters$Week", "sumOfShame", "(LGentleLetters$Desk;)I"⟩, 10) := ⟨⟨by decide +kernel, by decide +kernel⟩, List.mem_of_getElem? (i := 232) (by decide +kernel), List.mem_of_getElem? (i := 825) (by decide +kernel), List.mem_of_getElem? (i := 826) (by decide +kernel)⟩
theorem lw_p51 : lw_okq (⟨"GentleLetters$Desk", "shameOf", "(I)I"⟩, 20) := ⟨⟨by decide +kernel, by decide +kernel⟩, List.mem_of_getElem? (i := 67) (by decide +kernel), List.mem_of_getElem? (i := 829) (by decide +kernel), List.mem_of_getElem? (i := 830) (by decide +kernel)⟩
theorem lw_p52 : lw_okq (⟨"GentleLetters$Desk", "truth", "()I"⟩, 20) := ⟨⟨by decide +kernel, by decide +kernel⟩, List.mem_of_getElem? (i := 67) (by decide +kernel), List.mem_of_getElem? (i := 838) (by decide +kernel), List.mem_of_getElem? (i := 839) (by decide +kernel)⟩
theorem lw_p53 : lw_okq (⟨"GentleLetters$Week", "knownFrom", "(I)I"⟩, 10) := ⟨⟨by decide +kernel, by decide +kernel⟩, List.mem_of_getElem? (i := 232) (by decide +kernel), List.mem_of_getElem? (i := 842) (by decide +kernel), List.mem_of_getElem? (i := 843) (by decide +kernel)⟩
theorem lw_p54 : lw_okq (⟨"GentleLetters", "orderWeek", "(II)I"⟩, 11) := ⟨⟨by decide +kernel, by decide +kernel⟩, List.mem_of_getElem? (i := 23) (by decide +kernel), List.mem_of_getElem? (i := 850) (by decide +kernel), List.mem_of_getElem? (i := 851) (by decide +kernel)⟩
theorem lw_p55 : lw_okq (⟨"GentleLetters$Mind", "study", "(LGentleLetters$Desk;I)V"⟩, 1) := ⟨⟨by decide +kernel, by decide +kernel⟩, List.mem_of_getElem? (i := 276) (by decide +kernel), List.mem_of_getElem? (i := 854) (by decide +kernel), List.mem_of_getElem? (i := 855) (by decide +kernel)⟩
theorem lw_p56 : lw_okq (⟨"GentleLetters$Week", "orderSoftly", "(LGentleLetters$Desk;LGentleLetters$Mind;)V"⟩, 10) := ⟨⟨by decide +kernel, by decide +kernel⟩, List.mem_of_getElem? (i := 232) (by decide +kernel), List.mem_of_getElem? (i := 860) (by decide +kernel), List.mem_of_getElem? (i := 861) (by decide +kernel)⟩
theorem lw_p57 : lw_okq (⟨"GentleLetters$Week", "leftByOrder", "(LGentleLetters$Desk;LGentleLetters$Mind;)I"⟩, 10) := ⟨⟨by decide +kernel, by decide +kernel⟩, List.mem_of_getElem? (i := 232) (by decide +kernel), List.mem_of_getElem? (i := 865) (by decide +kernel), List.mem_of_getElem? (i := 866) (by decide +kernel)⟩
theorem lw_p58 : lw_okq (⟨"GentleLetters$Mind", "pain", "(II)I"⟩, 1) := ⟨⟨by decide +kernel, by decide +kernel⟩, List.mem_of_getElem? (i := 276) (by decide +kernel), List.mem_of_getElem? (i := 869) (by decide +kernel), List.mem_of_getElem? (i := 870) (by decide +kernel)⟩
theorem lw_p59 : lw_okq (⟨"GentleLetters$Week", "nextOrder", "()Z"⟩, 10) := ⟨⟨by decide +kernel, by decide +kernel⟩, List.mem_of_getElem? (i := 232) (by decide +kernel), List.mem_of_getElem? (i := 875) (by decide +kernel), List.mem_of_getElem? (i := 876) (by decide +kernel)⟩
theorem lw_p60 : lw_okq (⟨"GentleLetters$Week", "swap", "(II)V"⟩, 10) := ⟨⟨by decide +kernel, by decide +kernel⟩, List.mem_of_getElem? (i := 232) (by decide +kernel), List.mem_of_getElem? (i := 879) (by decide +kernel), List.mem_of_getElem? (i := 880) (by decide +kernel)⟩
theorem lw_p61 : lw_okq (⟨"GentleLetters", "leastCost", "(IZZ)I"⟩, 11) := ⟨⟨by decide +kernel, by decide +kernel⟩, List.mem_of_getElem? (i := 23) (by decide +kernel), List.mem_of_getElem? (i := 891) (by decide +kernel), List.mem_of_getElem? (i := 892) (by decide +kernel)⟩
theorem lw_p62 : lw_okq (⟨"GentleLetters$Reach", "grow", "(LGentleLetters$Desk;I)V"⟩, 3) := ⟨⟨by decide +kernel, by decide +kernel⟩, List.mem_of_getElem? (i := 286) (by decide +kernel), List.mem_of_getElem? (i := 896) (by decide +kernel), List.mem_of_getElem? (i := 897) (by decide +kernel)⟩
theorem lw_p63 : lw_okq (⟨"GentleLetters$Reach", "add", "(II)V"⟩, 3) := ⟨⟨by decide +kernel, by decide +kernel⟩, List.mem_of_getElem? (i := 286) (by decide +kernel), List.mem_of_getElem? (i := 902) (by decide +kernel), List.mem_of_getElem? (i := 903) (by decide +kernel)⟩
def lw_privs_4 : List (MethodName × Nat) := [(⟨"GentleLetters$Desk", "leftOf", "(II)I"⟩, 20), (⟨"GentleLetters$Week", "firstLie", "(LGentleLetters$Desk;)I"⟩, 10), (⟨"GentleLetters$Week", "sumOfShame", "(LGentleLetters$Desk;)I"⟩, 10), (⟨"GentleLetters$Desk", "shameOf", "(I)I"⟩, 20), (⟨"GentleLetters$Desk", "truth", "()I"⟩, 20), (⟨"GentleLetters$Week", "knownFrom", "(I)I"⟩, 10), (⟨"GentleLetters", "orderWeek", "(II)I"⟩, 11), (⟨"GentleLetters$Mind", "study", "(LGentleLetters$Desk;I)V"⟩, 1), (⟨"GentleLetters$Week", "orderSoftly", "(LGentleLetters$Desk;LGentleLetters$Mind;)V"⟩, 10), (⟨"GentleLetters$Week", "leftByOrder", "(LGentleLetters$Desk;LGentleLetters$Mind;)I"⟩, 10), (⟨"GentleLetters$Mind", "pain", "(II)I"⟩, 1), (⟨"GentleLetters$Week", "nextOrder", "()Z"⟩, 10), (⟨"GentleLetters$Week", "swap", "(II)V"⟩, 10), (⟨"GentleLetters", "leastCost", "(IZZ)I"⟩, 11), (⟨"GentleLetters$Reach", "grow", "(LGentleLetters$Desk;I)V"⟩, 3), (⟨"GentleLetters$Reach", "add", "(II)V"⟩, 3)]
theorem lw_r4 : ∀ q ∈ lw_privs_4, lw_okq q := List.forall_mem_cons.mpr ⟨lw_p48, List.forall_mem_cons.mpr ⟨lw_p49, List.forall_mem_cons.mpr ⟨lw_p50, List.forall_mem_cons.mpr ⟨lw_p51, List.forall_mem_cons.mpr ⟨lw_p52, List.forall_mem_cons.mpr ⟨lw_p53, List.forall_mem_cons.mpr ⟨lw_p54, List.forall_mem_cons.mpr ⟨lw_p55, List.forall_mem_cons.mpr ⟨lw_p56, List.forall_mem_cons.mpr ⟨lw_p57, List.forall_mem_cons.mpr ⟨lw_p58, List.forall_mem_cons.mpr ⟨lw_p59, List.forall_mem_cons.mpr ⟨lw_p60, List.forall_mem_cons.mpr ⟨lw_p61, List.forall_mem_cons.mpr ⟨lw_p62, List.forall_mem_cons.mpr ⟨lw_p63, fun _ h => absurd h List.not_mem_nil⟩⟩⟩⟩⟩⟩⟩⟩⟩⟩⟩⟩⟩⟩⟩⟩
theorem lw_p64 : lw_okq (⟨"GentleLetters$Planner", "solve", "(LGentleLetters$Desk;LGentleLetters$Mind;LGentleLetters$Reach;ZZ)V"⟩, 5) := ⟨⟨by decide +kernel, by decide +kernel⟩, List.mem_of_getElem? (i := 307) (by decide +kernel), List.mem_of_getElem? (i := 907) (by decide +kernel), List.mem_of_getElem? (i := 908) (by decide +kernel)⟩
theorem lw_p65 : lw_okq (⟨"GentleLetters$Planner", "leastFrom", "(LGentleLetters$Desk;LGentleLetters$Mind;II)I"⟩, 5) := ⟨⟨by decide +kernel, by decide +kernel⟩, List.mem_of_getElem? (i := 307) (by decide +kernel), List.mem_of_getElem? (i := 913) (by decide +kernel), List.mem_of_getElem? (i := 914) (by decide +kernel)⟩
theorem lw_p66 : lw_okq (⟨"GentleLetters$Planner", "costBy", "(LGentleLetters$Desk;LGentleLetters$Mind;III)I"⟩, 5) := ⟨⟨by decide +kernel, by decide +kernel⟩, List.mem_of_getElem? (i := 307) (by decide +kernel), List.mem_of_getElem? (i := 917) (by decide +kernel), List.mem_of_getElem? (i := 918) (by decide +kernel)⟩
theorem lw_p67 : lw_okq (⟨"GentleLetters$Planner", "costWithDays", "(II)I"⟩, 5) := ⟨⟨by decide +kernel, by decide +kernel⟩, List.mem_of_getElem? (i := 307) (by decide +kernel), List.mem_of_getElem? (i := 923) (by decide +kernel), List.mem_of_getElem? (i := 924) (by decide +kernel)⟩
theorem lw_p68 : lw_okq (⟨"GentleLetters$Planner", "findFirstRow", "(LGentleLetters$Desk;LGentleLetters$Mind;)V"⟩, 5) := ⟨⟨by decide +kernel, by decide +kernel⟩, List.mem_of_getElem? (i := 307) (by decide +kernel), List.mem_of_getElem? (i := 933) (by decide +kernel), List.mem_of_getElem? (i := 934) (by decide +kernel)⟩
theorem lw_p69 : lw_okq (⟨"GentleLetters", "wordOfBest", "(IIZZ)I"⟩, 11) := ⟨⟨by decide +kernel, by decide +kernel⟩, List.mem_of_getElem? (i := 23) (by decide +kernel), List.mem_of_getElem? (i := 946) (by decide +kernel), List.mem_of_getElem? (i := 947) (by decide +kernel)⟩
theorem lw_p70 : lw_okq (⟨"GentleLetters$Desk", "hasDay", "(I)Z"⟩, 20) := ⟨⟨by decide +kernel, by decide +kernel⟩, List.mem_of_getElem? (i := 67) (by decide +kernel), List.mem_of_getElem? (i := 950) (by decide +kernel), List.mem_of_getElem? (i := 951) (by decide +kernel)⟩
theorem lw_p71 : lw_okq (⟨"GentleLetters$Desk", "hurtAtOnce", "(I)I"⟩, 20) := ⟨⟨by decide +kernel, by decide +kernel⟩, List.mem_of_getElem? (i := 67) (by decide +kernel), List.mem_of_getElem? (i := 990) (by decide +kernel), List.mem_of_getElem? (i := 991) (by decide +kernel)⟩
theorem lw_p72 : lw_okq (⟨"GentleLetters$Desk", "sharpest", "(I)I"⟩, 20) := ⟨⟨by decide +kernel, by decide +kernel⟩, List.mem_of_getElem? (i := 67) (by decide +kernel), List.mem_of_getElem? (i := 1013) (by decide +kernel), List.mem_of_getElem? (i := 1014) (by decide +kernel)⟩
theorem lw_p73 : lw_okq (⟨"GentleLetters$Planner", "wordsUsed", "(I)I"⟩, 5) := ⟨⟨by decide +kernel, by decide +kernel⟩, List.mem_of_getElem? (i := 307) (by decide +kernel), List.mem_of_getElem? (i := 1021) (by decide +kernel), List.mem_of_getElem? (i := 1022) (by decide +kernel)⟩
theorem lw_p74 : lw_okq (⟨"GentleLetters", "weighRisks", "(III)V"⟩, 11) := ⟨⟨by decide +kernel, by decide +kernel⟩, List.mem_of_getElem? (i := 23) (by decide +kernel), List.mem_of_getElem? (i := 1046) (by decide +kernel), List.mem_of_getElem? (i := 1047) (by decide +kernel)⟩
theorem lw_p75 : lw_okq (⟨"GentleLetters$Risks", "weigh", "(LGentleLetters$Desk;LGentleLetters$Mind;LGentleLetters$Reach;II)V"⟩, 4) := ⟨⟨by decide +kernel, by decide +kernel⟩, List.mem_of_getElem? (i := 331) (by decide +kernel), List.mem_of_getElem? (i := 1050) (by decide +kernel), List.mem_of_getElem? (i := 1051) (by decide +kernel)⟩
theorem lw_p76 : lw_okq (⟨"GentleLetters$Risks", "choose", "(LGentleLetters$Desk;LGentleLetters$Mind;II)V"⟩, 4) := ⟨⟨by decide +kernel, by decide +kernel⟩, List.mem_of_getElem? (i := 331) (by decide +kernel), List.mem_of_getElem? (i := 1056) (by decide +kernel), List.mem_of_getElem? (i := 1057) (by decide +kernel)⟩
theorem lw_p77 : lw_okq (⟨"GentleLetters$Desk", "inTheMean", "(II)I"⟩, 20) := ⟨⟨by decide +kernel, by decide +kernel⟩, List.mem_of_getElem? (i := 67) (by decide +kernel), List.mem_of_getElem? (i := 1064) (by decide +kernel), List.mem_of_getElem? (i := 1065) (by decide +kernel)⟩
theorem lw_p78 : lw_okq (⟨"GentleLetters$Desk", "costOfWaiting", "(II)I"⟩, 20) := ⟨⟨by decide +kernel, by decide +kernel⟩, List.mem_of_getElem? (i := 67) (by decide +kernel), List.mem_of_getElem? (i := 1077) (by decide +kernel), List.mem_of_getElem? (i := 1078) (by decide +kernel)⟩
theorem lw_p79 : lw_okq (⟨"GentleLetters$Week", "reckon", "(LGentleLetters$Desk;I)V"⟩, 10) := ⟨⟨by decide +kernel, by decide +kernel⟩, List.mem_of_getElem? (i := 232) (by decide +kernel), List.mem_of_getElem? (i := 1087) (by decide +kernel), List.mem_of_getElem? (i := 1088) (by decide +kernel)⟩
def lw_privs_5 : List (MethodName × Nat) := [(⟨"GentleLetters$Planner", "solve", "(LGentleLetters$Desk;LGentleLetters$Mind;LGentleLetters$Reach;ZZ)V"⟩, 5), (⟨"GentleLetters$Planner", "leastFrom", "(LGentleLetters$Desk;LGentleLetters$Mind;II)I"⟩, 5), (⟨"GentleLetters$Planner", "costBy", "(LGentleLetters$Desk;LGentleLetters$Mind;III)I"⟩, 5), (⟨"GentleLetters$Planner", "costWithDays", "(II)I"⟩, 5), (⟨"GentleLetters$Planner", "findFirstRow", "(LGentleLetters$Desk;LGentleLetters$Mind;)V"⟩, 5), (⟨"GentleLetters", "wordOfBest", "(IIZZ)I"⟩, 11), (⟨"GentleLetters$Desk", "hasDay", "(I)Z"⟩, 20), (⟨"GentleLetters$Desk", "hurtAtOnce", "(I)I"⟩, 20), (⟨"GentleLetters$Desk", "sharpest", "(I)I"⟩, 20), (⟨"GentleLetters$Planner", "wordsUsed", "(I)I"⟩, 5), (⟨"GentleLetters", "weighRisks", "(III)V"⟩, 11), (⟨"GentleLetters$Risks", "weigh", "(LGentleLetters$Desk;LGentleLetters$Mind;LGentleLetters$Reach;II)V"⟩, 4), (⟨"GentleLetters$Risks", "choose", "(LGentleLetters$Desk;LGentleLetters$Mind;II)V"⟩, 4), (⟨"GentleLetters$Desk", "inTheMean", "(II)I"⟩, 20), (⟨"GentleLetters$Desk", "costOfWaiting", "(II)I"⟩, 20), (⟨"GentleLetters$Week", "reckon", "(LGentleLetters$Desk;I)V"⟩, 10)]
theorem lw_r5 : ∀ q ∈ lw_privs_5, lw_okq q := List.forall_mem_cons.mpr ⟨lw_p64, List.forall_mem_cons.mpr ⟨lw_p65, List.forall_mem_cons.mpr ⟨lw_p66, List.forall_mem_cons.mpr ⟨lw_p67, List.forall_mem_cons.mpr ⟨lw_p68, List.forall_mem_cons.mpr ⟨lw_p69, List.forall_mem_cons.mpr ⟨lw_p70, List.forall_mem_cons.mpr ⟨lw_p71, List.forall_mem_cons.mpr ⟨lw_p72, List.forall_mem_cons.mpr ⟨lw_p73, List.forall_mem_cons.mpr ⟨lw_p74, List.forall_mem_cons.mpr ⟨lw_p75, List.forall_mem_cons.mpr ⟨lw_p76, List.forall_mem_cons.mpr ⟨lw_p77, List.forall_mem_cons.mpr ⟨lw_p78, List.forall_mem_cons.mpr ⟨lw_p79, fun _ h => absurd h List.not_mem_nil⟩⟩⟩⟩⟩⟩⟩⟩⟩⟩⟩⟩⟩⟩⟩⟩
theorem lw_p80 : lw_okq (⟨"GentleLetters$Desk", "plansWith", "(III)I"⟩, 20) := ⟨⟨by decide +kernel, by decide +kernel⟩, List.mem_of_getElem? (i := 67) (by decide +kernel), List.mem_of_getElem? (i := 1091) (by decide +kernel), List.mem_of_getElem? (i := 1092) (by decide +kernel)⟩
theorem lw_p81 : lw_okq (⟨"GentleLetters", "reckonWeek", "(II)I"⟩, 11) := ⟨⟨by decide +kernel, by decide +kernel⟩, List.mem_of_getElem? (i := 23) (by decide +kernel), List.mem_of_getElem? (i := 1105) (by decide +kernel), List.mem_of_getElem? (i := 1106) (by decide +kernel)⟩
theorem lw_p82 : lw_okq (⟨"GentleLetters$Desk", "beliefBehindPlan", "(I)I"⟩, 20) := ⟨⟨by decide +kernel, by decide +kernel⟩, List.mem_of_getElem? (i := 67) (by decide +kernel), List.mem_of_getElem? (i := 1113) (by decide +kernel), List.mem_of_getElem? (i := 1114) (by decide +kernel)⟩
theorem lw_p83 : lw_okq (⟨"GentleLetters$Week", "overrule", "(II)V"⟩, 10) := ⟨⟨by decide +kernel, by decide +kernel⟩, List.mem_of_getElem? (i := 232) (by decide +kernel), List.mem_of_getElem? (i := 1118) (by decide +kernel), List.mem_of_getElem? (i := 1119) (by decide +kernel)⟩
theorem lw_p84 : lw_okq (⟨"GentleLetters$Letters", "share", "(LGentleLetters$Desk;I)V"⟩, 4) := ⟨⟨by decide +kernel, by decide +kernel⟩, List.mem_of_getElem? (i := 352) (by decide +kernel), List.mem_of_getElem? (i := 1130) (by decide +kernel), List.mem_of_getElem? (i := 1131) (by decide +kernel)⟩
theorem lw_p85 : lw_okq (⟨"GentleLetters$Letters", "leftByRow", "(LGentleLetters$Desk;I)I"⟩, 4) := ⟨⟨by decide +kernel, by decide +kernel⟩, List.mem_of_getElem? (i := 352) (by decide +kernel), List.mem_of_getElem? (i := 1137) (by decide +kernel), List.mem_of_getElem? (i := 1138) (by decide +kernel)⟩
theorem lw_p86 : lw_okq (⟨"GentleLetters$Letters", "nextRow", "(II)Z"⟩, 4) := ⟨⟨by decide +kernel, by decide +kernel⟩, List.mem_of_getElem? (i := 352) (by decide +kernel), List.mem_of_getElem? (i := 1144) (by decide +kernel), List.mem_of_getElem? (i := 1145) (by decide +kernel)⟩
theorem lw_p87 : lw_okq (⟨"GentleLetters$Desk", "everybody", "()I"⟩, 20) := ⟨⟨by decide +kernel, by decide +kernel⟩, List.mem_of_getElem? (i := 67) (by decide +kernel), List.mem_of_getElem? (i := 1160) (by decide +kernel), List.mem_of_getElem? (i := 1161) (by decide +kernel)⟩
theorem lw_p88 : lw_okq (⟨"GentleLetters$Desk", "knowingAfter", "(II)I"⟩, 20) := ⟨⟨by decide +kernel, by decide +kernel⟩, List.mem_of_getElem? (i := 67) (by decide +kernel), List.mem_of_getElem? (i := 1164) (by decide +kernel), List.mem_of_getElem? (i := 1165) (by decide +kernel)⟩
theorem lw_p89 : lw_okq (⟨"GentleLetters$Desk", "fewestToTell", "()I"⟩, 20) := ⟨⟨by decide +kernel, by decide +kernel⟩, List.mem_of_getElem? (i := 67) (by decide +kernel), List.mem_of_getElem? (i := 1172) (by decide +kernel), List.mem_of_getElem? (i := 1173) (by decide +kernel)⟩
theorem lw_p90 : lw_okq (⟨"GentleLetters$Week", "statesMeant", "(LGentleLetters$Desk;)I"⟩, 10) := ⟨⟨by decide +kernel, by decide +kernel⟩, List.mem_of_getElem? (i := 232) (by decide +kernel), List.mem_of_getElem? (i := 1187) (by decide +kernel), List.mem_of_getElem? (i := 1188) (by decide +kernel)⟩
theorem lw_p91 : lw_okq (⟨"GentleLetters", "changeDesk", "(III)I"⟩, 11) := ⟨⟨by decide +kernel, by decide +kernel⟩, List.mem_of_getElem? (i := 23) (by decide +kernel), List.mem_of_getElem? (i := 1199) (by decide +kernel), List.mem_of_getElem? (i := 1200) (by decide +kernel)⟩
theorem lw_p92 : lw_okq (⟨"GentleLetters$Desk", "valueAt", "(II)I"⟩, 20) := ⟨⟨by decide +kernel, by decide +kernel⟩, List.mem_of_getElem? (i := 67) (by decide +kernel), List.mem_of_getElem? (i := 1203) (by decide +kernel), List.mem_of_getElem? (i := 1204) (by decide +kernel)⟩
theorem lw_p93 : lw_okq (⟨"GentleLetters$Log", "note", "(III)V"⟩, 4) := ⟨⟨by decide +kernel, by decide +kernel⟩, List.mem_of_getElem? (i := 73) (by decide +kernel), List.mem_of_getElem? (i := 1207) (by decide +kernel), List.mem_of_getElem? (i := 1208) (by decide +kernel)⟩
theorem lw_p94 : lw_okq (⟨"GentleLetters$Desk", "put", "(III)V"⟩, 20) := ⟨⟨by decide +kernel, by decide +kernel⟩, List.mem_of_getElem? (i := 67) (by decide +kernel), List.mem_of_getElem? (i := 1211) (by decide +kernel), List.mem_of_getElem? (i := 1212) (by decide +kernel)⟩
theorem lw_p95 : lw_okq (⟨"GentleLetters$Desk", "drawLeak", "(I)I"⟩, 20) := ⟨⟨by decide +kernel, by decide +kernel⟩, List.mem_of_getElem? (i := 67) (by decide +kernel), List.mem_of_getElem? (i := 1235) (by decide +kernel), List.mem_of_getElem? (i := 1236) (by decide +kernel)⟩
def lw_privs_6 : List (MethodName × Nat) := [(⟨"GentleLetters$Desk", "plansWith", "(III)I"⟩, 20), (⟨"GentleLetters", "reckonWeek", "(II)I"⟩, 11), (⟨"GentleLetters$Desk", "beliefBehindPlan", "(I)I"⟩, 20), (⟨"GentleLetters$Week", "overrule", "(II)V"⟩, 10), (⟨"GentleLetters$Letters", "share", "(LGentleLetters$Desk;I)V"⟩, 4), (⟨"GentleLetters$Letters", "leftByRow", "(LGentleLetters$Desk;I)I"⟩, 4), (⟨"GentleLetters$Letters", "nextRow", "(II)Z"⟩, 4), (⟨"GentleLetters$Desk", "everybody", "()I"⟩, 20), (⟨"GentleLetters$Desk", "knowingAfter", "(II)I"⟩, 20), (⟨"GentleLetters$Desk", "fewestToTell", "()I"⟩, 20), (⟨"GentleLetters$Week", "statesMeant", "(LGentleLetters$Desk;)I"⟩, 10), (⟨"GentleLetters", "changeDesk", "(III)I"⟩, 11), (⟨"GentleLetters$Desk", "valueAt", "(II)I"⟩, 20), (⟨"GentleLetters$Log", "note", "(III)V"⟩, 4), (⟨"GentleLetters$Desk", "put", "(III)V"⟩, 20), (⟨"GentleLetters$Desk", "drawLeak", "(I)I"⟩, 20)]
theorem lw_r6 : ∀ q ∈ lw_privs_6, lw_okq q := List.forall_mem_cons.mpr ⟨lw_p80, List.forall_mem_cons.mpr ⟨lw_p81, List.forall_mem_cons.mpr ⟨lw_p82, List.forall_mem_cons.mpr ⟨lw_p83, List.forall_mem_cons.mpr ⟨lw_p84, List.forall_mem_cons.mpr ⟨lw_p85, List.forall_mem_cons.mpr ⟨lw_p86, List.forall_mem_cons.mpr ⟨lw_p87, List.forall_mem_cons.mpr ⟨lw_p88, List.forall_mem_cons.mpr ⟨lw_p89, List.forall_mem_cons.mpr ⟨lw_p90, List.forall_mem_cons.mpr ⟨lw_p91, List.forall_mem_cons.mpr ⟨lw_p92, List.forall_mem_cons.mpr ⟨lw_p93, List.forall_mem_cons.mpr ⟨lw_p94, List.forall_mem_cons.mpr ⟨lw_p95, fun _ h => absurd h List.not_mem_nil⟩⟩⟩⟩⟩⟩⟩⟩⟩⟩⟩⟩⟩⟩⟩⟩
theorem lw_p96 : lw_okq (⟨"GentleLetters$Week", "fillDays", "(LGentleLetters$Desk;)V"⟩, 10) := ⟨⟨by decide +kernel, by decide +kernel⟩, List.mem_of_getElem? (i := 232) (by decide +kernel), List.mem_of_getElem? (i := 1244) (by decide +kernel), List.mem_of_getElem? (i := 1245) (by decide +kernel)⟩
theorem lw_p97 : lw_okq (⟨"GentleLetters", "countRows", "()I"⟩, 11) := ⟨⟨by decide +kernel, by decide +kernel⟩, List.mem_of_getElem? (i := 23) (by decide +kernel), List.mem_of_getElem? (i := 1257) (by decide +kernel), List.mem_of_getElem? (i := 1258) (by decide +kernel)⟩
theorem lw_p98 : lw_okq (⟨"GentleLetters$Row", "begin", "(II)V"⟩, 4) := ⟨⟨by decide +kernel, by decide +kernel⟩, List.mem_of_getElem? (i := 372) (by decide +kernel), List.mem_of_getElem? (i := 1273) (by decide +kernel), List.mem_of_getElem? (i := 1274) (by decide +kernel)⟩
theorem lw_p99 : lw_okq (⟨"GentleLetters$Row", "cut", "(J)J"⟩, 4) := ⟨⟨by decide +kernel, by decide +kernel⟩, List.mem_of_getElem? (i := 372) (by decide +kernel), List.mem_of_getElem? (i := 1284) (by decide +kernel), List.mem_of_getElem? (i := 1285) (by decide +kernel)⟩
theorem lw_p100 : lw_okq (⟨"GentleLetters$Row", "holds", "(II)Z"⟩, 4) := ⟨⟨by decide +kernel, by decide +kernel⟩, List.mem_of_getElem? (i := 372) (by decide +kernel), List.mem_of_getElem? (i := 1292) (by decide +kernel), List.mem_of_getElem? (i := 1293) (by decide +kernel)⟩
theorem lw_p101 : lw_okq (⟨"GentleLettersModel", "advance", "()V"⟩, 29) := ⟨⟨by decide +kernel, by decide +kernel⟩, List.mem_of_getElem? (i := 1297) (by decide +kernel), List.mem_of_getElem? (i := 1418) (by decide +kernel), List.mem_of_getElem? (i := 1419) (by decide +kernel)⟩
theorem lw_p102 : lw_okq (⟨"GentleLettersModel", "see", "(I)I"⟩, 29) := ⟨⟨by decide +kernel, by decide +kernel⟩, List.mem_of_getElem? (i := 1297) (by decide +kernel), List.mem_of_getElem? (i := 1422) (by decide +kernel), List.mem_of_getElem? (i := 1423) (by decide +kernel)⟩
theorem lw_p103 : lw_okq (⟨"GentleLettersModel", "good", "()Z"⟩, 29) := ⟨⟨by decide +kernel, by decide +kernel⟩, List.mem_of_getElem? (i := 1297) (by decide +kernel), List.mem_of_getElem? (i := 1432) (by decide +kernel), List.mem_of_getElem? (i := 1433) (by decide +kernel)⟩
theorem lw_p104 : lw_okq (⟨"GentleLettersModel", "readLine", "()V"⟩, 29) := ⟨⟨by decide +kernel, by decide +kernel⟩, List.mem_of_getElem? (i := 1297) (by decide +kernel), List.mem_of_getElem? (i := 1436) (by decide +kernel), List.mem_of_getElem? (i := 1437) (by decide +kernel)⟩
theorem lw_p105 : lw_okq (⟨"GentleLettersModel", "readFirst", "()V"⟩, 29) := ⟨⟨by decide +kernel, by decide +kernel⟩, List.mem_of_getElem? (i := 1297) (by decide +kernel), List.mem_of_getElem? (i := 1440) (by decide +kernel), List.mem_of_getElem? (i := 1441) (by decide +kernel)⟩
theorem lw_p106 : lw_okq (⟨"GentleLettersModel", "needs", "(Ljava/lang/String;)V"⟩, 29) := ⟨⟨by decide +kernel, by decide +kernel⟩, List.mem_of_getElem? (i := 1297) (by decide +kernel), List.mem_of_getElem? (i := 1445) (by decide +kernel), List.mem_of_getElem? (i := 1446) (by decide +kernel)⟩
theorem lw_p107 : lw_okq (⟨"GentleLettersModel", "takes", "(Ljava/lang/String;)Z"⟩, 29) := ⟨⟨by decide +kernel, by decide +kernel⟩, List.mem_of_getElem? (i := 1297) (by decide +kernel), List.mem_of_getElem? (i := 1449) (by decide +kernel), List.mem_of_getElem? (i := 1450) (by decide +kernel)⟩
theorem lw_p108 : lw_okq (⟨"GentleLettersModel", "is", "(Ljava/lang/String;)Z"⟩, 29) := ⟨⟨by decide +kernel, by decide +kernel⟩, List.mem_of_getElem? (i := 1297) (by decide +kernel), List.mem_of_getElem? (i := 1453) (by decide +kernel), List.mem_of_getElem? (i := 1454) (by decide +kernel)⟩
theorem lw_p109 : lw_okq (⟨"GentleLettersModel", "errs", "(I)V"⟩, 29) := ⟨⟨by decide +kernel, by decide +kernel⟩, List.mem_of_getElem? (i := 1297) (by decide +kernel), List.mem_of_getElem? (i := 1459) (by decide +kernel), List.mem_of_getElem? (i := 1460) (by decide +kernel)⟩
theorem lw_p110 : lw_okq (⟨"GentleLettersModel", "told", "(Ljava/lang/String;II)I"⟩, 29) := ⟨⟨by decide +kernel, by decide +kernel⟩, List.mem_of_getElem? (i := 1297) (by decide +kernel), List.mem_of_getElem? (i := 1464) (by decide +kernel), List.mem_of_getElem? (i := 1465) (by decide +kernel)⟩
theorem lw_p111 : lw_okq (⟨"GentleLettersModel", "number", "(II)I"⟩, 29) := ⟨⟨by decide +kernel, by decide +kernel⟩, List.mem_of_getElem? (i := 1297) (by decide +kernel), List.mem_of_getElem? (i := 1468) (by decide +kernel), List.mem_of_getElem? (i := 1469) (by decide +kernel)⟩
def lw_privs_7 : List (MethodName × Nat) := [(⟨"GentleLetters$Week", "fillDays", "(LGentleLetters$Desk;)V"⟩, 10), (⟨"GentleLetters", "countRows", "()I"⟩, 11), (⟨"GentleLetters$Row", "begin", "(II)V"⟩, 4), (⟨"GentleLetters$Row", "cut", "(J)J"⟩, 4), (⟨"GentleLetters$Row", "holds", "(II)Z"⟩, 4), (⟨"GentleLettersModel", "advance", "()V"⟩, 29), (⟨"GentleLettersModel", "see", "(I)I"⟩, 29), (⟨"GentleLettersModel", "good", "()Z"⟩, 29), (⟨"GentleLettersModel", "readLine", "()V"⟩, 29), (⟨"GentleLettersModel", "readFirst", "()V"⟩, 29), (⟨"GentleLettersModel", "needs", "(Ljava/lang/String;)V"⟩, 29), (⟨"GentleLettersModel", "takes", "(Ljava/lang/String;)Z"⟩, 29), (⟨"GentleLettersModel", "is", "(Ljava/lang/String;)Z"⟩, 29), (⟨"GentleLettersModel", "errs", "(I)V"⟩, 29), (⟨"GentleLettersModel", "told", "(Ljava/lang/String;II)I"⟩, 29), (⟨"GentleLettersModel", "number", "(II)I"⟩, 29)]
theorem lw_r7 : ∀ q ∈ lw_privs_7, lw_okq q := List.forall_mem_cons.mpr ⟨lw_p96, List.forall_mem_cons.mpr ⟨lw_p97, List.forall_mem_cons.mpr ⟨lw_p98, List.forall_mem_cons.mpr ⟨lw_p99, List.forall_mem_cons.mpr ⟨lw_p100, List.forall_mem_cons.mpr ⟨lw_p101, List.forall_mem_cons.mpr ⟨lw_p102, List.forall_mem_cons.mpr ⟨lw_p103, List.forall_mem_cons.mpr ⟨lw_p104, List.forall_mem_cons.mpr ⟨lw_p105, List.forall_mem_cons.mpr ⟨lw_p106, List.forall_mem_cons.mpr ⟨lw_p107, List.forall_mem_cons.mpr ⟨lw_p108, List.forall_mem_cons.mpr ⟨lw_p109, List.forall_mem_cons.mpr ⟨lw_p110, List.forall_mem_cons.mpr ⟨lw_p111, fun _ h => absurd h List.not_mem_nil⟩⟩⟩⟩⟩⟩⟩⟩⟩⟩⟩⟩⟩⟩⟩⟩
theorem lw_p112 : lw_okq (⟨"GentleLettersModel", "freshState", "()I"⟩, 29) := ⟨⟨by decide +kernel, by decide +kernel⟩, List.mem_of_getElem? (i := 1297) (by decide +kernel), List.mem_of_getElem? (i := 1473) (by decide +kernel), List.mem_of_getElem? (i := 1474) (by decide +kernel)⟩
theorem lw_p113 : lw_okq (⟨"GentleLettersModel", "readNext", "()V"⟩, 29) := ⟨⟨by decide +kernel, by decide +kernel⟩, List.mem_of_getElem? (i := 1297) (by decide +kernel), List.mem_of_getElem? (i := 1480) (by decide +kernel), List.mem_of_getElem? (i := 1481) (by decide +kernel)⟩
theorem lw_p114 : lw_okq (⟨"GentleLettersModel", "readHearer", "()V"⟩, 29) := ⟨⟨by decide +kernel, by decide +kernel⟩, List.mem_of_getElem? (i := 1297) (by decide +kernel), List.mem_of_getElem? (i := 1490) (by decide +kernel), List.mem_of_getElem? (i := 1491) (by decide +kernel)⟩
theorem lw_p115 : lw_okq (⟨"GentleLettersModel", "readWord", "()V"⟩, 29) := ⟨⟨by decide +kernel, by decide +kernel⟩, List.mem_of_getElem? (i := 1297) (by decide +kernel), List.mem_of_getElem? (i := 1496) (by decide +kernel), List.mem_of_getElem? (i := 1497) (by decide +kernel)⟩
theorem lw_p116 : lw_okq (⟨"GentleLettersModel", "readPlan", "()V"⟩, 29) := ⟨⟨by decide +kernel, by decide +kernel⟩, List.mem_of_getElem? (i := 1297) (by decide +kernel), List.mem_of_getElem? (i := 1502) (by decide +kernel), List.mem_of_getElem? (i := 1503) (by decide +kernel)⟩
theorem lw_p117 : lw_okq (⟨"GentleLettersModel", "readNews", "()V"⟩, 29) := ⟨⟨by decide +kernel, by decide +kernel⟩, List.mem_of_getElem? (i := 1297) (by decide +kernel), List.mem_of_getElem? (i := 1506) (by decide +kernel), List.mem_of_getElem? (i := 1507) (by decide +kernel)⟩
theorem lw_p118 : lw_okq (⟨"GentleLettersModel", "readTells", "()V"⟩, 29) := ⟨⟨by decide +kernel, by decide +kernel⟩, List.mem_of_getElem? (i := 1297) (by decide +kernel), List.mem_of_getElem? (i := 1512) (by decide +kernel), List.mem_of_getElem? (i := 1513) (by decide +kernel)⟩
theorem lw_p119 : lw_okq (⟨"GentleLettersModel", "isState", "(I)Z"⟩, 29) := ⟨⟨by decide +kernel, by decide +kernel⟩, List.mem_of_getElem? (i := 1297) (by decide +kernel), List.mem_of_getElem? (i := 1520) (by decide +kernel), List.mem_of_getElem? (i := 1521) (by decide +kernel)⟩
theorem lw_p120 : lw_okq (⟨"GentleLettersModel", "isHearer", "(I)Z"⟩, 29) := ⟨⟨by decide +kernel, by decide +kernel⟩, List.mem_of_getElem? (i := 1297) (by decide +kernel), List.mem_of_getElem? (i := 1528) (by decide +kernel), List.mem_of_getElem? (i := 1529) (by decide +kernel)⟩
theorem lw_p121 : lw_okq (⟨"GentleLettersModel", "reckonsOf", "(I)I"⟩, 29) := ⟨⟨by decide +kernel, by decide +kernel⟩, List.mem_of_getElem? (i := 1297) (by decide +kernel), List.mem_of_getElem? (i := 1532) (by decide +kernel), List.mem_of_getElem? (i := 1533) (by decide +kernel)⟩
theorem lw_p122 : lw_okq (⟨"GentleLettersModel", "thinksOf", "(II)I"⟩, 29) := ⟨⟨by decide +kernel, by decide +kernel⟩, List.mem_of_getElem? (i := 1297) (by decide +kernel), List.mem_of_getElem? (i := 1536) (by decide +kernel), List.mem_of_getElem? (i := 1537) (by decide +kernel)⟩
theorem lw_p123 : lw_okq (⟨"GentleLettersModel", "isWord", "(J)Z"⟩, 29) := ⟨⟨by decide +kernel, by decide +kernel⟩, List.mem_of_getElem? (i := 1297) (by decide +kernel), List.mem_of_getElem? (i := 1544) (by decide +kernel), List.mem_of_getElem? (i := 1545) (by decide +kernel)⟩
theorem lw_p124 : lw_okq (⟨"GentleLettersModel", "isTrue", "(I)Z"⟩, 29) := ⟨⟨by decide +kernel, by decide +kernel⟩, List.mem_of_getElem? (i := 1297) (by decide +kernel), List.mem_of_getElem? (i := 1548) (by decide +kernel), List.mem_of_getElem? (i := 1549) (by decide +kernel)⟩
theorem lw_p125 : lw_okq (⟨"GentleLettersModel", "statesOf", "(I)I"⟩, 29) := ⟨⟨by decide +kernel, by decide +kernel⟩, List.mem_of_getElem? (i := 1297) (by decide +kernel), List.mem_of_getElem? (i := 1552) (by decide +kernel), List.mem_of_getElem? (i := 1553) (by decide +kernel)⟩
theorem lw_p126 : lw_okq (⟨"GentleLettersModel", "isPlan", "(I)Z"⟩, 29) := ⟨⟨by decide +kernel, by decide +kernel⟩, List.mem_of_getElem? (i := 1297) (by decide +kernel), List.mem_of_getElem? (i := 1563) (by decide +kernel), List.mem_of_getElem? (i := 1564) (by decide +kernel)⟩
theorem lw_p127 : lw_okq (⟨"GentleLettersModel", "planMany", "(I)I"⟩, 29) := ⟨⟨by decide +kernel, by decide +kernel⟩, List.mem_of_getElem? (i := 1297) (by decide +kernel), List.mem_of_getElem? (i := 1567) (by decide +kernel), List.mem_of_getElem? (i := 1568) (by decide +kernel)⟩
def lw_privs_8 : List (MethodName × Nat) := [(⟨"GentleLettersModel", "freshState", "()I"⟩, 29), (⟨"GentleLettersModel", "readNext", "()V"⟩, 29), (⟨"GentleLettersModel", "readHearer", "()V"⟩, 29), (⟨"GentleLettersModel", "readWord", "()V"⟩, 29), (⟨"GentleLettersModel", "readPlan", "()V"⟩, 29), (⟨"GentleLettersModel", "readNews", "()V"⟩, 29), (⟨"GentleLettersModel", "readTells", "()V"⟩, 29), (⟨"GentleLettersModel", "isState", "(I)Z"⟩, 29), (⟨"GentleLettersModel", "isHearer", "(I)Z"⟩, 29), (⟨"GentleLettersModel", "reckonsOf", "(I)I"⟩, 29), (⟨"GentleLettersModel", "thinksOf", "(II)I"⟩, 29), (⟨"GentleLettersModel", "isWord", "(J)Z"⟩, 29), (⟨"GentleLettersModel", "isTrue", "(I)Z"⟩, 29), (⟨"GentleLettersModel", "statesOf", "(I)I"⟩, 29), (⟨"GentleLettersModel", "isPlan", "(I)Z"⟩, 29), (⟨"GentleLettersModel", "planMany", "(I)I"⟩, 29)]
theorem lw_r8 : ∀ q ∈ lw_privs_8, lw_okq q := List.forall_mem_cons.mpr ⟨lw_p112, List.forall_mem_cons.mpr ⟨lw_p113, List.forall_mem_cons.mpr ⟨lw_p114, List.forall_mem_cons.mpr ⟨lw_p115, List.forall_mem_cons.mpr ⟨lw_p116, List.forall_mem_cons.mpr ⟨lw_p117, List.forall_mem_cons.mpr ⟨lw_p118, List.forall_mem_cons.mpr ⟨lw_p119, List.forall_mem_cons.mpr ⟨lw_p120, List.forall_mem_cons.mpr ⟨lw_p121, List.forall_mem_cons.mpr ⟨lw_p122, List.forall_mem_cons.mpr ⟨lw_p123, List.forall_mem_cons.mpr ⟨lw_p124, List.forall_mem_cons.mpr ⟨lw_p125, List.forall_mem_cons.mpr ⟨lw_p126, List.forall_mem_cons.mpr ⟨lw_p127, fun _ h => absurd h List.not_mem_nil⟩⟩⟩⟩⟩⟩⟩⟩⟩⟩⟩⟩⟩⟩⟩⟩
theorem lw_p128 : lw_okq (⟨"GentleLettersModel", "planWord", "(II)I"⟩, 29) := ⟨⟨by decide +kernel, by decide +kernel⟩, List.mem_of_getElem? (i := 1297) (by decide +kernel), List.mem_of_getElem? (i := 1571) (by decide +kernel), List.mem_of_getElem? (i := 1572) (by decide +kernel)⟩
theorem lw_p129 : lw_okq (⟨"GentleLettersModel", "isBelief", "(I)Z"⟩, 29) := ⟨⟨by decide +kernel, by decide +kernel⟩, List.mem_of_getElem? (i := 1297) (by decide +kernel), List.mem_of_getElem? (i := 1587) (by decide +kernel), List.mem_of_getElem? (i := 1588) (by decide +kernel)⟩
theorem lw_p130 : lw_okq (⟨"GentleLettersModel", "isDesk", "()Z"⟩, 29) := ⟨⟨by decide +kernel, by decide +kernel⟩, List.mem_of_getElem? (i := 1297) (by decide +kernel), List.mem_of_getElem? (i := 1591) (by decide +kernel), List.mem_of_getElem? (i := 1592) (by decide +kernel)⟩
theorem lw_p131 : lw_okq (⟨"GentleLettersModel", "allStates", "()I"⟩, 29) := ⟨⟨by decide +kernel, by decide +kernel⟩, List.mem_of_getElem? (i := 1297) (by decide +kernel), List.mem_of_getElem? (i := 1595) (by decide +kernel), List.mem_of_getElem? (i := 1596) (by decide +kernel)⟩
theorem lw_p132 : lw_okq (⟨"GentleLettersModel", "meanOf", "(II)I"⟩, 29) := ⟨⟨by decide +kernel, by decide +kernel⟩, List.mem_of_getElem? (i := 1297) (by decide +kernel), List.mem_of_getElem? (i := 1599) (by decide +kernel), List.mem_of_getElem? (i := 1600) (by decide +kernel)⟩
theorem lw_p133 : lw_okq (⟨"GentleLettersModel", "chanceOf", "(IIII)I"⟩, 29) := ⟨⟨by decide +kernel, by decide +kernel⟩, List.mem_of_getElem? (i := 1297) (by decide +kernel), List.mem_of_getElem? (i := 1610) (by decide +kernel), List.mem_of_getElem? (i := 1611) (by decide +kernel)⟩
theorem lw_p134 : lw_okq (⟨"GentleLettersModel", "isTold", "(J)Z"⟩, 29) := ⟨⟨by decide +kernel, by decide +kernel⟩, List.mem_of_getElem? (i := 1297) (by decide +kernel), List.mem_of_getElem? (i := 1624) (by decide +kernel), List.mem_of_getElem? (i := 1625) (by decide +kernel)⟩
theorem lw_p135 : lw_okq (⟨"GentleLettersModel", "behindOf", "(II)I"⟩, 29) := ⟨⟨by decide +kernel, by decide +kernel⟩, List.mem_of_getElem? (i := 1297) (by decide +kernel), List.mem_of_getElem? (i := 1629) (by decide +kernel), List.mem_of_getElem? (i := 1630) (by decide +kernel)⟩
theorem lw_p136 : lw_okq (⟨"GentleLettersModel", "hurtOf", "(III)I"⟩, 29) := ⟨⟨by decide +kernel, by decide +kernel⟩, List.mem_of_getElem? (i := 1297) (by decide +kernel), List.mem_of_getElem? (i := 1637) (by decide +kernel), List.mem_of_getElem? (i := 1638) (by decide +kernel)⟩
theorem lw_p137 : lw_okq (⟨"GentleLettersModel", "rise", "(III)I"⟩, 29) := ⟨⟨by decide +kernel, by decide +kernel⟩, List.mem_of_getElem? (i := 1297) (by decide +kernel), List.mem_of_getElem? (i := 1641) (by decide +kernel), List.mem_of_getElem? (i := 1642) (by decide +kernel)⟩
theorem lw_p138 : lw_okq (⟨"GentleLettersModel", "asksWeek", "(IZ)I"⟩, 29) := ⟨⟨by decide +kernel, by decide +kernel⟩, List.mem_of_getElem? (i := 1297) (by decide +kernel), List.mem_of_getElem? (i := 1653) (by decide +kernel), List.mem_of_getElem? (i := 1654) (by decide +kernel)⟩
theorem lw_p139 : lw_okq (⟨"GentleLettersModel", "numberAt", "(II)J"⟩, 29) := ⟨⟨by decide +kernel, by decide +kernel⟩, List.mem_of_getElem? (i := 1297) (by decide +kernel), List.mem_of_getElem? (i := 1661) (by decide +kernel), List.mem_of_getElem? (i := 1662) (by decide +kernel)⟩
theorem lw_p140 : lw_okq (⟨"GentleLettersModel", "toldAt", "(II)I"⟩, 29) := ⟨⟨by decide +kernel, by decide +kernel⟩, List.mem_of_getElem? (i := 1297) (by decide +kernel), List.mem_of_getElem? (i := 1665) (by decide +kernel), List.mem_of_getElem? (i := 1666) (by decide +kernel)⟩
theorem lw_p141 : lw_okq (⟨"GentleLettersModel", "weekOf", "(III)I"⟩, 29) := ⟨⟨by decide +kernel, by decide +kernel⟩, List.mem_of_getElem? (i := 1297) (by decide +kernel), List.mem_of_getElem? (i := 1673) (by decide +kernel), List.mem_of_getElem? (i := 1674) (by decide +kernel)⟩
theorem lw_p142 : lw_okq (⟨"GentleLettersModel", "leftOf", "(III)I"⟩, 29) := ⟨⟨by decide +kernel, by decide +kernel⟩, List.mem_of_getElem? (i := 1297) (by decide +kernel), List.mem_of_getElem? (i := 1678) (by decide +kernel), List.mem_of_getElem? (i := 1679) (by decide +kernel)⟩
theorem lw_p143 : lw_okq (⟨"GentleLettersModel", "shameOf", "(I)I"⟩, 29) := ⟨⟨by decide +kernel, by decide +kernel⟩, List.mem_of_getElem? (i := 1297) (by decide +kernel), List.mem_of_getElem? (i := 1699) (by decide +kernel), List.mem_of_getElem? (i := 1700) (by decide +kernel)⟩
def lw_privs_9 : List (MethodName × Nat) := [(⟨"GentleLettersModel", "planWord", "(II)I"⟩, 29), (⟨"GentleLettersModel", "isBelief", "(I)Z"⟩, 29), (⟨"GentleLettersModel", "isDesk", "()Z"⟩, 29), (⟨"GentleLettersModel", "allStates", "()I"⟩, 29), (⟨"GentleLettersModel", "meanOf", "(II)I"⟩, 29), (⟨"GentleLettersModel", "chanceOf", "(IIII)I"⟩, 29), (⟨"GentleLettersModel", "isTold", "(J)Z"⟩, 29), (⟨"GentleLettersModel", "behindOf", "(II)I"⟩, 29), (⟨"GentleLettersModel", "hurtOf", "(III)I"⟩, 29), (⟨"GentleLettersModel", "rise", "(III)I"⟩, 29), (⟨"GentleLettersModel", "asksWeek", "(IZ)I"⟩, 29), (⟨"GentleLettersModel", "numberAt", "(II)J"⟩, 29), (⟨"GentleLettersModel", "toldAt", "(II)I"⟩, 29), (⟨"GentleLettersModel", "weekOf", "(III)I"⟩, 29), (⟨"GentleLettersModel", "leftOf", "(III)I"⟩, 29), (⟨"GentleLettersModel", "shameOf", "(I)I"⟩, 29)]
theorem lw_r9 : ∀ q ∈ lw_privs_9, lw_okq q := List.forall_mem_cons.mpr ⟨lw_p128, List.forall_mem_cons.mpr ⟨lw_p129, List.forall_mem_cons.mpr ⟨lw_p130, List.forall_mem_cons.mpr ⟨lw_p131, List.forall_mem_cons.mpr ⟨lw_p132, List.forall_mem_cons.mpr ⟨lw_p133, List.forall_mem_cons.mpr ⟨lw_p134, List.forall_mem_cons.mpr ⟨lw_p135, List.forall_mem_cons.mpr ⟨lw_p136, List.forall_mem_cons.mpr ⟨lw_p137, List.forall_mem_cons.mpr ⟨lw_p138, List.forall_mem_cons.mpr ⟨lw_p139, List.forall_mem_cons.mpr ⟨lw_p140, List.forall_mem_cons.mpr ⟨lw_p141, List.forall_mem_cons.mpr ⟨lw_p142, List.forall_mem_cons.mpr ⟨lw_p143, fun _ h => absurd h List.not_mem_nil⟩⟩⟩⟩⟩⟩⟩⟩⟩⟩⟩⟩⟩⟩⟩⟩
theorem lw_p144 : lw_okq (⟨"GentleLettersModel", "reallySet", "()I"⟩, 29) := ⟨⟨by decide +kernel, by decide +kernel⟩, List.mem_of_getElem? (i := 1297) (by decide +kernel), List.mem_of_getElem? (i := 1707) (by decide +kernel), List.mem_of_getElem? (i := 1708) (by decide +kernel)⟩
theorem lw_p145 : lw_okq (⟨"GentleLettersModel", "weekBy", "(II)I"⟩, 29) := ⟨⟨by decide +kernel, by decide +kernel⟩, List.mem_of_getElem? (i := 1297) (by decide +kernel), List.mem_of_getElem? (i := 1715) (by decide +kernel), List.mem_of_getElem? (i := 1716) (by decide +kernel)⟩
theorem lw_p146 : lw_okq (⟨"GentleLettersModel", "fill", "(III)V"⟩, 29) := ⟨⟨by decide +kernel, by decide +kernel⟩, List.mem_of_getElem? (i := 1297) (by decide +kernel), List.mem_of_getElem? (i := 1719) (by decide +kernel), List.mem_of_getElem? (i := 1720) (by decide +kernel)⟩
theorem lw_p147 : lw_okq (⟨"GentleLettersModel", "bestWord", "(II)I"⟩, 29) := ⟨⟨by decide +kernel, by decide +kernel⟩, List.mem_of_getElem? (i := 1297) (by decide +kernel), List.mem_of_getElem? (i := 1725) (by decide +kernel), List.mem_of_getElem? (i := 1726) (by decide +kernel)⟩
theorem lw_p148 : lw_okq (⟨"GentleLettersModel", "by", "(III)I"⟩, 29) := ⟨⟨by decide +kernel, by decide +kernel⟩, List.mem_of_getElem? (i := 1297) (by decide +kernel), List.mem_of_getElem? (i := 1729) (by decide +kernel), List.mem_of_getElem? (i := 1730) (by decide +kernel)⟩
theorem lw_p149 : lw_okq (⟨"GentleLettersModel", "mixed", "(II)I"⟩, 29) := ⟨⟨by decide +kernel, by decide +kernel⟩, List.mem_of_getElem? (i := 1297) (by decide +kernel), List.mem_of_getElem? (i := 1733) (by decide +kernel), List.mem_of_getElem? (i := 1734) (by decide +kernel)⟩
theorem lw_p150 : lw_okq (⟨"GentleLettersModel", "isDay", "(I)Z"⟩, 29) := ⟨⟨by decide +kernel, by decide +kernel⟩, List.mem_of_getElem? (i := 1297) (by decide +kernel), List.mem_of_getElem? (i := 1741) (by decide +kernel), List.mem_of_getElem? (i := 1742) (by decide +kernel)⟩
theorem lw_p151 : lw_okq (⟨"GentleLettersModel", "wordBy", "(III)I"⟩, 29) := ⟨⟨by decide +kernel, by decide +kernel⟩, List.mem_of_getElem? (i := 1297) (by decide +kernel), List.mem_of_getElem? (i := 1745) (by decide +kernel), List.mem_of_getElem? (i := 1746) (by decide +kernel)⟩
theorem lw_p152 : lw_okq (⟨"GentleLettersModel", "wordWithin", "(III)I"⟩, 29) := ⟨⟨by decide +kernel, by decide +kernel⟩, List.mem_of_getElem? (i := 1297) (by decide +kernel), List.mem_of_getElem? (i := 1749) (by decide +kernel), List.mem_of_getElem? (i := 1750) (by decide +kernel)⟩
theorem lw_p153 : lw_okq (⟨"GentleLettersModel", "asksOrder", "(II)I"⟩, 29) := ⟨⟨by decide +kernel, by decide +kernel⟩, List.mem_of_getElem? (i := 1297) (by decide +kernel), List.mem_of_getElem? (i := 1821) (by decide +kernel), List.mem_of_getElem? (i := 1822) (by decide +kernel)⟩
theorem lw_p154 : lw_okq (⟨"GentleLettersModel", "findOrder", "(II)V"⟩, 29) := ⟨⟨by decide +kernel, by decide +kernel⟩, List.mem_of_getElem? (i := 1297) (by decide +kernel), List.mem_of_getElem? (i := 1825) (by decide +kernel), List.mem_of_getElem? (i := 1826) (by decide +kernel)⟩
theorem lw_p155 : lw_okq (⟨"GentleLettersModel", "leftInOrder", "(II)I"⟩, 29) := ⟨⟨by decide +kernel, by decide +kernel⟩, List.mem_of_getElem? (i := 1297) (by decide +kernel), List.mem_of_getElem? (i := 1829) (by decide +kernel), List.mem_of_getElem? (i := 1830) (by decide +kernel)⟩
theorem lw_p156 : lw_okq (⟨"GentleLettersModel", "nextOrder", "(I)Z"⟩, 29) := ⟨⟨by decide +kernel, by decide +kernel⟩, List.mem_of_getElem? (i := 1297) (by decide +kernel), List.mem_of_getElem? (i := 1833) (by decide +kernel), List.mem_of_getElem? (i := 1834) (by decide +kernel)⟩
theorem lw_p157 : lw_okq (⟨"GentleLettersModel", "swap", "(II)V"⟩, 29) := ⟨⟨by decide +kernel, by decide +kernel⟩, List.mem_of_getElem? (i := 1297) (by decide +kernel), List.mem_of_getElem? (i := 1837) (by decide +kernel), List.mem_of_getElem? (i := 1838) (by decide +kernel)⟩
theorem lw_p158 : lw_okq (⟨"GentleLettersModel", "soonOn", "(II)I"⟩, 29) := ⟨⟨by decide +kernel, by decide +kernel⟩, List.mem_of_getElem? (i := 1297) (by decide +kernel), List.mem_of_getElem? (i := 1870) (by decide +kernel), List.mem_of_getElem? (i := 1871) (by decide +kernel)⟩
theorem lw_p159 : lw_okq (⟨"GentleLettersModel", "suspectsOf", "(II)I"⟩, 29) := ⟨⟨by decide +kernel, by decide +kernel⟩, List.mem_of_getElem? (i := 1297) (by decide +kernel), List.mem_of_getElem? (i := 1878) (by decide +kernel), List.mem_of_getElem? (i := 1879) (by decide +kernel)⟩
def lw_privs_10 : List (MethodName × Nat) := [(⟨"GentleLettersModel", "reallySet", "()I"⟩, 29), (⟨"GentleLettersModel", "weekBy", "(II)I"⟩, 29), (⟨"GentleLettersModel", "fill", "(III)V"⟩, 29), (⟨"GentleLettersModel", "bestWord", "(II)I"⟩, 29), (⟨"GentleLettersModel", "by", "(III)I"⟩, 29), (⟨"GentleLettersModel", "mixed", "(II)I"⟩, 29), (⟨"GentleLettersModel", "isDay", "(I)Z"⟩, 29), (⟨"GentleLettersModel", "wordBy", "(III)I"⟩, 29), (⟨"GentleLettersModel", "wordWithin", "(III)I"⟩, 29), (⟨"GentleLettersModel", "asksOrder", "(II)I"⟩, 29), (⟨"GentleLettersModel", "findOrder", "(II)V"⟩, 29), (⟨"GentleLettersModel", "leftInOrder", "(II)I"⟩, 29), (⟨"GentleLettersModel", "nextOrder", "(I)Z"⟩, 29), (⟨"GentleLettersModel", "swap", "(II)V"⟩, 29), (⟨"GentleLettersModel", "soonOn", "(II)I"⟩, 29), (⟨"GentleLettersModel", "suspectsOf", "(II)I"⟩, 29)]
theorem lw_r10 : ∀ q ∈ lw_privs_10, lw_okq q := List.forall_mem_cons.mpr ⟨lw_p144, List.forall_mem_cons.mpr ⟨lw_p145, List.forall_mem_cons.mpr ⟨lw_p146, List.forall_mem_cons.mpr ⟨lw_p147, List.forall_mem_cons.mpr ⟨lw_p148, List.forall_mem_cons.mpr ⟨lw_p149, List.forall_mem_cons.mpr ⟨lw_p150, List.forall_mem_cons.mpr ⟨lw_p151, List.forall_mem_cons.mpr ⟨lw_p152, List.forall_mem_cons.mpr ⟨lw_p153, List.forall_mem_cons.mpr ⟨lw_p154, List.forall_mem_cons.mpr ⟨lw_p155, List.forall_mem_cons.mpr ⟨lw_p156, List.forall_mem_cons.mpr ⟨lw_p157, List.forall_mem_cons.mpr ⟨lw_p158, List.forall_mem_cons.mpr ⟨lw_p159, fun _ h => absurd h List.not_mem_nil⟩⟩⟩⟩⟩⟩⟩⟩⟩⟩⟩⟩⟩⟩⟩⟩
theorem lw_p160 : lw_okq (⟨"GentleLettersModel", "knewOf", "(II)I"⟩, 29) := ⟨⟨by decide +kernel, by decide +kernel⟩, List.mem_of_getElem? (i := 1297) (by decide +kernel), List.mem_of_getElem? (i := 1886) (by decide +kernel), List.mem_of_getElem? (i := 1887) (by decide +kernel)⟩
theorem lw_p161 : lw_okq (⟨"GentleLettersModel", "endOf", "(I)I"⟩, 29) := ⟨⟨by decide +kernel, by decide +kernel⟩, List.mem_of_getElem? (i := 1297) (by decide +kernel), List.mem_of_getElem? (i := 1894) (by decide +kernel), List.mem_of_getElem? (i := 1895) (by decide +kernel)⟩
theorem lw_p162 : lw_okq (⟨"GentleLettersModel", "areLetters", "(I)Z"⟩, 29) := ⟨⟨by decide +kernel, by decide +kernel⟩, List.mem_of_getElem? (i := 1297) (by decide +kernel), List.mem_of_getElem? (i := 1906) (by decide +kernel), List.mem_of_getElem? (i := 1907) (by decide +kernel)⟩
theorem lw_p163 : lw_okq (⟨"GentleLettersModel", "lettersOf", "(I)I"⟩, 29) := ⟨⟨by decide +kernel, by decide +kernel⟩, List.mem_of_getElem? (i := 1297) (by decide +kernel), List.mem_of_getElem? (i := 1911) (by decide +kernel), List.mem_of_getElem? (i := 1912) (by decide +kernel)⟩
theorem lw_p164 : lw_okq (⟨"GentleLettersModel", "joinedBy", "(I)I"⟩, 29) := ⟨⟨by decide +kernel, by decide +kernel⟩, List.mem_of_getElem? (i := 1297) (by decide +kernel), List.mem_of_getElem? (i := 1915) (by decide +kernel), List.mem_of_getElem? (i := 1916) (by decide +kernel)⟩
theorem lw_p165 : lw_okq (⟨"GentleLettersModel", "leftBy", "(I)I"⟩, 29) := ⟨⟨by decide +kernel, by decide +kernel⟩, List.mem_of_getElem? (i := 1297) (by decide +kernel), List.mem_of_getElem? (i := 1919) (by decide +kernel), List.mem_of_getElem? (i := 1920) (by decide +kernel)⟩
theorem lw_p166 : lw_okq (⟨"GentleLettersModel", "allHearers", "()I"⟩, 29) := ⟨⟨by decide +kernel, by decide +kernel⟩, List.mem_of_getElem? (i := 1297) (by decide +kernel), List.mem_of_getElem? (i := 1935) (by decide +kernel), List.mem_of_getElem? (i := 1936) (by decide +kernel)⟩
theorem lw_p167 : lw_okq (⟨"GentleLettersModel", "heardBy", "(II)I"⟩, 29) := ⟨⟨by decide +kernel, by decide +kernel⟩, List.mem_of_getElem? (i := 1297) (by decide +kernel), List.mem_of_getElem? (i := 1939) (by decide +kernel), List.mem_of_getElem? (i := 1940) (by decide +kernel)⟩
theorem lw_p168 : lw_okq (⟨"GentleLettersModel", "firstOf", "()I"⟩, 29) := ⟨⟨by decide +kernel, by decide +kernel⟩, List.mem_of_getElem? (i := 1297) (by decide +kernel), List.mem_of_getElem? (i := 1947) (by decide +kernel), List.mem_of_getElem? (i := 1948) (by decide +kernel)⟩
theorem lw_p169 : lw_okq (⟨"GentleLettersModel", "readOf", "(I)I"⟩, 29) := ⟨⟨by decide +kernel, by decide +kernel⟩, List.mem_of_getElem? (i := 1297) (by decide +kernel), List.mem_of_getElem? (i := 1959) (by decide +kernel), List.mem_of_getElem? (i := 1960) (by decide +kernel)⟩
theorem lw_p170 : lw_okq (⟨"GentleLettersModel", "change", "(II)I"⟩, 29) := ⟨⟨by decide +kernel, by decide +kernel⟩, List.mem_of_getElem? (i := 1297) (by decide +kernel), List.mem_of_getElem? (i := 1972) (by decide +kernel), List.mem_of_getElem? (i := 1973) (by decide +kernel)⟩
theorem lw_p171 : lw_okq (⟨"GentleLettersModel", "leakBy", "(J)I"⟩, 29) := ⟨⟨by decide +kernel, by decide +kernel⟩, List.mem_of_getElem? (i := 1297) (by decide +kernel), List.mem_of_getElem? (i := 1997) (by decide +kernel), List.mem_of_getElem? (i := 1998) (by decide +kernel)⟩
def lw_privs_11 : List (MethodName × Nat) := [(⟨"GentleLettersModel", "knewOf", "(II)I"⟩, 29), (⟨"GentleLettersModel", "endOf", "(I)I"⟩, 29), (⟨"GentleLettersModel", "areLetters", "(I)Z"⟩, 29), (⟨"GentleLettersModel", "lettersOf", "(I)I"⟩, 29), (⟨"GentleLettersModel", "joinedBy", "(I)I"⟩, 29), (⟨"GentleLettersModel", "leftBy", "(I)I"⟩, 29), (⟨"GentleLettersModel", "allHearers", "()I"⟩, 29), (⟨"GentleLettersModel", "heardBy", "(II)I"⟩, 29), (⟨"GentleLettersModel", "firstOf", "()I"⟩, 29), (⟨"GentleLettersModel", "readOf", "(I)I"⟩, 29), (⟨"GentleLettersModel", "change", "(II)I"⟩, 29), (⟨"GentleLettersModel", "leakBy", "(J)I"⟩, 29)]
theorem lw_r11 : ∀ q ∈ lw_privs_11, lw_okq q := List.forall_mem_cons.mpr ⟨lw_p160, List.forall_mem_cons.mpr ⟨lw_p161, List.forall_mem_cons.mpr ⟨lw_p162, List.forall_mem_cons.mpr ⟨lw_p163, List.forall_mem_cons.mpr ⟨lw_p164, List.forall_mem_cons.mpr ⟨lw_p165, List.forall_mem_cons.mpr ⟨lw_p166, List.forall_mem_cons.mpr ⟨lw_p167, List.forall_mem_cons.mpr ⟨lw_p168, List.forall_mem_cons.mpr ⟨lw_p169, List.forall_mem_cons.mpr ⟨lw_p170, List.forall_mem_cons.mpr ⟨lw_p171, fun _ h => absurd h List.not_mem_nil⟩⟩⟩⟩⟩⟩⟩⟩⟩⟩⟩⟩
def lw_privs : List (MethodName × Nat) := lw_privs_1 ++ (lw_privs_2 ++ (lw_privs_3 ++ (lw_privs_4 ++ (lw_privs_5 ++ (lw_privs_6 ++ (lw_privs_7 ++ (lw_privs_8 ++ (lw_privs_9 ++ (lw_privs_10 ++ (lw_privs_11))))))))))
def lw_tbl : List Cond := k2_sels lw_privs ++ tables_1
theorem lw_privs_ok : ∀ q ∈ lw_privs, lw_okq q := by
  show ∀ q ∈ lw_privs_1 ++ (lw_privs_2 ++ (lw_privs_3 ++ (lw_privs_4 ++ (lw_privs_5 ++ (lw_privs_6 ++ (lw_privs_7 ++ (lw_privs_8 ++ (lw_privs_9 ++ (lw_privs_10 ++ (lw_privs_11)))))))))), lw_okq q
  exact List.forall_mem_append.mpr ⟨lw_r1, List.forall_mem_append.mpr ⟨lw_r2, List.forall_mem_append.mpr ⟨lw_r3, List.forall_mem_append.mpr ⟨lw_r4, List.forall_mem_append.mpr ⟨lw_r5, List.forall_mem_append.mpr ⟨lw_r6, List.forall_mem_append.mpr ⟨lw_r7, List.forall_mem_append.mpr ⟨lw_r8, List.forall_mem_append.mpr ⟨lw_r9, List.forall_mem_append.mpr ⟨lw_r10, lw_r11⟩⟩⟩⟩⟩⟩⟩⟩⟩⟩
-- ===== end of PART A; then your names; then what follows =====
end
section
/-! ===== BEGIN words of one list among another's, by their places ===== -/
theorem goodIn_r {big : List Cond} (ws : List Cond) (ps : List Nat) (hp : ws = ps.filterMap (fun i => big[i]?)) (h : ws.all goodWord = true) : GoodIn big ws := by
  intro w hw
  have h1 := List.all_eq_true.mp h w hw
  rw [hp] at hw
  obtain ⟨i, -, hi⟩ := List.mem_filterMap.mp hw
  have hm : w ∈ big := by first | exact List.mem_of_getElem? hi | exact List.getElem?_mem hi
  exact ⟨hm, good_of_word h1⟩
theorem goodIn_app {big a b : List Cond} (ha : GoodIn big a) (hb : GoodIn big b) : GoodIn big (a ++ b) := fun w h => (List.mem_append.mp h).elim (ha w) (hb w)
theorem goodIn_ca {big a b : List Cond} {c : Cond} (ha : GoodIn big (c :: a)) (hb : GoodIn big b) : GoodIn big (c :: (a ++ b)) := fun w h => (List.mem_cons.mp h).elim (fun e => ha w (List.mem_cons.mpr (Or.inl e))) (fun h => (List.mem_append.mp h).elim (fun h => ha w (List.mem_cons.mpr (Or.inr h))) (hb w))
theorem goodIn_sub {big ws : List Cond} (hm : ∀ w ∈ ws, w ∈ big) (h : ws.all goodWord = true) : GoodIn big ws := fun w hw => ⟨hm w hw, good_of_word (List.all_eq_true.mp h w hw)⟩
/-! ===== END ===== -/

/-! ===== BEGIN printed: names, fields, word lists, decode rows ===== -/
def RX0 : String := "GentleLetters$Desk"
def TX0 : u_T := fun k => match k with
  | 0 => ("GentleLetters$Desk", "states", "I", false)
  | 1 => ("GentleLetters$Desk", "really", "I", false)
  | 2 => ("GentleLetters$Desk", "days", "I", false)
  | 3 => ("GentleLetters$Desk", "heal", "I", false)
  | 4 => ("GentleLetters$Desk", "leak", "I", false)
  | 5 => ("GentleLetters$Desk", "lines", "I", false)
  | 6 => ("GentleLetters$Desk", "hearers", "I", false)
  | 7 => ("GentleLetters$Desk", "words", "I", false)
  | 8 => ("GentleLetters$Desk", "plans", "I", false)
  | 9 => ("GentleLetters$Desk", "news", "I", false)
  | 10 => ("GentleLetters$Desk", "grades", "[I", true)
  | 11 => ("GentleLetters$Desk", "thoughts", "[I", true)
  | 12 => ("GentleLetters$Desk", "reckonings", "[I", true)
  | 13 => ("GentleLetters$Desk", "told", "[I", true)
  | 14 => ("GentleLetters$Desk", "shames", "[I", true)
  | 15 => ("GentleLetters$Desk", "meanings", "[I", true)
  | 16 => ("GentleLetters$Desk", "planSizes", "[I", true)
  | 17 => ("GentleLetters$Desk", "planWords", "[I", true)
  | 18 => ("GentleLetters$Desk", "tidings", "[I", true)
  | _ => ("GentleLetters$Desk", "log", "LGentleLetters$Log;", true)
def tyX0 : Nat → FieldType := fun k => match k with
  | 0 => .int
  | 1 => .int
  | 2 => .int
  | 3 => .int
  | 4 => .int
  | 5 => .int
  | 6 => .int
  | 7 => .int
  | 8 => .int
  | 9 => .int
  | 10 => .array .int
  | 11 => .array .int
  | 12 => .array .int
  | 13 => .array .int
  | 14 => .array .int
  | 15 => .array .int
  | 16 => .array .int
  | 17 => .array .int
  | 18 => .array .int
  | _ => .object "GentleLetters$Log"
abbrev wsX00 : List Cond := u_ws RX0 TX0 20
theorem nmX0 : ∀ a, a < 20 → ∀ b, b < 20 → a ≠ b → (TX0 a).2.1 ≠ (TX0 b).2.1 := by decide +kernel
theorem tyX0_ok : ∀ k, k < 20 → parseFieldDescriptor (TX0 k).2.2.1 = some (tyX0 k) := by decide +kernel
abbrev cX0_init : ByteArray := prog_2_method_1_code
def yX0_init : MethodName := ⟨RX0, "<init>", "()V"⟩
abbrev cX0_clear : ByteArray := prog_2_method_2_code
def yX0_clear : MethodName := ⟨RX0, "clear", "()V"⟩
abbrev cX0_copyFrom : ByteArray := prog_2_method_3_code
def yX0_copyFrom : MethodName := ⟨RX0, "copyFrom", "(LGentleLetters$Desk;)V"⟩
abbrev cX0_stands : ByteArray := prog_2_method_4_code
def yX0_stands : MethodName := ⟨RX0, "stands", "()Z"⟩
abbrev cX0_hasState : ByteArray := prog_2_method_5_code
def yX0_hasState : MethodName := ⟨RX0, "hasState", "(I)Z"⟩
abbrev cX0_hasDay : ByteArray := prog_2_method_6_code
def yX0_hasDay : MethodName := ⟨RX0, "hasDay", "(I)Z"⟩
abbrev cX0_hasHearer : ByteArray := prog_2_method_7_code
def yX0_hasHearer : MethodName := ⟨RX0, "hasHearer", "(I)Z"⟩
abbrev cX0_hasWord : ByteArray := prog_2_method_8_code
def yX0_hasWord : MethodName := ⟨RX0, "hasWord", "(I)Z"⟩
abbrev cX0_canTell : ByteArray := prog_2_method_9_code
def yX0_canTell : MethodName := ⟨RX0, "canTell", "(I)Z"⟩
abbrev cX0_hasPlan : ByteArray := prog_2_method_10_code
def yX0_hasPlan : MethodName := ⟨RX0, "hasPlan", "(I)Z"⟩
abbrev cX0_hasNews : ByteArray := prog_2_method_11_code
def yX0_hasNews : MethodName := ⟨RX0, "hasNews", "(I)Z"⟩
abbrev cX0_hasBelief : ByteArray := prog_2_method_12_code
def yX0_hasBelief : MethodName := ⟨RX0, "hasBelief", "(I)Z"⟩
abbrev cX0_everything : ByteArray := prog_2_method_13_code
def yX0_everything : MethodName := ⟨RX0, "everything", "()I"⟩
abbrev cX0_everybody : ByteArray := prog_2_method_14_code
def yX0_everybody : MethodName := ⟨RX0, "everybody", "()I"⟩
abbrev cX0_truth : ByteArray := prog_2_method_15_code
def yX0_truth : MethodName := ⟨RX0, "truth", "()I"⟩
abbrev cX0_thoughtOf : ByteArray := prog_2_method_16_code
def yX0_thoughtOf : MethodName := ⟨RX0, "thoughtOf", "(II)I"⟩
abbrev cX0_isTrue : ByteArray := prog_2_method_17_code
def yX0_isTrue : MethodName := ⟨RX0, "isTrue", "(I)Z"⟩
abbrev cX0_shameOf : ByteArray := prog_2_method_18_code
def yX0_shameOf : MethodName := ⟨RX0, "shameOf", "(I)I"⟩
abbrev cX0_planWord : ByteArray := prog_2_method_19_code
def yX0_planWord : MethodName := ⟨RX0, "planWord", "(II)I"⟩
abbrev cX0_valueAt : ByteArray := prog_2_method_20_code
def yX0_valueAt : MethodName := ⟨RX0, "valueAt", "(II)I"⟩
abbrev cX0_put : ByteArray := prog_2_method_21_code
def yX0_put : MethodName := ⟨RX0, "put", "(III)V"⟩
abbrev cX0_meanOf : ByteArray := prog_2_method_22_code
def yX0_meanOf : MethodName := ⟨RX0, "meanOf", "(II)I"⟩
abbrev cX0_likelihood : ByteArray := prog_2_method_23_code
def yX0_likelihood : MethodName := ⟨RX0, "likelihood", "(IIII)I"⟩
abbrev cX0_commonDivisor : ByteArray := prog_2_method_24_code
def yX0_commonDivisor : MethodName := ⟨RX0, "commonDivisor", "(II)I"⟩
abbrev cX0_nextBelief : ByteArray := prog_2_method_25_code
def yX0_nextBelief : MethodName := ⟨RX0, "nextBelief", "(II)I"⟩
abbrev cX0_hurtBetween : ByteArray := prog_2_method_26_code
def yX0_hurtBetween : MethodName := ⟨RX0, "hurtBetween", "(III)I"⟩
abbrev cX0_hurtAtOnce : ByteArray := prog_2_method_27_code
def yX0_hurtAtOnce : MethodName := ⟨RX0, "hurtAtOnce", "(I)I"⟩
abbrev cX0_leftOf : ByteArray := prog_2_method_28_code
def yX0_leftOf : MethodName := ⟨RX0, "leftOf", "(II)I"⟩
abbrev cX0_inTheMean : ByteArray := prog_2_method_29_code
def yX0_inTheMean : MethodName := ⟨RX0, "inTheMean", "(II)I"⟩
abbrev cX0_costOfWaiting : ByteArray := prog_2_method_30_code
def yX0_costOfWaiting : MethodName := ⟨RX0, "costOfWaiting", "(II)I"⟩
abbrev cX0_sharpest : ByteArray := prog_2_method_31_code
def yX0_sharpest : MethodName := ⟨RX0, "sharpest", "(I)I"⟩
abbrev cX0_beliefBehindPlan : ByteArray := prog_2_method_32_code
def yX0_beliefBehindPlan : MethodName := ⟨RX0, "beliefBehindPlan", "(I)I"⟩
abbrev cX0_plansWith : ByteArray := prog_2_method_33_code
def yX0_plansWith : MethodName := ⟨RX0, "plansWith", "(III)I"⟩
abbrev cX0_knowingAfter : ByteArray := prog_2_method_34_code
def yX0_knowingAfter : MethodName := ⟨RX0, "knowingAfter", "(II)I"⟩
abbrev cX0_fewestToTell : ByteArray := prog_2_method_35_code
def yX0_fewestToTell : MethodName := ⟨RX0, "fewestToTell", "()I"⟩
abbrev cX0_drawLeak : ByteArray := prog_2_method_36_code
def yX0_drawLeak : MethodName := ⟨RX0, "drawLeak", "(I)I"⟩
def RX1 : String := "GentleLetters$DeskReader"
def TX1 : u_T := fun k => match k with
  | 0 => ("GentleLetters$DeskReader", "tape", "LGentleLetters$Tape;", true)
  | 1 => ("GentleLetters$DeskReader", "draft", "LGentleLetters$Desk;", true)
  | 2 => ("GentleLetters$DeskReader", "fault", "I", false)
  | 3 => ("GentleLetters$DeskReader", "place", "I", false)
  | _ => ("GentleLetters$DeskReader", "value", "I", false)
def tyX1 : Nat → FieldType := fun k => match k with
  | 0 => .object "GentleLetters$Tape"
  | 1 => .object "GentleLetters$Desk"
  | 2 => .int
  | 3 => .int
  | _ => .int
abbrev wsX10 : List Cond := u_ws RX1 TX1 5
theorem nmX1 : ∀ a, a < 5 → ∀ b, b < 5 → a ≠ b → (TX1 a).2.1 ≠ (TX1 b).2.1 := by decide +kernel
theorem tyX1_ok : ∀ k, k < 5 → parseFieldDescriptor (TX1 k).2.2.1 = some (tyX1 k) := by decide +kernel
abbrev cX1_init : ByteArray := prog_3_method_1_code
def yX1_init : MethodName := ⟨RX1, "<init>", "()V"⟩
abbrev cX1_readDesk : ByteArray := prog_3_method_2_code
def yX1_readDesk : MethodName := ⟨RX1, "readDesk", "()Z"⟩
abbrev cX1_blame : ByteArray := prog_3_method_3_code
def yX1_blame : MethodName := ⟨RX1, "blame", "(I)Z"⟩
abbrev cX1_takeWord : ByteArray := prog_3_method_4_code
def yX1_takeWord : MethodName := ⟨RX1, "takeWord", "(Ljava/lang/String;)Z"⟩
abbrev cX1_takeSemicolon : ByteArray := prog_3_method_5_code
def yX1_takeSemicolon : MethodName := ⟨RX1, "takeSemicolon", "()Z"⟩
abbrev cX1_findNumber : ByteArray := prog_3_method_6_code
def yX1_findNumber : MethodName := ⟨RX1, "findNumber", "(II)Z"⟩
abbrev cX1_takeNumber : ByteArray := prog_3_method_7_code
def yX1_takeNumber : MethodName := ⟨RX1, "takeNumber", "(II)Z"⟩
abbrev cX1_takeNamed : ByteArray := prog_3_method_8_code
def yX1_takeNamed : MethodName := ⟨RX1, "takeNamed", "(Ljava/lang/String;II)Z"⟩
abbrev cX1_readLine : ByteArray := prog_3_method_9_code
def yX1_readLine : MethodName := ⟨RX1, "readLine", "()Z"⟩
abbrev cX1_readHead : ByteArray := prog_3_method_10_code
def yX1_readHead : MethodName := ⟨RX1, "readHead", "()Z"⟩
abbrev cX1_readGrades : ByteArray := prog_3_method_11_code
def yX1_readGrades : MethodName := ⟨RX1, "readGrades", "()Z"⟩
abbrev cX1_readHearer : ByteArray := prog_3_method_12_code
def yX1_readHearer : MethodName := ⟨RX1, "readHearer", "()Z"⟩
abbrev cX1_readWord : ByteArray := prog_3_method_13_code
def yX1_readWord : MethodName := ⟨RX1, "readWord", "()Z"⟩
abbrev cX1_readPlan : ByteArray := prog_3_method_14_code
def yX1_readPlan : MethodName := ⟨RX1, "readPlan", "()Z"⟩
abbrev cX1_readNews : ByteArray := prog_3_method_15_code
def yX1_readNews : MethodName := ⟨RX1, "readNews", "()Z"⟩
abbrev cX1_readTells : ByteArray := prog_3_method_16_code
def yX1_readTells : MethodName := ⟨RX1, "readTells", "()Z"⟩
def RX2 : String := "GentleLetters$Letters"
def TX2 : u_T := fun k => match k with
  | 0 => ("GentleLetters$Letters", "sharedDays", "[I", true)
  | 1 => ("GentleLetters$Letters", "bestDays", "[I", true)
  | 2 => ("GentleLetters$Letters", "sums", "[I", true)
  | _ => ("GentleLetters$Letters", "least", "I", false)
def tyX2 : Nat → FieldType := fun k => match k with
  | 0 => .array .int
  | 1 => .array .int
  | 2 => .array .int
  | _ => .int
abbrev wsX20 : List Cond := u_ws RX2 TX2 4
theorem nmX2 : ∀ a, a < 4 → ∀ b, b < 4 → a ≠ b → (TX2 a).2.1 ≠ (TX2 b).2.1 := by decide +kernel
theorem tyX2_ok : ∀ k, k < 4 → parseFieldDescriptor (TX2 k).2.2.1 = some (tyX2 k) := by decide +kernel
abbrev cX2_init : ByteArray := prog_4_method_1_code
def yX2_init : MethodName := ⟨RX2, "<init>", "()V"⟩
abbrev cX2_share : ByteArray := prog_4_method_2_code
def yX2_share : MethodName := ⟨RX2, "share", "(LGentleLetters$Desk;I)V"⟩
abbrev cX2_leftByRow : ByteArray := prog_4_method_3_code
def yX2_leftByRow : MethodName := ⟨RX2, "leftByRow", "(LGentleLetters$Desk;I)I"⟩
abbrev cX2_nextRow : ByteArray := prog_4_method_4_code
def yX2_nextRow : MethodName := ⟨RX2, "nextRow", "(II)Z"⟩
def RX3 : String := "GentleLetters$Log"
def TX3 : u_T := fun k => match k with
  | 0 => ("GentleLetters$Log", "kinds", "[I", true)
  | 1 => ("GentleLetters$Log", "places", "[I", true)
  | 2 => ("GentleLetters$Log", "olds", "[I", true)
  | _ => ("GentleLetters$Log", "size", "I", false)
def tyX3 : Nat → FieldType := fun k => match k with
  | 0 => .array .int
  | 1 => .array .int
  | 2 => .array .int
  | _ => .int
abbrev wsX30 : List Cond := u_ws RX3 TX3 4
theorem nmX3 : ∀ a, a < 4 → ∀ b, b < 4 → a ≠ b → (TX3 a).2.1 ≠ (TX3 b).2.1 := by decide +kernel
theorem tyX3_ok : ∀ k, k < 4 → parseFieldDescriptor (TX3 k).2.2.1 = some (tyX3 k) := by decide +kernel
abbrev cX3_init : ByteArray := prog_5_method_1_code
def yX3_init : MethodName := ⟨RX3, "<init>", "()V"⟩
abbrev cX3_note : ByteArray := prog_5_method_2_code
def yX3_note : MethodName := ⟨RX3, "note", "(III)V"⟩
abbrev cX3_takeAll : ByteArray := prog_5_method_3_code
def yX3_takeAll : MethodName := ⟨RX3, "takeAll", "(LGentleLetters$Log;)V"⟩
def RX4 : String := "GentleLetters$Mind"
def TX4 : u_T := fun k => match k with
  | _ => ("GentleLetters$Mind", "means", "[I", true)
def tyX4 : Nat → FieldType := fun k => match k with
  | _ => .array .int
abbrev wsX40 : List Cond := u_ws RX4 TX4 1
theorem nmX4 : ∀ a, a < 1 → ∀ b, b < 1 → a ≠ b → (TX4 a).2.1 ≠ (TX4 b).2.1 := by decide +kernel
theorem tyX4_ok : ∀ k, k < 1 → parseFieldDescriptor (TX4 k).2.2.1 = some (tyX4 k) := by decide +kernel
abbrev cX4_init : ByteArray := prog_6_method_1_code
def yX4_init : MethodName := ⟨RX4, "<init>", "()V"⟩
abbrev cX4_study : ByteArray := prog_6_method_2_code
def yX4_study : MethodName := ⟨RX4, "study", "(LGentleLetters$Desk;I)V"⟩
abbrev cX4_pain : ByteArray := prog_6_method_3_code
def yX4_pain : MethodName := ⟨RX4, "pain", "(II)I"⟩
abbrev cX4_hurtOf : ByteArray := prog_6_method_4_code
def yX4_hurtOf : MethodName := ⟨RX4, "hurtOf", "(I)I"⟩
def RX5 : String := "GentleLetters$Planner"
def TX5 : u_T := fun k => match k with
  | 0 => ("GentleLetters$Planner", "table", "[I", true)
  | 1 => ("GentleLetters$Planner", "firstRow", "[I", true)
  | 2 => ("GentleLetters$Planner", "cost", "I", false)
  | 3 => ("GentleLetters$Planner", "gentle", "Z", false)
  | _ => ("GentleLetters$Planner", "honest", "Z", false)
def tyX5 : Nat → FieldType := fun k => match k with
  | 0 => .array .int
  | 1 => .array .int
  | 2 => .int
  | 3 => .boolean
  | _ => .boolean
abbrev wsX50 : List Cond := u_ws RX5 TX5 5
theorem nmX5 : ∀ a, a < 5 → ∀ b, b < 5 → a ≠ b → (TX5 a).2.1 ≠ (TX5 b).2.1 := by decide +kernel
theorem tyX5_ok : ∀ k, k < 5 → parseFieldDescriptor (TX5 k).2.2.1 = some (tyX5 k) := by decide +kernel
abbrev cX5_init : ByteArray := prog_7_method_1_code
def yX5_init : MethodName := ⟨RX5, "<init>", "()V"⟩
abbrev cX5_solve : ByteArray := prog_7_method_2_code
def yX5_solve : MethodName := ⟨RX5, "solve", "(LGentleLetters$Desk;LGentleLetters$Mind;LGentleLetters$Reach;ZZ)V"⟩
abbrev cX5_costWithDays : ByteArray := prog_7_method_3_code
def yX5_costWithDays : MethodName := ⟨RX5, "costWithDays", "(II)I"⟩
abbrev cX5_leastFrom : ByteArray := prog_7_method_4_code
def yX5_leastFrom : MethodName := ⟨RX5, "leastFrom", "(LGentleLetters$Desk;LGentleLetters$Mind;II)I"⟩
abbrev cX5_costBy : ByteArray := prog_7_method_5_code
def yX5_costBy : MethodName := ⟨RX5, "costBy", "(LGentleLetters$Desk;LGentleLetters$Mind;III)I"⟩
abbrev cX5_findFirstRow : ByteArray := prog_7_method_6_code
def yX5_findFirstRow : MethodName := ⟨RX5, "findFirstRow", "(LGentleLetters$Desk;LGentleLetters$Mind;)V"⟩
abbrev cX5_wordsUsed : ByteArray := prog_7_method_7_code
def yX5_wordsUsed : MethodName := ⟨RX5, "wordsUsed", "(I)I"⟩
def RX6 : String := "GentleLetters$Reach"
def TX6 : u_T := fun k => match k with
  | 0 => ("GentleLetters$Reach", "beliefs", "[I", true)
  | 1 => ("GentleLetters$Reach", "distances", "[I", true)
  | _ => ("GentleLetters$Reach", "size", "I", false)
def tyX6 : Nat → FieldType := fun k => match k with
  | 0 => .array .int
  | 1 => .array .int
  | _ => .int
abbrev wsX60 : List Cond := u_ws RX6 TX6 3
theorem nmX6 : ∀ a, a < 3 → ∀ b, b < 3 → a ≠ b → (TX6 a).2.1 ≠ (TX6 b).2.1 := by decide +kernel
theorem tyX6_ok : ∀ k, k < 3 → parseFieldDescriptor (TX6 k).2.2.1 = some (tyX6 k) := by decide +kernel
abbrev cX6_init : ByteArray := prog_8_method_1_code
def yX6_init : MethodName := ⟨RX6, "<init>", "()V"⟩
abbrev cX6_grow : ByteArray := prog_8_method_2_code
def yX6_grow : MethodName := ⟨RX6, "grow", "(LGentleLetters$Desk;I)V"⟩
abbrev cX6_add : ByteArray := prog_8_method_3_code
def yX6_add : MethodName := ⟨RX6, "add", "(II)V"⟩
def RX7 : String := "GentleLetters$Risks"
def TX7 : u_T := fun k => match k with
  | 0 => ("GentleLetters$Risks", "later", "[I", true)
  | 1 => ("GentleLetters$Risks", "fresh", "[I", true)
  | 2 => ("GentleLetters$Risks", "cost", "I", false)
  | _ => ("GentleLetters$Risks", "word", "I", false)
def tyX7 : Nat → FieldType := fun k => match k with
  | 0 => .array .int
  | 1 => .array .int
  | 2 => .int
  | _ => .int
abbrev wsX70 : List Cond := u_ws RX7 TX7 4
theorem nmX7 : ∀ a, a < 4 → ∀ b, b < 4 → a ≠ b → (TX7 a).2.1 ≠ (TX7 b).2.1 := by decide +kernel
theorem tyX7_ok : ∀ k, k < 4 → parseFieldDescriptor (TX7 k).2.2.1 = some (tyX7 k) := by decide +kernel
abbrev cX7_init : ByteArray := prog_9_method_1_code
def yX7_init : MethodName := ⟨RX7, "<init>", "()V"⟩
abbrev cX7_weigh : ByteArray := prog_9_method_2_code
def yX7_weigh : MethodName := ⟨RX7, "weigh", "(LGentleLetters$Desk;LGentleLetters$Mind;LGentleLetters$Reach;II)V"⟩
abbrev cX7_choose : ByteArray := prog_9_method_3_code
def yX7_choose : MethodName := ⟨RX7, "choose", "(LGentleLetters$Desk;LGentleLetters$Mind;II)V"⟩
def RX8 : String := "GentleLetters$Row"
def TX8 : u_T := fun k => match k with
  | 0 => ("GentleLetters$Row", "numbers", "[J", true)
  | 1 => ("GentleLetters$Row", "there", "Z", false)
  | 2 => ("GentleLetters$Row", "width", "I", false)
  | _ => ("GentleLetters$Row", "size", "I", false)
def tyX8 : Nat → FieldType := fun k => match k with
  | 0 => .array .long
  | 1 => .boolean
  | 2 => .int
  | _ => .int
abbrev wsX80 : List Cond := u_ws RX8 TX8 4
theorem nmX8 : ∀ a, a < 4 → ∀ b, b < 4 → a ≠ b → (TX8 a).2.1 ≠ (TX8 b).2.1 := by decide +kernel
theorem tyX8_ok : ∀ k, k < 4 → parseFieldDescriptor (TX8 k).2.2.1 = some (tyX8 k) := by decide +kernel
abbrev cX8_init : ByteArray := prog_10_method_1_code
def yX8_init : MethodName := ⟨RX8, "<init>", "()V"⟩
abbrev cX8_begin : ByteArray := prog_10_method_2_code
def yX8_begin : MethodName := ⟨RX8, "begin", "(II)V"⟩
abbrev cX8_cut : ByteArray := prog_10_method_3_code
def yX8_cut : MethodName := ⟨RX8, "cut", "(J)J"⟩
abbrev cX8_holds : ByteArray := prog_10_method_4_code
def yX8_holds : MethodName := ⟨RX8, "holds", "(II)Z"⟩
def RX9 : String := "GentleLetters$Tape"
def TX9 : u_T := fun k => match k with
  | 0 => ("GentleLetters$Tape", "bytes", "[B", true)
  | 1 => ("GentleLetters$Tape", "size", "I", false)
  | 2 => ("GentleLetters$Tape", "kind", "I", false)
  | 3 => ("GentleLetters$Tape", "start", "I", false)
  | 4 => ("GentleLetters$Tape", "stop", "I", false)
  | _ => ("GentleLetters$Tape", "number", "I", false)
def tyX9 : Nat → FieldType := fun k => match k with
  | 0 => .array .byte
  | 1 => .int
  | 2 => .int
  | 3 => .int
  | 4 => .int
  | _ => .int
abbrev wsX90 : List Cond := u_ws RX9 TX9 6
theorem nmX9 : ∀ a, a < 6 → ∀ b, b < 6 → a ≠ b → (TX9 a).2.1 ≠ (TX9 b).2.1 := by decide +kernel
theorem tyX9_ok : ∀ k, k < 6 → parseFieldDescriptor (TX9 k).2.2.1 = some (tyX9 k) := by decide +kernel
abbrev cX9_init : ByteArray := prog_11_method_1_code
def yX9_init : MethodName := ⟨RX9, "<init>", "()V"⟩
abbrev cX9_put : ByteArray := prog_11_method_2_code
def yX9_put : MethodName := ⟨RX9, "put", "(I)V"⟩
abbrev cX9_rewind : ByteArray := prog_11_method_3_code
def yX9_rewind : MethodName := ⟨RX9, "rewind", "()V"⟩
abbrev cX9_advance : ByteArray := prog_11_method_4_code
def yX9_advance : MethodName := ⟨RX9, "advance", "()V"⟩
abbrev cX9_standsOn : ByteArray := prog_11_method_5_code
def yX9_standsOn : MethodName := ⟨RX9, "standsOn", "(Ljava/lang/String;)Z"⟩
abbrev cX9_kindOf : ByteArray := prog_11_method_6_code
def yX9_kindOf : MethodName := ⟨RX9, "kindOf", "(B)I"⟩
def RX10 : String := "GentleLetters$Week"
def TX10 : u_T := fun k => match k with
  | 0 => ("GentleLetters$Week", "words", "[I", true)
  | 1 => ("GentleLetters$Week", "beliefs", "[I", true)
  | 2 => ("GentleLetters$Week", "pains", "[I", true)
  | 3 => ("GentleLetters$Week", "order", "[I", true)
  | 4 => ("GentleLetters$Week", "bestOrder", "[I", true)
  | 5 => ("GentleLetters$Week", "size", "I", false)
  | 6 => ("GentleLetters$Week", "leastOrdered", "I", false)
  | 7 => ("GentleLetters$Week", "fitting", "I", false)
  | 8 => ("GentleLetters$Week", "knowingDay", "I", false)
  | _ => ("GentleLetters$Week", "knowingPlan", "I", false)
def tyX10 : Nat → FieldType := fun k => match k with
  | 0 => .array .int
  | 1 => .array .int
  | 2 => .array .int
  | 3 => .array .int
  | 4 => .array .int
  | 5 => .int
  | 6 => .int
  | 7 => .int
  | 8 => .int
  | _ => .int
abbrev wsX100 : List Cond := u_ws RX10 TX10 10
theorem nmX10 : ∀ a, a < 10 → ∀ b, b < 10 → a ≠ b → (TX10 a).2.1 ≠ (TX10 b).2.1 := by decide +kernel
theorem tyX10_ok : ∀ k, k < 10 → parseFieldDescriptor (TX10 k).2.2.1 = some (tyX10 k) := by decide +kernel
abbrev cX10_init : ByteArray := prog_12_method_1_code
def yX10_init : MethodName := ⟨RX10, "<init>", "()V"⟩
abbrev cX10_take : ByteArray := prog_12_method_2_code
def yX10_take : MethodName := ⟨RX10, "take", "(LGentleLetters$Row;LGentleLetters$Desk;)Z"⟩
abbrev cX10_believe : ByteArray := prog_12_method_3_code
def yX10_believe : MethodName := ⟨RX10, "believe", "(LGentleLetters$Desk;)V"⟩
abbrev cX10_overrule : ByteArray := prog_12_method_4_code
def yX10_overrule : MethodName := ⟨RX10, "overrule", "(II)V"⟩
abbrev cX10_fillDays : ByteArray := prog_12_method_5_code
def yX10_fillDays : MethodName := ⟨RX10, "fillDays", "(LGentleLetters$Desk;)V"⟩
abbrev cX10_feel : ByteArray := prog_12_method_6_code
def yX10_feel : MethodName := ⟨RX10, "feel", "(LGentleLetters$Desk;I)V"⟩
abbrev cX10_lastBelief : ByteArray := prog_12_method_7_code
def yX10_lastBelief : MethodName := ⟨RX10, "lastBelief", "(LGentleLetters$Desk;)I"⟩
abbrev cX10_sumOfHurts : ByteArray := prog_12_method_8_code
def yX10_sumOfHurts : MethodName := ⟨RX10, "sumOfHurts", "()I"⟩
abbrev cX10_greatestHurt : ByteArray := prog_12_method_9_code
def yX10_greatestHurt : MethodName := ⟨RX10, "greatestHurt", "()I"⟩
abbrev cX10_sumLeft : ByteArray := prog_12_method_10_code
def yX10_sumLeft : MethodName := ⟨RX10, "sumLeft", "(LGentleLetters$Desk;)I"⟩
abbrev cX10_firstLie : ByteArray := prog_12_method_11_code
def yX10_firstLie : MethodName := ⟨RX10, "firstLie", "(LGentleLetters$Desk;)I"⟩
abbrev cX10_sumOfShame : ByteArray := prog_12_method_12_code
def yX10_sumOfShame : MethodName := ⟨RX10, "sumOfShame", "(LGentleLetters$Desk;)I"⟩
abbrev cX10_knownFrom : ByteArray := prog_12_method_13_code
def yX10_knownFrom : MethodName := ⟨RX10, "knownFrom", "(I)I"⟩
abbrev cX10_statesMeant : ByteArray := prog_12_method_14_code
def yX10_statesMeant : MethodName := ⟨RX10, "statesMeant", "(LGentleLetters$Desk;)I"⟩
abbrev cX10_reckon : ByteArray := prog_12_method_15_code
def yX10_reckon : MethodName := ⟨RX10, "reckon", "(LGentleLetters$Desk;I)V"⟩
abbrev cX10_orderSoftly : ByteArray := prog_12_method_16_code
def yX10_orderSoftly : MethodName := ⟨RX10, "orderSoftly", "(LGentleLetters$Desk;LGentleLetters$Mind;)V"⟩
abbrev cX10_leftByOrder : ByteArray := prog_12_method_17_code
def yX10_leftByOrder : MethodName := ⟨RX10, "leftByOrder", "(LGentleLetters$Desk;LGentleLetters$Mind;)I"⟩
abbrev cX10_nextOrder : ByteArray := prog_12_method_18_code
def yX10_nextOrder : MethodName := ⟨RX10, "nextOrder", "()Z"⟩
abbrev cX10_swap : ByteArray := prog_12_method_19_code
def yX10_swap : MethodName := ⟨RX10, "swap", "(II)V"⟩
def RX11 : String := "GentleLetters"
def TX11 : u_T := fun k => match k with
  | 0 => ("GentleLetters", "reader", "LGentleLetters$DeskReader;", true)
  | 1 => ("GentleLetters", "desk", "LGentleLetters$Desk;", true)
  | 2 => ("GentleLetters", "images", "[LGentleLetters$Desk;", true)
  | 3 => ("GentleLetters", "imaged", "[Z", true)
  | 4 => ("GentleLetters", "rows", "[LGentleLetters$Row;", true)
  | 5 => ("GentleLetters", "week", "LGentleLetters$Week;", true)
  | 6 => ("GentleLetters", "mind", "LGentleLetters$Mind;", true)
  | 7 => ("GentleLetters", "reach", "LGentleLetters$Reach;", true)
  | 8 => ("GentleLetters", "planner", "LGentleLetters$Planner;", true)
  | 9 => ("GentleLetters", "risks", "LGentleLetters$Risks;", true)
  | _ => ("GentleLetters", "letters", "LGentleLetters$Letters;", true)
def tyX11 : Nat → FieldType := fun k => match k with
  | 0 => .object "GentleLetters$DeskReader"
  | 1 => .object "GentleLetters$Desk"
  | 2 => .array (.object "GentleLetters$Desk")
  | 3 => .array .boolean
  | 4 => .array (.object "GentleLetters$Row")
  | 5 => .object "GentleLetters$Week"
  | 6 => .object "GentleLetters$Mind"
  | 7 => .object "GentleLetters$Reach"
  | 8 => .object "GentleLetters$Planner"
  | 9 => .object "GentleLetters$Risks"
  | _ => .object "GentleLetters$Letters"
abbrev wsX110 : List Cond := u_ws RX11 TX11 11
theorem nmX11 : ∀ a, a < 11 → ∀ b, b < 11 → a ≠ b → (TX11 a).2.1 ≠ (TX11 b).2.1 := by decide +kernel
theorem tyX11_ok : ∀ k, k < 11 → parseFieldDescriptor (TX11 k).2.2.1 = some (tyX11 k) := by decide +kernel
abbrev cX11_init : ByteArray := prog_1_method_1_code
def yX11_init : MethodName := ⟨RX11, "<init>", "()V"⟩
abbrev cX11_feed : ByteArray := prog_1_method_2_code
def yX11_feed : MethodName := ⟨RX11, "feed", "(IIIII)I"⟩
abbrev cX11_end : ByteArray := prog_1_method_3_code
def yX11_end : MethodName := ⟨RX11, "end", "(I)I"⟩
abbrev cX11_desk : ByteArray := prog_1_method_4_code
def yX11_desk : MethodName := ⟨RX11, "desk", "()I"⟩
abbrev cX11_fault : ByteArray := prog_1_method_5_code
def yX11_fault : MethodName := ⟨RX11, "fault", "(I)I"⟩
abbrev cX11_grade : ByteArray := prog_1_method_6_code
def yX11_grade : MethodName := ⟨RX11, "grade", "(I)I"⟩
abbrev cX11_thinks : ByteArray := prog_1_method_7_code
def yX11_thinks : MethodName := ⟨RX11, "thinks", "(II)I"⟩
abbrev cX11_word : ByteArray := prog_1_method_8_code
def yX11_word : MethodName := ⟨RX11, "word", "(II)I"⟩
abbrev cX11_plan : ByteArray := prog_1_method_9_code
def yX11_plan : MethodName := ⟨RX11, "plan", "(II)I"⟩
abbrev cX11_news : ByteArray := prog_1_method_10_code
def yX11_news : MethodName := ⟨RX11, "news", "(I)I"⟩
abbrev cX11_tells : ByteArray := prog_1_method_11_code
def yX11_tells : MethodName := ⟨RX11, "tells", "(I)I"⟩
abbrev cX11_mean : ByteArray := prog_1_method_12_code
def yX11_mean : MethodName := ⟨RX11, "mean", "(II)I"⟩
abbrev cX11_chance : ByteArray := prog_1_method_13_code
def yX11_chance : MethodName := ⟨RX11, "chance", "(IIII)I"⟩
abbrev cX11_behind : ByteArray := prog_1_method_14_code
def yX11_behind : MethodName := ⟨RX11, "behind", "(II)I"⟩
abbrev cX11_hurt : ByteArray := prog_1_method_15_code
def yX11_hurt : MethodName := ⟨RX11, "hurt", "(III)I"⟩
abbrev cX11_softest : ByteArray := prog_1_method_16_code
def yX11_softest : MethodName := ⟨RX11, "softest", "(II)I"⟩
abbrev cX11_believes : ByteArray := prog_1_method_17_code
def yX11_believes : MethodName := ⟨RX11, "believes", "(I)I"⟩
abbrev cX11_hurts : ByteArray := prog_1_method_18_code
def yX11_hurts : MethodName := ⟨RX11, "hurts", "(II)I"⟩
abbrev cX11_worst : ByteArray := prog_1_method_19_code
def yX11_worst : MethodName := ⟨RX11, "worst", "(II)I"⟩
abbrev cX11_left : ByteArray := prog_1_method_20_code
def yX11_left : MethodName := ⟨RX11, "left", "(II)I"⟩
abbrev cX11_lies : ByteArray := prog_1_method_21_code
def yX11_lies : MethodName := ⟨RX11, "lies", "(I)I"⟩
abbrev cX11_shames : ByteArray := prog_1_method_22_code
def yX11_shames : MethodName := ⟨RX11, "shames", "(I)I"⟩
abbrev cX11_known : ByteArray := prog_1_method_23_code
def yX11_known : MethodName := ⟨RX11, "known", "(I)I"⟩
abbrev cX11_softer : ByteArray := prog_1_method_24_code
def yX11_softer : MethodName := ⟨RX11, "softer", "(II)I"⟩
abbrev cX11_ordered : ByteArray := prog_1_method_25_code
def yX11_ordered : MethodName := ⟨RX11, "ordered", "(III)I"⟩
abbrev cX11_rest : ByteArray := prog_1_method_26_code
def yX11_rest : MethodName := ⟨RX11, "rest", "(I)I"⟩
abbrev cX11_least : ByteArray := prog_1_method_27_code
def yX11_least : MethodName := ⟨RX11, "least", "(I)I"⟩
abbrev cX11_step : ByteArray := prog_1_method_28_code
def yX11_step : MethodName := ⟨RX11, "step", "(II)I"⟩
abbrev cX11_truly : ByteArray := prog_1_method_29_code
def yX11_truly : MethodName := ⟨RX11, "truly", "(I)I"⟩
abbrev cX11_honest : ByteArray := prog_1_method_30_code
def yX11_honest : MethodName := ⟨RX11, "honest", "(II)I"⟩
abbrev cX11_gentlest : ByteArray := prog_1_method_31_code
def yX11_gentlest : MethodName := ⟨RX11, "gentlest", "(I)I"⟩
abbrev cX11_gently : ByteArray := prog_1_method_32_code
def yX11_gently : MethodName := ⟨RX11, "gently", "(II)I"⟩
abbrev cX11_tender : ByteArray := prog_1_method_33_code
def yX11_tender : MethodName := ⟨RX11, "tender", "(I)I"⟩
abbrev cX11_tenderly : ByteArray := prog_1_method_34_code
def yX11_tenderly : MethodName := ⟨RX11, "tenderly", "(II)I"⟩
abbrev cX11_hope : ByteArray := prog_1_method_35_code
def yX11_hope : MethodName := ⟨RX11, "hope", "(IIII)I"⟩
abbrev cX11_fewest : ByteArray := prog_1_method_36_code
def yX11_fewest : MethodName := ⟨RX11, "fewest", "()I"⟩
abbrev cX11_once : ByteArray := prog_1_method_37_code
def yX11_once : MethodName := ⟨RX11, "once", "(I)I"⟩
abbrev cX11_late : ByteArray := prog_1_method_38_code
def yX11_late : MethodName := ⟨RX11, "late", "(II)I"⟩
abbrev cX11_calm : ByteArray := prog_1_method_39_code
def yX11_calm : MethodName := ⟨RX11, "calm", "(II)I"⟩
abbrev cX11_shock : ByteArray := prog_1_method_40_code
def yX11_shock : MethodName := ⟨RX11, "shock", "(I)I"⟩
abbrev cX11_unsaid : ByteArray := prog_1_method_41_code
def yX11_unsaid : MethodName := ⟨RX11, "unsaid", "()I"⟩
abbrev cX11_idle : ByteArray := prog_1_method_42_code
def yX11_idle : MethodName := ⟨RX11, "idle", "()I"⟩
abbrev cX11_enough : ByteArray := prog_1_method_43_code
def yX11_enough : MethodName := ⟨RX11, "enough", "(I)I"⟩
abbrev cX11_even : ByteArray := prog_1_method_44_code
def yX11_even : MethodName := ⟨RX11, "even", "(II)I"⟩
abbrev cX11_steps : ByteArray := prog_1_method_45_code
def yX11_steps : MethodName := ⟨RX11, "steps", "(II)I"⟩
abbrev cX11_risk : ByteArray := prog_1_method_46_code
def yX11_risk : MethodName := ⟨RX11, "risk", "(I)I"⟩
abbrev cX11_now : ByteArray := prog_1_method_47_code
def yX11_now : MethodName := ⟨RX11, "now", "(III)I"⟩
abbrev cX11_soon : ByteArray := prog_1_method_48_code
def yX11_soon : MethodName := ⟨RX11, "soon", "(II)I"⟩
abbrev cX11_suspects : ByteArray := prog_1_method_49_code
def yX11_suspects : MethodName := ⟨RX11, "suspects", "(I)I"⟩
abbrev cX11_knew : ByteArray := prog_1_method_50_code
def yX11_knew : MethodName := ⟨RX11, "knew", "(II)I"⟩
abbrev cX11_reckoned : ByteArray := prog_1_method_51_code
def yX11_reckoned : MethodName := ⟨RX11, "reckoned", "(II)I"⟩
abbrev cX11_ends : ByteArray := prog_1_method_52_code
def yX11_ends : MethodName := ⟨RX11, "ends", "(I)I"⟩
abbrev cX11_joined : ByteArray := prog_1_method_53_code
def yX11_joined : MethodName := ⟨RX11, "joined", "(I)I"⟩
abbrev cX11_letter : ByteArray := prog_1_method_54_code
def yX11_letter : MethodName := ⟨RX11, "letter", "(II)I"⟩
abbrev cX11_all : ByteArray := prog_1_method_55_code
def yX11_all : MethodName := ⟨RX11, "all", "()I"⟩
abbrev cX11_heard : ByteArray := prog_1_method_56_code
def yX11_heard : MethodName := ⟨RX11, "heard", "(II)I"⟩
abbrev cX11_whom : ByteArray := prog_1_method_57_code
def yX11_whom : MethodName := ⟨RX11, "whom", "()I"⟩
abbrev cX11_first : ByteArray := prog_1_method_58_code
def yX11_first : MethodName := ⟨RX11, "first", "()I"⟩
abbrev cX11_read : ByteArray := prog_1_method_59_code
def yX11_read : MethodName := ⟨RX11, "read", "(I)I"⟩
abbrev cX11_guess : ByteArray := prog_1_method_60_code
def yX11_guess : MethodName := ⟨RX11, "guess", "(II)I"⟩
abbrev cX11_worsen : ByteArray := prog_1_method_61_code
def yX11_worsen : MethodName := ⟨RX11, "worsen", "(II)I"⟩
abbrev cX11_really : ByteArray := prog_1_method_62_code
def yX11_really : MethodName := ⟨RX11, "really", "(I)I"⟩
abbrev cX11_doubt : ByteArray := prog_1_method_63_code
def yX11_doubt : MethodName := ⟨RX11, "doubt", "(III)I"⟩
abbrev cX11_undo : ByteArray := prog_1_method_64_code
def yX11_undo : MethodName := ⟨RX11, "undo", "()I"⟩
abbrev cX11_drawn : ByteArray := prog_1_method_65_code
def yX11_drawn : MethodName := ⟨RX11, "drawn", "(IIII)I"⟩
abbrev cX11_leaks : ByteArray := prog_1_method_66_code
def yX11_leaks : MethodName := ⟨RX11, "leaks", "(II)I"⟩
abbrev cX11_count : ByteArray := prog_1_method_67_code
def yX11_count : MethodName := ⟨RX11, "count", "(I)I"⟩
abbrev cX11_image : ByteArray := prog_1_method_68_code
def yX11_image : MethodName := ⟨RX11, "image", "(I)I"⟩
abbrev cX11_back : ByteArray := prog_1_method_69_code
def yX11_back : MethodName := ⟨RX11, "back", "(I)I"⟩
abbrev cX11_row : ByteArray := prog_1_method_70_code
def yX11_row : MethodName := ⟨RX11, "row", "(III)I"⟩
abbrev cX11_write : ByteArray := prog_1_method_71_code
def yX11_write : MethodName := ⟨RX11, "write", "(IIJ)I"⟩
abbrev cX11_paste : ByteArray := prog_1_method_72_code
def yX11_paste : MethodName := ⟨RX11, "paste", "(IIIII)I"⟩
abbrev cX11_isSlot : ByteArray := prog_1_method_73_code
def yX11_isSlot : MethodName := ⟨RX11, "isSlot", "(I)Z"⟩
abbrev cX11_rowOf : ByteArray := prog_1_method_74_code
def yX11_rowOf : MethodName := ⟨RX11, "rowOf", "(I)LGentleLetters$Row;"⟩
abbrev cX11_isSeed : ByteArray := prog_1_method_75_code
def yX11_isSeed : MethodName := ⟨RX11, "isSeed", "(I)Z"⟩
abbrev cX11_takeWeek : ByteArray := prog_1_method_76_code
def yX11_takeWeek : MethodName := ⟨RX11, "takeWeek", "(I)I"⟩
abbrev cX11_feelWeek : ByteArray := prog_1_method_77_code
def yX11_feelWeek : MethodName := ⟨RX11, "feelWeek", "(II)I"⟩
abbrev cX11_orderWeek : ByteArray := prog_1_method_78_code
def yX11_orderWeek : MethodName := ⟨RX11, "orderWeek", "(II)I"⟩
abbrev cX11_reckonWeek : ByteArray := prog_1_method_79_code
def yX11_reckonWeek : MethodName := ⟨RX11, "reckonWeek", "(II)I"⟩
abbrev cX11_leastCost : ByteArray := prog_1_method_80_code
def yX11_leastCost : MethodName := ⟨RX11, "leastCost", "(IZZ)I"⟩
abbrev cX11_wordOfBest : ByteArray := prog_1_method_81_code
def yX11_wordOfBest : MethodName := ⟨RX11, "wordOfBest", "(IIZZ)I"⟩
abbrev cX11_weighRisks : ByteArray := prog_1_method_82_code
def yX11_weighRisks : MethodName := ⟨RX11, "weighRisks", "(III)V"⟩
abbrev cX11_changeDesk : ByteArray := prog_1_method_83_code
def yX11_changeDesk : MethodName := ⟨RX11, "changeDesk", "(III)I"⟩
abbrev cX11_countRows : ByteArray := prog_1_method_84_code
def yX11_countRows : MethodName := ⟨RX11, "countRows", "()I"⟩
abbrev cX11_evenSquares : ByteArray := prog_1_method_85_code
def yX11_evenSquares : MethodName := ⟨RX11, "evenSquares", "(II)I"⟩
def RX12 : String := "GentleLettersModel"
def TX12 : u_T := fun k => match k with
  | 0 => ("GentleLettersModel", "thrown", "I", false)
  | 1 => ("GentleLettersModel", "world", "[I", true)
  | 2 => ("GentleLettersModel", "images", "[I", true)
  | 3 => ("GentleLettersModel", "hasImage", "[Z", true)
  | 4 => ("GentleLettersModel", "tape", "[B", true)
  | 5 => ("GentleLettersModel", "taped", "I", false)
  | 6 => ("GentleLettersModel", "five", "[I", true)
  | 7 => ("GentleLettersModel", "size", "I", false)
  | 8 => ("GentleLettersModel", "at", "I", false)
  | 9 => ("GentleLettersModel", "from", "I", false)
  | 10 => ("GentleLettersModel", "token", "I", false)
  | 11 => ("GentleLettersModel", "value", "I", false)
  | 12 => ("GentleLettersModel", "faultKind", "I", false)
  | 13 => ("GentleLettersModel", "faultPlace", "I", false)
  | 14 => ("GentleLettersModel", "fresh", "[I", true)
  | 15 => ("GentleLettersModel", "best", "[I", true)
  | 16 => ("GentleLettersModel", "goal", "I", false)
  | 17 => ("GentleLettersModel", "goalDays", "I", false)
  | 18 => ("GentleLettersModel", "goalHearer", "I", false)
  | 19 => ("GentleLettersModel", "order", "[I", true)
  | 20 => ("GentleLettersModel", "bestOrder", "[I", true)
  | 21 => ("GentleLettersModel", "leastOrder", "I", false)
  | 22 => ("GentleLettersModel", "wordsMany", "I", false)
  | 23 => ("GentleLettersModel", "letters", "[I", true)
  | 24 => ("GentleLettersModel", "bestLetters", "[I", true)
  | 25 => ("GentleLettersModel", "many", "[I", true)
  | 26 => ("GentleLettersModel", "width", "[I", true)
  | 27 => ("GentleLettersModel", "numbers", "[J", true)
  | _ => ("GentleLettersModel", "moving", "[J", true)
def tyX12 : Nat → FieldType := fun k => match k with
  | 0 => .int
  | 1 => .array .int
  | 2 => .array .int
  | 3 => .array .boolean
  | 4 => .array .byte
  | 5 => .int
  | 6 => .array .int
  | 7 => .int
  | 8 => .int
  | 9 => .int
  | 10 => .int
  | 11 => .int
  | 12 => .int
  | 13 => .int
  | 14 => .array .int
  | 15 => .array .int
  | 16 => .int
  | 17 => .int
  | 18 => .int
  | 19 => .array .int
  | 20 => .array .int
  | 21 => .int
  | 22 => .int
  | 23 => .array .int
  | 24 => .array .int
  | 25 => .array .int
  | 26 => .array .int
  | 27 => .array .long
  | _ => .array .long
abbrev wsX120 : List Cond := u_ws RX12 TX12 29
theorem nmX12 : ∀ a, a < 29 → ∀ b, b < 29 → a ≠ b → (TX12 a).2.1 ≠ (TX12 b).2.1 := by decide +kernel
theorem tyX12_ok : ∀ k, k < 29 → parseFieldDescriptor (TX12 k).2.2.1 = some (tyX12 k) := by decide +kernel
abbrev cX12_init : ByteArray := prog_14_method_1_code
def yX12_init : MethodName := ⟨RX12, "<init>", "()V"⟩
abbrev cX12_in : ByteArray := prog_14_method_3_code
def yX12_in : MethodName := ⟨RX12, "in", "(JJJ)Z"⟩
abbrev cX12_bits : ByteArray := prog_14_method_4_code
def yX12_bits : MethodName := ⟨RX12, "bits", "(I)I"⟩
abbrev cX12_bit : ByteArray := prog_14_method_5_code
def yX12_bit : MethodName := ⟨RX12, "bit", "(II)I"⟩
abbrev cX12_image : ByteArray := prog_14_method_6_code
def yX12_image : MethodName := ⟨RX12, "image", "(I)I"⟩
abbrev cX12_back : ByteArray := prog_14_method_7_code
def yX12_back : MethodName := ⟨RX12, "back", "(I)I"⟩
abbrev cX12_isDesk : ByteArray := prog_14_method_8_code
def yX12_isDesk : MethodName := ⟨RX12, "isDesk", "()Z"⟩
abbrev cX12_isState : ByteArray := prog_14_method_9_code
def yX12_isState : MethodName := ⟨RX12, "isState", "(I)Z"⟩
abbrev cX12_isHearer : ByteArray := prog_14_method_10_code
def yX12_isHearer : MethodName := ⟨RX12, "isHearer", "(I)Z"⟩
abbrev cX12_isWord : ByteArray := prog_14_method_11_code
def yX12_isWord : MethodName := ⟨RX12, "isWord", "(J)Z"⟩
abbrev cX12_isTold : ByteArray := prog_14_method_12_code
def yX12_isTold : MethodName := ⟨RX12, "isTold", "(J)Z"⟩
abbrev cX12_isDay : ByteArray := prog_14_method_13_code
def yX12_isDay : MethodName := ⟨RX12, "isDay", "(I)Z"⟩
abbrev cX12_allStates : ByteArray := prog_14_method_14_code
def yX12_allStates : MethodName := ⟨RX12, "allStates", "()I"⟩
abbrev cX12_isBelief : ByteArray := prog_14_method_15_code
def yX12_isBelief : MethodName := ⟨RX12, "isBelief", "(I)Z"⟩
abbrev cX12_thinksOf : ByteArray := prog_14_method_16_code
def yX12_thinksOf : MethodName := ⟨RX12, "thinksOf", "(II)I"⟩
abbrev cX12_reckonsOf : ByteArray := prog_14_method_17_code
def yX12_reckonsOf : MethodName := ⟨RX12, "reckonsOf", "(I)I"⟩
abbrev cX12_statesOf : ByteArray := prog_14_method_18_code
def yX12_statesOf : MethodName := ⟨RX12, "statesOf", "(I)I"⟩
abbrev cX12_isTrue : ByteArray := prog_14_method_19_code
def yX12_isTrue : MethodName := ⟨RX12, "isTrue", "(I)Z"⟩
abbrev cX12_shameOf : ByteArray := prog_14_method_20_code
def yX12_shameOf : MethodName := ⟨RX12, "shameOf", "(I)I"⟩
abbrev cX12_reallySet : ByteArray := prog_14_method_21_code
def yX12_reallySet : MethodName := ⟨RX12, "reallySet", "()I"⟩
abbrev cX12_feed : ByteArray := prog_14_method_22_code
def yX12_feed : MethodName := ⟨RX12, "feed", "(IIIII)I"⟩
abbrev cX12_end : ByteArray := prog_14_method_23_code
def yX12_end : MethodName := ⟨RX12, "end", "(I)I"⟩
abbrev cX12_see : ByteArray := prog_14_method_24_code
def yX12_see : MethodName := ⟨RX12, "see", "(I)I"⟩
abbrev cX12_advance : ByteArray := prog_14_method_25_code
def yX12_advance : MethodName := ⟨RX12, "advance", "()V"⟩
abbrev cX12_good : ByteArray := prog_14_method_26_code
def yX12_good : MethodName := ⟨RX12, "good", "()Z"⟩
abbrev cX12_errs : ByteArray := prog_14_method_27_code
def yX12_errs : MethodName := ⟨RX12, "errs", "(I)V"⟩
abbrev cX12_is : ByteArray := prog_14_method_28_code
def yX12_is : MethodName := ⟨RX12, "is", "(Ljava/lang/String;)Z"⟩
abbrev cX12_takes : ByteArray := prog_14_method_29_code
def yX12_takes : MethodName := ⟨RX12, "takes", "(Ljava/lang/String;)Z"⟩
abbrev cX12_needs : ByteArray := prog_14_method_30_code
def yX12_needs : MethodName := ⟨RX12, "needs", "(Ljava/lang/String;)V"⟩
abbrev cX12_number : ByteArray := prog_14_method_31_code
def yX12_number : MethodName := ⟨RX12, "number", "(II)I"⟩
abbrev cX12_told : ByteArray := prog_14_method_32_code
def yX12_told : MethodName := ⟨RX12, "told", "(Ljava/lang/String;II)I"⟩
abbrev cX12_fault : ByteArray := prog_14_method_33_code
def yX12_fault : MethodName := ⟨RX12, "fault", "(I)I"⟩
abbrev cX12_freshState : ByteArray := prog_14_method_34_code
def yX12_freshState : MethodName := ⟨RX12, "freshState", "()I"⟩
abbrev cX12_readFirst : ByteArray := prog_14_method_35_code
def yX12_readFirst : MethodName := ⟨RX12, "readFirst", "()V"⟩
abbrev cX12_readHearer : ByteArray := prog_14_method_36_code
def yX12_readHearer : MethodName := ⟨RX12, "readHearer", "()V"⟩
abbrev cX12_readWord : ByteArray := prog_14_method_37_code
def yX12_readWord : MethodName := ⟨RX12, "readWord", "()V"⟩
abbrev cX12_readPlan : ByteArray := prog_14_method_38_code
def yX12_readPlan : MethodName := ⟨RX12, "readPlan", "()V"⟩
abbrev cX12_readNews : ByteArray := prog_14_method_39_code
def yX12_readNews : MethodName := ⟨RX12, "readNews", "()V"⟩
abbrev cX12_readTells : ByteArray := prog_14_method_40_code
def yX12_readTells : MethodName := ⟨RX12, "readTells", "()V"⟩
abbrev cX12_readNext : ByteArray := prog_14_method_41_code
def yX12_readNext : MethodName := ⟨RX12, "readNext", "()V"⟩
abbrev cX12_readLine : ByteArray := prog_14_method_42_code
def yX12_readLine : MethodName := ⟨RX12, "readLine", "()V"⟩
abbrev cX12_desk : ByteArray := prog_14_method_43_code
def yX12_desk : MethodName := ⟨RX12, "desk", "()I"⟩
abbrev cX12_meanOf : ByteArray := prog_14_method_44_code
def yX12_meanOf : MethodName := ⟨RX12, "meanOf", "(II)I"⟩
abbrev cX12_behindOf : ByteArray := prog_14_method_45_code
def yX12_behindOf : MethodName := ⟨RX12, "behindOf", "(II)I"⟩
abbrev cX12_rise : ByteArray := prog_14_method_46_code
def yX12_rise : MethodName := ⟨RX12, "rise", "(III)I"⟩
abbrev cX12_hurtOf : ByteArray := prog_14_method_47_code
def yX12_hurtOf : MethodName := ⟨RX12, "hurtOf", "(III)I"⟩
abbrev cX12_leftOf : ByteArray := prog_14_method_48_code
def yX12_leftOf : MethodName := ⟨RX12, "leftOf", "(III)I"⟩
abbrev cX12_grade : ByteArray := prog_14_method_49_code
def yX12_grade : MethodName := ⟨RX12, "grade", "(I)I"⟩
abbrev cX12_thinks : ByteArray := prog_14_method_50_code
def yX12_thinks : MethodName := ⟨RX12, "thinks", "(II)I"⟩
abbrev cX12_word : ByteArray := prog_14_method_51_code
def yX12_word : MethodName := ⟨RX12, "word", "(II)I"⟩
abbrev cX12_planMany : ByteArray := prog_14_method_52_code
def yX12_planMany : MethodName := ⟨RX12, "planMany", "(I)I"⟩
abbrev cX12_planWord : ByteArray := prog_14_method_53_code
def yX12_planWord : MethodName := ⟨RX12, "planWord", "(II)I"⟩
abbrev cX12_isPlan : ByteArray := prog_14_method_54_code
def yX12_isPlan : MethodName := ⟨RX12, "isPlan", "(I)Z"⟩
abbrev cX12_plan : ByteArray := prog_14_method_55_code
def yX12_plan : MethodName := ⟨RX12, "plan", "(II)I"⟩
abbrev cX12_news : ByteArray := prog_14_method_56_code
def yX12_news : MethodName := ⟨RX12, "news", "(I)I"⟩
abbrev cX12_tells : ByteArray := prog_14_method_57_code
def yX12_tells : MethodName := ⟨RX12, "tells", "(I)I"⟩
abbrev cX12_mean : ByteArray := prog_14_method_58_code
def yX12_mean : MethodName := ⟨RX12, "mean", "(II)I"⟩
abbrev cX12_divisor : ByteArray := prog_14_method_59_code
def yX12_divisor : MethodName := ⟨RX12, "divisor", "(II)I"⟩
abbrev cX12_part : ByteArray := prog_14_method_60_code
def yX12_part : MethodName := ⟨RX12, "part", "(III)I"⟩
abbrev cX12_chance : ByteArray := prog_14_method_61_code
def yX12_chance : MethodName := ⟨RX12, "chance", "(IIII)I"⟩
abbrev cX12_chanceOf : ByteArray := prog_14_method_62_code
def yX12_chanceOf : MethodName := ⟨RX12, "chanceOf", "(IIII)I"⟩
abbrev cX12_behind : ByteArray := prog_14_method_63_code
def yX12_behind : MethodName := ⟨RX12, "behind", "(II)I"⟩
abbrev cX12_hurt : ByteArray := prog_14_method_64_code
def yX12_hurt : MethodName := ⟨RX12, "hurt", "(III)I"⟩
abbrev cX12_softest : ByteArray := prog_14_method_65_code
def yX12_softest : MethodName := ⟨RX12, "softest", "(II)I"⟩
abbrev cX12_numberAt : ByteArray := prog_14_method_66_code
def yX12_numberAt : MethodName := ⟨RX12, "numberAt", "(II)J"⟩
abbrev cX12_toldAt : ByteArray := prog_14_method_67_code
def yX12_toldAt : MethodName := ⟨RX12, "toldAt", "(II)I"⟩
abbrev cX12_asksWeek : ByteArray := prog_14_method_68_code
def yX12_asksWeek : MethodName := ⟨RX12, "asksWeek", "(IZ)I"⟩
abbrev cX12_believes : ByteArray := prog_14_method_69_code
def yX12_believes : MethodName := ⟨RX12, "believes", "(I)I"⟩
abbrev cX12_weekOf : ByteArray := prog_14_method_70_code
def yX12_weekOf : MethodName := ⟨RX12, "weekOf", "(III)I"⟩
abbrev cX12_hurts : ByteArray := prog_14_method_71_code
def yX12_hurts : MethodName := ⟨RX12, "hurts", "(II)I"⟩
abbrev cX12_worst : ByteArray := prog_14_method_72_code
def yX12_worst : MethodName := ⟨RX12, "worst", "(II)I"⟩
abbrev cX12_left : ByteArray := prog_14_method_73_code
def yX12_left : MethodName := ⟨RX12, "left", "(II)I"⟩
abbrev cX12_lies : ByteArray := prog_14_method_74_code
def yX12_lies : MethodName := ⟨RX12, "lies", "(I)I"⟩
abbrev cX12_shames : ByteArray := prog_14_method_75_code
def yX12_shames : MethodName := ⟨RX12, "shames", "(I)I"⟩
abbrev cX12_known : ByteArray := prog_14_method_76_code
def yX12_known : MethodName := ⟨RX12, "known", "(I)I"⟩
abbrev cX12_by : ByteArray := prog_14_method_77_code
def yX12_by : MethodName := ⟨RX12, "by", "(III)I"⟩
abbrev cX12_bestWord : ByteArray := prog_14_method_78_code
def yX12_bestWord : MethodName := ⟨RX12, "bestWord", "(II)I"⟩
abbrev cX12_wordWithin : ByteArray := prog_14_method_79_code
def yX12_wordWithin : MethodName := ⟨RX12, "wordWithin", "(III)I"⟩
abbrev cX12_fill : ByteArray := prog_14_method_80_code
def yX12_fill : MethodName := ⟨RX12, "fill", "(III)V"⟩
abbrev cX12_mixed : ByteArray := prog_14_method_81_code
def yX12_mixed : MethodName := ⟨RX12, "mixed", "(II)I"⟩
abbrev cX12_weekBy : ByteArray := prog_14_method_82_code
def yX12_weekBy : MethodName := ⟨RX12, "weekBy", "(II)I"⟩
abbrev cX12_wordBy : ByteArray := prog_14_method_83_code
def yX12_wordBy : MethodName := ⟨RX12, "wordBy", "(III)I"⟩
abbrev cX12_least : ByteArray := prog_14_method_84_code
def yX12_least : MethodName := ⟨RX12, "least", "(I)I"⟩
abbrev cX12_step : ByteArray := prog_14_method_85_code
def yX12_step : MethodName := ⟨RX12, "step", "(II)I"⟩
abbrev cX12_truly : ByteArray := prog_14_method_86_code
def yX12_truly : MethodName := ⟨RX12, "truly", "(I)I"⟩
abbrev cX12_honest : ByteArray := prog_14_method_87_code
def yX12_honest : MethodName := ⟨RX12, "honest", "(II)I"⟩
abbrev cX12_gentlest : ByteArray := prog_14_method_88_code
def yX12_gentlest : MethodName := ⟨RX12, "gentlest", "(I)I"⟩
abbrev cX12_gently : ByteArray := prog_14_method_89_code
def yX12_gently : MethodName := ⟨RX12, "gently", "(II)I"⟩
abbrev cX12_tender : ByteArray := prog_14_method_90_code
def yX12_tender : MethodName := ⟨RX12, "tender", "(I)I"⟩
abbrev cX12_tenderly : ByteArray := prog_14_method_91_code
def yX12_tenderly : MethodName := ⟨RX12, "tenderly", "(II)I"⟩
abbrev cX12_hope : ByteArray := prog_14_method_92_code
def yX12_hope : MethodName := ⟨RX12, "hope", "(IIII)I"⟩
abbrev cX12_fewest : ByteArray := prog_14_method_93_code
def yX12_fewest : MethodName := ⟨RX12, "fewest", "()I"⟩
abbrev cX12_once : ByteArray := prog_14_method_94_code
def yX12_once : MethodName := ⟨RX12, "once", "(I)I"⟩
abbrev cX12_late : ByteArray := prog_14_method_95_code
def yX12_late : MethodName := ⟨RX12, "late", "(II)I"⟩
abbrev cX12_calm : ByteArray := prog_14_method_96_code
def yX12_calm : MethodName := ⟨RX12, "calm", "(II)I"⟩
abbrev cX12_shock : ByteArray := prog_14_method_97_code
def yX12_shock : MethodName := ⟨RX12, "shock", "(I)I"⟩
abbrev cX12_unsaid : ByteArray := prog_14_method_98_code
def yX12_unsaid : MethodName := ⟨RX12, "unsaid", "()I"⟩
abbrev cX12_idle : ByteArray := prog_14_method_99_code
def yX12_idle : MethodName := ⟨RX12, "idle", "()I"⟩
abbrev cX12_enough : ByteArray := prog_14_method_100_code
def yX12_enough : MethodName := ⟨RX12, "enough", "(I)I"⟩
abbrev cX12_rest : ByteArray := prog_14_method_101_code
def yX12_rest : MethodName := ⟨RX12, "rest", "(I)I"⟩
abbrev cX12_leftInOrder : ByteArray := prog_14_method_102_code
def yX12_leftInOrder : MethodName := ⟨RX12, "leftInOrder", "(II)I"⟩
abbrev cX12_nextOrder : ByteArray := prog_14_method_103_code
def yX12_nextOrder : MethodName := ⟨RX12, "nextOrder", "(I)Z"⟩
abbrev cX12_swap : ByteArray := prog_14_method_104_code
def yX12_swap : MethodName := ⟨RX12, "swap", "(II)V"⟩
abbrev cX12_asksOrder : ByteArray := prog_14_method_105_code
def yX12_asksOrder : MethodName := ⟨RX12, "asksOrder", "(II)I"⟩
abbrev cX12_findOrder : ByteArray := prog_14_method_106_code
def yX12_findOrder : MethodName := ⟨RX12, "findOrder", "(II)V"⟩
abbrev cX12_softer : ByteArray := prog_14_method_107_code
def yX12_softer : MethodName := ⟨RX12, "softer", "(II)I"⟩
abbrev cX12_ordered : ByteArray := prog_14_method_108_code
def yX12_ordered : MethodName := ⟨RX12, "ordered", "(III)I"⟩
abbrev cX12_evenOf : ByteArray := prog_14_method_109_code
def yX12_evenOf : MethodName := ⟨RX12, "evenOf", "(II)I"⟩
abbrev cX12_even : ByteArray := prog_14_method_110_code
def yX12_even : MethodName := ⟨RX12, "even", "(II)I"⟩
abbrev cX12_steps : ByteArray := prog_14_method_111_code
def yX12_steps : MethodName := ⟨RX12, "steps", "(II)I"⟩
abbrev cX12_risk : ByteArray := prog_14_method_112_code
def yX12_risk : MethodName := ⟨RX12, "risk", "(I)I"⟩
abbrev cX12_now : ByteArray := prog_14_method_113_code
def yX12_now : MethodName := ⟨RX12, "now", "(III)I"⟩
abbrev cX12_soonOn : ByteArray := prog_14_method_114_code
def yX12_soonOn : MethodName := ⟨RX12, "soonOn", "(II)I"⟩
abbrev cX12_soon : ByteArray := prog_14_method_115_code
def yX12_soon : MethodName := ⟨RX12, "soon", "(II)I"⟩
abbrev cX12_suspectsOf : ByteArray := prog_14_method_116_code
def yX12_suspectsOf : MethodName := ⟨RX12, "suspectsOf", "(II)I"⟩
abbrev cX12_suspects : ByteArray := prog_14_method_117_code
def yX12_suspects : MethodName := ⟨RX12, "suspects", "(I)I"⟩
abbrev cX12_knewOf : ByteArray := prog_14_method_118_code
def yX12_knewOf : MethodName := ⟨RX12, "knewOf", "(II)I"⟩
abbrev cX12_knew : ByteArray := prog_14_method_119_code
def yX12_knew : MethodName := ⟨RX12, "knew", "(II)I"⟩
abbrev cX12_endOf : ByteArray := prog_14_method_120_code
def yX12_endOf : MethodName := ⟨RX12, "endOf", "(I)I"⟩
abbrev cX12_reckoned : ByteArray := prog_14_method_121_code
def yX12_reckoned : MethodName := ⟨RX12, "reckoned", "(II)I"⟩
abbrev cX12_ends : ByteArray := prog_14_method_122_code
def yX12_ends : MethodName := ⟨RX12, "ends", "(I)I"⟩
abbrev cX12_leftBy : ByteArray := prog_14_method_123_code
def yX12_leftBy : MethodName := ⟨RX12, "leftBy", "(I)I"⟩
abbrev cX12_joinedBy : ByteArray := prog_14_method_124_code
def yX12_joinedBy : MethodName := ⟨RX12, "joinedBy", "(I)I"⟩
abbrev cX12_areLetters : ByteArray := prog_14_method_125_code
def yX12_areLetters : MethodName := ⟨RX12, "areLetters", "(I)Z"⟩
abbrev cX12_lettersOf : ByteArray := prog_14_method_126_code
def yX12_lettersOf : MethodName := ⟨RX12, "lettersOf", "(I)I"⟩
abbrev cX12_joined : ByteArray := prog_14_method_127_code
def yX12_joined : MethodName := ⟨RX12, "joined", "(I)I"⟩
abbrev cX12_letter : ByteArray := prog_14_method_128_code
def yX12_letter : MethodName := ⟨RX12, "letter", "(II)I"⟩
abbrev cX12_all : ByteArray := prog_14_method_129_code
def yX12_all : MethodName := ⟨RX12, "all", "()I"⟩
abbrev cX12_allHearers : ByteArray := prog_14_method_130_code
def yX12_allHearers : MethodName := ⟨RX12, "allHearers", "()I"⟩
abbrev cX12_heardBy : ByteArray := prog_14_method_131_code
def yX12_heardBy : MethodName := ⟨RX12, "heardBy", "(II)I"⟩
abbrev cX12_heard : ByteArray := prog_14_method_132_code
def yX12_heard : MethodName := ⟨RX12, "heard", "(II)I"⟩
abbrev cX12_firstOf : ByteArray := prog_14_method_133_code
def yX12_firstOf : MethodName := ⟨RX12, "firstOf", "()I"⟩
abbrev cX12_whom : ByteArray := prog_14_method_134_code
def yX12_whom : MethodName := ⟨RX12, "whom", "()I"⟩
abbrev cX12_first : ByteArray := prog_14_method_135_code
def yX12_first : MethodName := ⟨RX12, "first", "()I"⟩
abbrev cX12_readOf : ByteArray := prog_14_method_136_code
def yX12_readOf : MethodName := ⟨RX12, "readOf", "(I)I"⟩
abbrev cX12_read : ByteArray := prog_14_method_137_code
def yX12_read : MethodName := ⟨RX12, "read", "(I)I"⟩
abbrev cX12_guess : ByteArray := prog_14_method_138_code
def yX12_guess : MethodName := ⟨RX12, "guess", "(II)I"⟩
abbrev cX12_change : ByteArray := prog_14_method_139_code
def yX12_change : MethodName := ⟨RX12, "change", "(II)I"⟩
abbrev cX12_worsen : ByteArray := prog_14_method_140_code
def yX12_worsen : MethodName := ⟨RX12, "worsen", "(II)I"⟩
abbrev cX12_really : ByteArray := prog_14_method_141_code
def yX12_really : MethodName := ⟨RX12, "really", "(I)I"⟩
abbrev cX12_doubt : ByteArray := prog_14_method_142_code
def yX12_doubt : MethodName := ⟨RX12, "doubt", "(III)I"⟩
abbrev cX12_undo : ByteArray := prog_14_method_143_code
def yX12_undo : MethodName := ⟨RX12, "undo", "()I"⟩
abbrev cX12_leakBy : ByteArray := prog_14_method_144_code
def yX12_leakBy : MethodName := ⟨RX12, "leakBy", "(J)I"⟩
abbrev cX12_isSeed : ByteArray := prog_14_method_145_code
def yX12_isSeed : MethodName := ⟨RX12, "isSeed", "(I)Z"⟩
abbrev cX12_drawn : ByteArray := prog_14_method_146_code
def yX12_drawn : MethodName := ⟨RX12, "drawn", "(IIII)I"⟩
abbrev cX12_leaks : ByteArray := prog_14_method_147_code
def yX12_leaks : MethodName := ⟨RX12, "leaks", "(II)I"⟩
abbrev cX12_count : ByteArray := prog_14_method_148_code
def yX12_count : MethodName := ⟨RX12, "count", "(I)I"⟩
abbrev cX12_isSlot : ByteArray := prog_14_method_149_code
def yX12_isSlot : MethodName := ⟨RX12, "isSlot", "(I)Z"⟩
abbrev cX12_cut : ByteArray := prog_14_method_150_code
def yX12_cut : MethodName := ⟨RX12, "cut", "(JI)J"⟩
abbrev cX12_row : ByteArray := prog_14_method_151_code
def yX12_row : MethodName := ⟨RX12, "row", "(III)I"⟩
abbrev cX12_write : ByteArray := prog_14_method_152_code
def yX12_write : MethodName := ⟨RX12, "write", "(IIJ)I"⟩
abbrev cX12_paste : ByteArray := prog_14_method_153_code
def yX12_paste : MethodName := ⟨RX12, "paste", "(IIIII)I"⟩
def RJx145de : String := "java/io/Serializable"
def TJx145de : u_T := fun k => match k with
  | _ => ("", "", "", false)
def tyJx145de : Nat → FieldType := fun k => match k with
  | _ => .int
abbrev wsJx145de0 : List Cond := u_ws RJx145de TJx145de 0
theorem nmJx145de : ∀ a, a < 0 → ∀ b, b < 0 → a ≠ b → (TJx145de a).2.1 ≠ (TJx145de b).2.1 := by decide +kernel
theorem tyJx145de_ok : ∀ k, k < 0 → parseFieldDescriptor (TJx145de k).2.2.1 = some (tyJx145de k) := by decide +kernel
def RJx9f9b0 : String := "java/lang/CharSequence"
def TJx9f9b0 : u_T := fun k => match k with
  | _ => ("", "", "", false)
def tyJx9f9b0 : Nat → FieldType := fun k => match k with
  | _ => .int
abbrev wsJx9f9b00 : List Cond := u_ws RJx9f9b0 TJx9f9b0 0
theorem nmJx9f9b0 : ∀ a, a < 0 → ∀ b, b < 0 → a ≠ b → (TJx9f9b0 a).2.1 ≠ (TJx9f9b0 b).2.1 := by decide +kernel
theorem tyJx9f9b0_ok : ∀ k, k < 0 → parseFieldDescriptor (TJx9f9b0 k).2.2.1 = some (tyJx9f9b0 k) := by decide +kernel
def RJxb160c : String := "java/lang/Comparable"
def TJxb160c : u_T := fun k => match k with
  | _ => ("", "", "", false)
def tyJxb160c : Nat → FieldType := fun k => match k with
  | _ => .int
abbrev wsJxb160c0 : List Cond := u_ws RJxb160c TJxb160c 0
theorem nmJxb160c : ∀ a, a < 0 → ∀ b, b < 0 → a ≠ b → (TJxb160c a).2.1 ≠ (TJxb160c b).2.1 := by decide +kernel
theorem tyJxb160c_ok : ∀ k, k < 0 → parseFieldDescriptor (TJxb160c k).2.2.1 = some (tyJxb160c k) := by decide +kernel
def RJ6 : String := "java/lang/Integer"
def TJ6 : u_T := fun k => match k with
  | _ => ("", "", "", false)
def tyJ6 : Nat → FieldType := fun k => match k with
  | _ => .int
abbrev wsJ60 : List Cond := u_ws RJ6 TJ6 0
theorem nmJ6 : ∀ a, a < 0 → ∀ b, b < 0 → a ≠ b → (TJ6 a).2.1 ≠ (TJ6 b).2.1 := by decide +kernel
theorem tyJ6_ok : ∀ k, k < 0 → parseFieldDescriptor (TJ6 k).2.2.1 = some (tyJ6 k) := by decide +kernel
abbrev cJ6_numberOfTrailingZeros_0f7a4 : ByteArray := prog_15_method_48_code
def yJ6_numberOfTrailingZeros_0f7a4 : MethodName := ⟨RJ6, "numberOfTrailingZeros", "(I)I"⟩
abbrev cJ6_bitCount_0f7a4 : ByteArray := prog_15_method_49_code
def yJ6_bitCount_0f7a4 : MethodName := ⟨RJ6, "bitCount", "(I)I"⟩
def RJ9 : String := "java/lang/Math"
def TJ9 : u_T := fun k => match k with
  | _ => ("", "", "", false)
def tyJ9 : Nat → FieldType := fun k => match k with
  | _ => .int
abbrev wsJ90 : List Cond := u_ws RJ9 TJ9 0
theorem nmJ9 : ∀ a, a < 0 → ∀ b, b < 0 → a ≠ b → (TJ9 a).2.1 ≠ (TJ9 b).2.1 := by decide +kernel
theorem tyJ9_ok : ∀ k, k < 0 → parseFieldDescriptor (TJ9 k).2.2.1 = some (tyJ9 k) := by decide +kernel
abbrev cJ9_max_7cf53 : ByteArray := prog_16_method_65_code
def yJ9_max_7cf53 : MethodName := ⟨RJ9, "max", "(II)I"⟩
abbrev cJ9_min_7cf53 : ByteArray := prog_16_method_69_code
def yJ9_min_7cf53 : MethodName := ⟨RJ9, "min", "(II)I"⟩
def RJ0 : String := "java/lang/String"
def TJ0 : u_T := fun k => match k with
  | _ => ("", "", "", false)
def tyJ0 : Nat → FieldType := fun k => match k with
  | _ => .int
abbrev wsJ00 : List Cond := u_ws RJ0 TJ0 0
theorem nmJ0 : ∀ a, a < 0 → ∀ b, b < 0 → a ≠ b → (TJ0 a).2.1 ≠ (TJ0 b).2.1 := by decide +kernel
theorem tyJ0_ok : ∀ k, k < 0 → parseFieldDescriptor (TJ0 k).2.2.1 = some (tyJ0 k) := by decide +kernel
abbrev cJ0_length_8abf5 : ByteArray := prog_17_method_54_code
def yJ0_length_8abf5 : MethodName := ⟨RJ0, "length", "()I"⟩
abbrev cJ0_charAt_5068e : ByteArray := prog_17_method_56_code
def yJ0_charAt_5068e : MethodName := ⟨RJ0, "charAt", "(I)C"⟩
abbrev cJ0_coder_7d493 : ByteArray := prog_17_method_152_code
def yJ0_coder_7d493 : MethodName := ⟨RJ0, "coder", "()B"⟩
abbrev cJ0_isLatin1_aae02 : ByteArray := prog_17_method_154_code
def yJ0_isLatin1_aae02 : MethodName := ⟨RJ0, "isLatin1", "()Z"⟩
abbrev cJ0_checkIndex_df160 : ByteArray := prog_17_method_155_code
def yJ0_checkIndex_df160 : MethodName := ⟨RJ0, "checkIndex", "(II)V"⟩
def RJ1 : String := "java/lang/StringLatin1"
def TJ1 : u_T := fun k => match k with
  | _ => ("", "", "", false)
def tyJ1 : Nat → FieldType := fun k => match k with
  | _ => .int
abbrev wsJ10 : List Cond := u_ws RJ1 TJ1 0
theorem nmJ1 : ∀ a, a < 0 → ∀ b, b < 0 → a ≠ b → (TJ1 a).2.1 ≠ (TJ1 b).2.1 := by decide +kernel
theorem tyJ1_ok : ∀ k, k < 0 → parseFieldDescriptor (TJ1 k).2.2.1 = some (tyJ1 k) := by decide +kernel
abbrev cJ1_charAt_3b067 : ByteArray := prog_18_method_2_code
def yJ1_charAt_3b067 : MethodName := ⟨RJ1, "charAt", "([BI)C"⟩
def RJ2 : String := "java/lang/StringUTF16"
def TJ2 : u_T := fun k => match k with
  | _ => ("", "", "", false)
def tyJ2 : Nat → FieldType := fun k => match k with
  | _ => .int
abbrev wsJ20 : List Cond := u_ws RJ2 TJ2 0
theorem nmJ2 : ∀ a, a < 0 → ∀ b, b < 0 → a ≠ b → (TJ2 a).2.1 ≠ (TJ2 b).2.1 := by decide +kernel
theorem tyJ2_ok : ∀ k, k < 0 → parseFieldDescriptor (TJ2 k).2.2.1 = some (tyJ2 k) := by decide +kernel
abbrev cJ2_getChar_3b067 : ByteArray := prog_19_method_5_code
def yJ2_getChar_3b067 : MethodName := ⟨RJ2, "getChar", "([BI)C"⟩
abbrev cJ2_length_9d52b : ByteArray := prog_19_method_6_code
def yJ2_length_9d52b : MethodName := ⟨RJ2, "length", "([B)I"⟩
abbrev cJ2_charAt_3b067 : ByteArray := prog_19_method_83_code
def yJ2_charAt_3b067 : MethodName := ⟨RJ2, "charAt", "([BI)C"⟩
abbrev cJ2_checkIndex_2214a : ByteArray := prog_19_method_91_code
def yJ2_checkIndex_2214a : MethodName := ⟨RJ2, "checkIndex", "(I[B)V"⟩
def RJ10 : String := "java/lang/System"
def TJ10 : u_T := fun k => match k with
  | _ => ("", "", "", false)
def tyJ10 : Nat → FieldType := fun k => match k with
  | _ => .int
abbrev wsJ100 : List Cond := u_ws RJ10 TJ10 0
theorem nmJ10 : ∀ a, a < 0 → ∀ b, b < 0 → a ≠ b → (TJ10 a).2.1 ≠ (TJ10 b).2.1 := by decide +kernel
theorem tyJ10_ok : ∀ k, k < 0 → parseFieldDescriptor (TJ10 k).2.2.1 = some (tyJ10 k) := by decide +kernel
def RJxfd54e : String := "java/lang/constant/Constable"
def TJxfd54e : u_T := fun k => match k with
  | _ => ("", "", "", false)
def tyJxfd54e : Nat → FieldType := fun k => match k with
  | _ => .int
abbrev wsJxfd54e0 : List Cond := u_ws RJxfd54e TJxfd54e 0
theorem nmJxfd54e : ∀ a, a < 0 → ∀ b, b < 0 → a ≠ b → (TJxfd54e a).2.1 ≠ (TJxfd54e b).2.1 := by decide +kernel
theorem tyJxfd54e_ok : ∀ k, k < 0 → parseFieldDescriptor (TJxfd54e k).2.2.1 = some (tyJxfd54e k) := by decide +kernel
def RJx3cf43 : String := "java/lang/constant/ConstantDesc"
def TJx3cf43 : u_T := fun k => match k with
  | _ => ("", "", "", false)
def tyJx3cf43 : Nat → FieldType := fun k => match k with
  | _ => .int
abbrev wsJx3cf430 : List Cond := u_ws RJx3cf43 TJx3cf43 0
theorem nmJx3cf43 : ∀ a, a < 0 → ∀ b, b < 0 → a ≠ b → (TJx3cf43 a).2.1 ≠ (TJx3cf43 b).2.1 := by decide +kernel
theorem tyJx3cf43_ok : ∀ k, k < 0 → parseFieldDescriptor (TJx3cf43 k).2.2.1 = some (tyJx3cf43 k) := by decide +kernel
def RJ7 : String := "java/util/Arrays"
def TJ7 : u_T := fun k => match k with
  | _ => ("", "", "", false)
def tyJ7 : Nat → FieldType := fun k => match k with
  | _ => .int
abbrev wsJ70 : List Cond := u_ws RJ7 TJ7 0
theorem nmJ7 : ∀ a, a < 0 → ∀ b, b < 0 → a ≠ b → (TJ7 a).2.1 ≠ (TJ7 b).2.1 := by decide +kernel
theorem tyJ7_ok : ∀ k, k < 0 → parseFieldDescriptor (TJ7 k).2.2.1 = some (tyJ7 k) := by decide +kernel
abbrev cJ7_fill_d0a16 : ByteArray := prog_21_method_101_code
def yJ7_fill_d0a16 : MethodName := ⟨RJ7, "fill", "([JJ)V"⟩
abbrev cJ7_fill_53178 : ByteArray := prog_21_method_103_code
def yJ7_fill_53178 : MethodName := ⟨RJ7, "fill", "([II)V"⟩
def RJ3 : String := "jdk/internal/util/Preconditions"
def TJ3 : u_T := fun k => match k with
  | _ => ("", "", "", false)
def tyJ3 : Nat → FieldType := fun k => match k with
  | _ => .int
abbrev wsJ30 : List Cond := u_ws RJ3 TJ3 0
theorem nmJ3 : ∀ a, a < 0 → ∀ b, b < 0 → a ≠ b → (TJ3 a).2.1 ≠ (TJ3 b).2.1 := by decide +kernel
theorem tyJ3_ok : ∀ k, k < 0 → parseFieldDescriptor (TJ3 k).2.2.1 = some (tyJ3 k) := by decide +kernel
abbrev cJ3_checkIndex_8e157 : ByteArray := prog_22_method_11_code
def yJ3_checkIndex_8e157 : MethodName := ⟨RJ3, "checkIndex", "(IILjava/util/function/BiFunction;)I"⟩
def RL : String := "GentleLettersLaw"
abbrev cL_law : ByteArray := code
def yL_law : MethodName := ⟨RL, "law", "([I)Z"⟩
abbrev vwCl : List vw_C := [(RX0, TX0, 20), (RX1, TX1, 5), (RX2, TX2, 4), (RX3, TX3, 4), (RX4, TX4, 1), (RX5, TX5, 5), (RX6, TX6, 3), (RX7, TX7, 4), (RX8, TX8, 4), (RX9, TX9, 6), (RX10, TX10, 10), (RX11, TX11, 11), (RX12, TX12, 29)]
end
section
/-- the tables' words that a callee may lean on -/
def BIG : List Cond := lw_tbl.filter goodWord
abbrev GG : Type := va_G × (Nat → ClassId)
abbrev TY (k : Nat → ClassId) : List (ClassId × FieldType) := [(k 0, .int), (k 1, .byte), (k 2, .boolean), (k 3, .long), (k 4, .object RX0), (k 5, .object RX8)]
def isNest : Cond → Bool
  | .fieldLinkNest _ _ _ _ _ _ => true
  | .methodLinkNest _ _ _ _ => true
  | _ => false
/-- the words on private members of nest mates -/
def nests : List Cond := lw_tbl.filter isNest
theorem nests_ok : ∀ w ∈ nests, isNest w = true := fun _ h => (List.mem_filter.mp h).2
theorem big_good : ∀ w ∈ BIG, goodWord w = true := fun _ h => (List.mem_filter.mp h).2
theorem big_in : ∀ w ∈ BIG, w ∈ lw_tbl := fun _ h => (List.mem_filter.mp h).1
theorem bi {w : Cond} (h : w ∈ lw_tbl) (hg : goodWord w = true) : w ∈ BIG := List.mem_filter.mpr ⟨h, hg⟩
theorem ne {w : Cond} (h : w ∈ lw_tbl) (hg : isNest w = true) : w ∈ nests := List.mem_filter.mpr ⟨h, hg⟩
theorem gi_code {w : Cond} (h : w ∈ BIG) : GoodIn BIG (w :: BIG) := fun v hv => by
  rcases List.mem_cons.mp hv with rfl | h2
  · exact ⟨h, good_of_word (big_good _ h)⟩
  · exact ⟨h2, good_of_word (big_good _ h2)⟩
/-- what the tables say, at any time -/
def Kn (g : GG) (U : State) : Prop := va_K g.1 vwCl (TY g.2) U ∧ (∀ w ∈ nests, va_Nw w U) ∧ va_AO RX0 U ∧ va_AO RX8 U
theorem nw_warm {w : Cond} {s U : State} (hi : isNest w = true) (hW : s.WarmedH U.vm) (h : va_Nw w s) : va_Nw w U := by
  cases w <;> first | exact va_Nw.warmF hW h | exact va_Nw.warmM hW h | exact absurd hi (by simp [isNest])
theorem nw_same {w : Cond} {s U : State} (hi : isNest w = true) (hW : s.vm = U.vm) (h : va_Nw w s) : va_Nw w U := by
  cases w <;> first | exact va_Nw.same rfl hW h | exact absurd hi (by simp [isNest])
theorem Kn.warm {g : GG} {s U : State} (hW : s.WarmedH U.vm) (h : Kn g s) : Kn g U := ⟨va_K.moved hW.alike h.1, fun w hw => nw_warm (nests_ok w hw) hW (h.2.1 w hw), va_AO.moved hW.alike h.2.2.1, va_AO.moved hW.alike h.2.2.2⟩
theorem Kn.same {g : GG} {s U : State} (hW : s.vm = U.vm) (h : Kn g s) : Kn g U := ⟨va_K.moved (by rw [hW]; exact Vm.Alike.refl _) h.1, fun w hw => nw_same (nests_ok w hw) hW (h.2.1 w hw), va_AO.moved (by rw [hW]; exact Vm.Alike.refl _) h.2.2.1, va_AO.moved (by rw [hW]; exact Vm.Alike.refl _) h.2.2.2⟩
/-- a method's start: its cells, apart -/
def PC (g : GG) (sz : Nat) (ws : va_W) (U : State) : Prop := U.heap.size = sz ∧ va_P g.1 vwCl ws U.heap ∧ Kn g U ∧ va_D (fun _ => True) ws
/-- a method's end: what it answers, its cells then -/
def QX {S : Type} (val : S → Option Value) (post : S → Prop) (g : GG) (w1 : S → va_W) (A : Nat → Prop) : Array Value → State → Outcome → State → Prop := fun _ st oc t => (∃ u : S, oc = .returned (val u) ∧ post u ∧ va_P g.1 vwCl (w1 u) t.heap ∧ va_D A (w1 u)) ∧ va_F A st t
/-- a contract -/
def Ct (l : Launch) (g : GG) (y : MethodName) (b : ByteArray) (maxL : Nat) (ret : Option FieldType) (rm : Room) (as : List Value) (wc : va_W) {S : Type} (val : S → Option Value) (post : S → Prop) (w1 : S → va_W) : Prop :=
  ∀ sz, Met l y (.code y b maxL ret :: BIG) rm (va_Pc as (PC g sz wc)) (QX val post g w1 (va_A wc sz)) rm.cells rm.slots (va_A wc sz)
/-- what a method's body may use all along -/
def Fx (p : Program) (m : MethodId) (meth : Method) (c : Code) (cc : ByteArray) (nL : Nat) (s : State) (args : Array Value) (y : MethodName) (ret : Option FieldType) (g : GG) (A : Nat → Prop) : Prop :=
  CallFix p m c cc nL s args BIG y.cls ∧ meth.sig.returnType = ret ∧ meth.locks = false ∧ Kn g s ∧ (∀ q : Nat, s.heap.size ≤ q → A q) ∧ meth.name = y.name
section CORE
variable {p : Program} {l : Launch} {e : Env} {R : Room} {s : State} {m : MethodId} {args : Array Value} {below : List Frame} {meth : Method} {c : Code} {H : Heap} {locs : List Loc} {cells slots : Nat} {Q : State → Prop}
variable {g : GG} {y : MethodName} {b : ByteArray} {maxL : Nat} {ret : Option FieldType} {rm : Room} {as : List Value} {wc : va_W} {S : Type} {val : S → Option Value} {post : S → Prop} {w1 : S → va_W}
theorem Ct.of (hy : plainName y.cls = true) (hlen : (lg_sl as).length ≤ maxL)
    (body : ∀ (p : Program) (e : Env) (s : State) (m : MethodId) (below : List Frame) (meth : Method) (c : Code) (A : Nat → Prop) (ls : Array Slot), Fx p m meth c b maxL s as.toArray y ret g A → va_P g.1 vwCl wc s.heap → va_D A wc → va_S A s.heap s.heap [] → lv_has ls maxL (lv_args 0 as) →
      W p l e rm s m as.toArray below meth c s.heap [] 0 0 (MQ below (QX val post g w1 A) as.toArray s rm.cells rm.slots A) (F0 m 0 ls [])) : Ct l g y b maxL ret rm as wc val post w1 := by
  intro sz
  refine Met.ofW (cc := b) (maxL := maxL) (ret := ret) hy rfl ?_
  intro p e s m args below meth c s₁ B hml hv
  obtain ⟨rfl, hsz, hP, hK, hD0⟩ := hv
  have hts := atoms_spec (ws := .code y b maxL ret :: BIG) B.pre
  have hown : s.vm.findClass y.cls = some m.cls := findClass_of_methodNamed B.named
  subst hsz
  have hD := hD0.self (sz := s.heap.size)
  rw [lg_entry_eq]
  exact body p e s m below meth c _ _ ⟨⟨B.exec, B.bytes, hml, hown, fun w h => hts w (List.mem_cons_of_mem _ h)⟩, B.returns, B.notSynchronized, hK, fun q h => Or.inr h, (name_of_methodNamed B.named B.method).1⟩ hP hD va_S.rf (lv_entry as hlen)
theorem pc_blind {as : List Value} {sz : Nat} : FrameBlind (va_Pc as (PC g sz wc)) := fun av U f mk q => by
  obtain ⟨q0, q1, q2, q3, q4⟩ := q
  exact ⟨q0, q1, q2, Kn.same (s := U) (U := U.calling f mk av) rfl q3, q4⟩
theorem pc_at (hKn : Kn g s) (hP : va_P g.1 vwCl wc H) (hD : va_D (fun _ => True) wc) {as : List Value} : ∀ U : State, U.heap = H → s.WarmedH U.vm → va_Pc as (PC g H.size wc) as.toArray U := fun U hU hW => ⟨rfl, by rw [hU], by rw [hU]; exact hP, hKn.warm hW, hD⟩
variable {A : Nat → Prop} {H0 : Heap} {w wr : va_W} {pc : Nat} {ls : Array Slot} {rest st0 : List Value} {a : Array Value} {mc ms : Nat}
theorem run_join (hr : va_Run p l e R s m args below meth c H locs cells slots mc ms (F0 m pc ls st0) rest (QX val post g w1 (va_A wc H.size) a) (va_A wc H.size))
    (hP : va_P g.1 vwCl w H) (hD : va_D A w) (hS : va_S A H0 H locs) (hA : ∀ q : Nat, H0.size ≤ q → A q) (isC isR : List Nat) (hC : isC.map (fun i => w[i]?) = wc.map some) (hR : isR.map (fun i => w[i]?) = wr.map some) (hn : va_nd isR = true) (hdis : ∀ i ∈ isR, i ∉ isC)
    (kk : ∀ (u : S) (H1 : Heap) (locs1 : List Loc), post u → va_P g.1 vwCl (wr ++ w1 u) H1 → va_D A (wr ++ w1 u) → va_S A H0 H1 locs1 → W p l e R s m args below meth c H1 locs1 (cells + mc) (slots + ms) Q (F0 m (pc + 3) ls ((val u).toList ++ rest))) : W p l e R s m args below meth c H locs cells slots Q (F0 m pc ls st0) := by
  intro T hT X
  have hFc := va_free (wc := wc) hD hS hA isC hC
  obtain ⟨v, st₀, t, T', L, h0, X', hL, e1, e2, ⟨⟨u, hv, hp, hp1, hd1⟩, hz, hk⟩, st⟩ := hr T hT X
  cases hv
  rw [h0] at hz hk
  rw [← e1] at hp1
  obtain ⟨hP2, hD2⟩ := va_join (wr := wr) (w1 := w1 u) hP hD isC isR hC hR hn hdis (fun q h1 h2 => by rw [e1]; exact hk q h1 h2) hFc hp1 hd1
  obtain ⟨t2, a1, b1⟩ := kk u T'.heap (locs ++ L) hp hP2 hD2
    ⟨Nat.le_trans hS.1 (by rw [e1]; exact hz), fun q h1 h2 => by rw [e1, hk q (Nat.lt_of_lt_of_le h1 hS.1) (fun z => h2 (hFc q z))]; exact hS.2.1 q h1 h2, fun q hq => by
      rcases List.mem_append.mp hq with h | h
      · exact hS.2.2 q h
      · exact hFc _ (hL q h)⟩ T' rfl X'
  exact ⟨t2, st t2 a1, b1⟩
/-- a method's own words: an instance method, a static one, a constructor -/
def MV (y : MethodName) (b : ByteArray) (maxL : Nat) (ret : Option FieldType) (n : Nat) : Prop := Cond.code y b maxL ret ∈ BIG ∧ Cond.instanceMethod y ∈ BIG ∧ Cond.selects y.cls y y ∈ BIG ∧ Cond.initialized y.cls ∈ BIG ∧ (y.cls ≠ "java/lang/invoke/MethodHandle" ∧ y.cls ≠ "java/lang/invoke/VarHandle" ∧ (parseMethodDescriptor y.desc).map (fun d => d.parameters.length) = some n)
def MS (y : MethodName) (b : ByteArray) (maxL : Nat) (ret : Option FieldType) (n : Nat) : Prop := Cond.code y b maxL ret ∈ BIG ∧ Cond.static y ∈ BIG ∧ Cond.initialized y.cls ∈ BIG ∧ (y.cls ≠ "java/lang/invoke/MethodHandle" ∧ y.cls ≠ "java/lang/invoke/VarHandle" ∧ (parseMethodDescriptor y.desc).map (fun d => d.parameters.length) = some n)
def MI (y : MethodName) (b : ByteArray) (maxL : Nat) (n : Nat) : Prop := Cond.code y b maxL none ∈ BIG ∧ Cond.instanceMethod y ∈ BIG ∧ Cond.initialized y.cls ∈ BIG ∧ y.name = "<init>" ∧ (y.cls ≠ "java/lang/invoke/MethodHandle" ∧ y.cls ≠ "java/lang/invoke/VarHandle" ∧ (parseMethodDescriptor y.desc).map (fun d => d.parameters.length) = some n)
variable {cc : ByteArray} {nL index n : Nat} {own : String} {As : List Value} {x : Nat}
theorem call_V (F : CallFix p m c cc nL s args BIG own) (hKn : Kn g s) (hM : Ct l g y b maxL ret rm (.ref x :: As) wc val post w1) (hw : MV y b maxL ret n) (hl : Cond.methodLink own index y ∈ BIG)
    {ci : Nat} {q : vw_C} {fs : List Value} (hc : vwCl[ci]? = some q) (hq : q.1 = y.cls) (he : wc[0]? = some (x, .inr (ci, fs)))
    (hP : va_P g.1 vwCl w H) (hD : va_D A w) (hS : va_S A H0 H locs) (hA : ∀ q : Nat, H0.size ≤ q → A q) (isC isR : List Nat) (hC : isC.map (fun i => w[i]?) = wc.map some) (hCn : va_nd isC = true) (hR : isR.map (fun i => w[i]?) = wr.map some) (hn : va_nd isR = true) (hdis : ∀ i ∈ isR, i ∉ isC)
    (hAs : As.length = n) (hsize : ls.size = nL) (hst : st0 = As.reverse ++ .ref x :: rest) (hW : (rest.map fun v => v.category).sum ≤ 8) (hdg : decode cc pc = .ok (.invokevirtual index, 3)) (hR1 : rm.frames + 1 ≤ R.frames ∧ 8 + (maxL + 11) + rm.locals ≤ R.locals) (hf : cells + rm.cells ≤ R.cells ∧ slots + rm.slots ≤ R.slots)
    (kk : ∀ (u : S) (H1 : Heap) (locs1 : List Loc), post u → va_P g.1 vwCl (wr ++ w1 u) H1 → va_D A (wr ++ w1 u) → va_S A H0 H1 locs1 → W p l e R s m args below meth c H1 locs1 (cells + rm.cells) (slots + rm.slots) Q (F0 m (pc + 3) ls ((val u).toList ++ rest))) : W p l e R s m args below meth c H locs cells slots Q (F0 m pc ls st0) := by
  obtain ⟨w1', w2, w3, w4, w5⟩ := hw
  have hB := F.2.2.2.2
  have hPc : va_P g.1 vwCl wc H := fun k z hz => by
    have h1 : (isC.map (fun i => w[i]?))[k]? = (wc.map some)[k]? := by rw [hC]
    rw [List.getElem?_map, List.getElem?_map, hz] at h1
    cases hi : isC[k]? with
    | none => rw [hi] at h1; simp at h1
    | some i => rw [hi] at h1; simp at h1; exact hP i z h1
  have hDc := (hD.sub isC hCn hC).weaken (B := fun _ => True) (fun _ _ _ _ => trivial)
  have hrc := va_recv hKn.1 hPc hc he
  rw [hq] at hrc
  exact run_join (va_runV F (hM H.size) ⟨callB_of n hB (gi_code w1') rfl rfl rfl (hB _ w4) (hB _ hl) w5 hR1, hB _ w2, hB _ w3⟩ ⟨pc_blind, hrc, pc_at hKn hPc hDc⟩ rfl hAs hsize hst (lv_room hW) hdg hf) hP hD hS hA isC isR hC hR hn hdis kk
theorem call_VN (F : CallFix p m c cc nL s args BIG own) (hKn : Kn g s) (hM : Ct l g y b maxL ret rm (.ref x :: As) wc val post w1) (hw : MV y b maxL ret n) (hl : Cond.methodLinkNest own index y RX11 ∈ nests)
    {ci : Nat} {q : vw_C} {fs : List Value} (hc : vwCl[ci]? = some q) (hq : q.1 = y.cls) (he : wc[0]? = some (x, .inr (ci, fs)))
    (hP : va_P g.1 vwCl w H) (hD : va_D A w) (hS : va_S A H0 H locs) (hA : ∀ q : Nat, H0.size ≤ q → A q) (isC isR : List Nat) (hC : isC.map (fun i => w[i]?) = wc.map some) (hCn : va_nd isC = true) (hR : isR.map (fun i => w[i]?) = wr.map some) (hn : va_nd isR = true) (hdis : ∀ i ∈ isR, i ∉ isC)
    (hAs : As.length = n) (hsize : ls.size = nL) (hst : st0 = As.reverse ++ .ref x :: rest) (hW : (rest.map fun v => v.category).sum ≤ 8) (hdg : decode cc pc = .ok (.invokevirtual index, 3)) (hR1 : rm.frames + 1 ≤ R.frames ∧ 8 + (maxL + 11) + rm.locals ≤ R.locals) (hf : cells + rm.cells ≤ R.cells ∧ slots + rm.slots ≤ R.slots)
    (kk : ∀ (u : S) (H1 : Heap) (locs1 : List Loc), post u → va_P g.1 vwCl (wr ++ w1 u) H1 → va_D A (wr ++ w1 u) → va_S A H0 H1 locs1 → W p l e R s m args below meth c H1 locs1 (cells + rm.cells) (slots + rm.slots) Q (F0 m (pc + 3) ls ((val u).toList ++ rest))) : W p l e R s m args below meth c H locs cells slots Q (F0 m pc ls st0) := by
  obtain ⟨w1', w2, w3, w4, w5⟩ := hw
  have hB := F.2.2.2.2
  have hPc : va_P g.1 vwCl wc H := fun k z hz => by
    have h1 : (isC.map (fun i => w[i]?))[k]? = (wc.map some)[k]? := by rw [hC]
    rw [List.getElem?_map, List.getElem?_map, hz] at h1
    cases hi : isC[k]? with
    | none => rw [hi] at h1; simp at h1
    | some i => rw [hi] at h1; simp at h1; exact hP i z h1
  have hDc := (hD.sub isC hCn hC).weaken (B := fun _ => True) (fun _ _ _ _ => trivial)
  have hrc := va_recv hKn.1 hPc hc he
  rw [hq] at hrc
  exact run_join (va_runVN F (hM H.size) ⟨va_cnB n hB (gi_code w1') rfl rfl rfl (hKn.2.1 _ hl) (hB _ w4) w5 hR1, hB _ w2, hB _ w3⟩ ⟨pc_blind, hrc, pc_at hKn hPc hDc⟩ rfl hAs hsize hst (lv_room hW) hdg hf) hP hD hS hA isC isR hC hR hn hdis kk
theorem call_S (F : CallFix p m c cc nL s args BIG own) (hKn : Kn g s) (hM : Ct l g y b maxL ret rm As wc val post w1) (hw : MS y b maxL ret n) (hl : Cond.methodLink own index y ∈ BIG)
    (hP : va_P g.1 vwCl w H) (hD : va_D A w) (hS : va_S A H0 H locs) (hA : ∀ q : Nat, H0.size ≤ q → A q) (isC isR : List Nat) (hC : isC.map (fun i => w[i]?) = wc.map some) (hCn : va_nd isC = true) (hR : isR.map (fun i => w[i]?) = wr.map some) (hn : va_nd isR = true) (hdis : ∀ i ∈ isR, i ∉ isC)
    (hAs : As.length = n) (hsize : ls.size = nL) (hst : st0 = As.reverse ++ rest) (hW : (rest.map fun v => v.category).sum ≤ 8) (hdg : decode cc pc = .ok (.invokestatic index, 3)) (hR1 : rm.frames + 1 ≤ R.frames ∧ 8 + (maxL + 11) + rm.locals ≤ R.locals) (hf : cells + rm.cells ≤ R.cells ∧ slots + rm.slots ≤ R.slots)
    (kk : ∀ (u : S) (H1 : Heap) (locs1 : List Loc), post u → va_P g.1 vwCl (wr ++ w1 u) H1 → va_D A (wr ++ w1 u) → va_S A H0 H1 locs1 → W p l e R s m args below meth c H1 locs1 (cells + rm.cells) (slots + rm.slots) Q (F0 m (pc + 3) ls ((val u).toList ++ rest))) : W p l e R s m args below meth c H locs cells slots Q (F0 m pc ls st0) := by
  obtain ⟨w1', w2, w4, w5⟩ := hw
  have hB := F.2.2.2.2
  have hPc : va_P g.1 vwCl wc H := fun k z hz => by
    have h1 : (isC.map (fun i => w[i]?))[k]? = (wc.map some)[k]? := by rw [hC]
    rw [List.getElem?_map, List.getElem?_map, hz] at h1
    cases hi : isC[k]? with
    | none => rw [hi] at h1; simp at h1
    | some i => rw [hi] at h1; simp at h1; exact hP i z h1
  have hDc := (hD.sub isC hCn hC).weaken (B := fun _ => True) (fun _ _ _ _ => trivial)
  exact run_join (va_runS F (hM H.size) ⟨callB_of n hB (gi_code w1') rfl rfl rfl (hB _ w4) (hB _ hl) w5 hR1, hB _ w2⟩ ⟨pc_blind, pc_at hKn hPc hDc⟩ rfl hAs hsize hst (lv_room hW) hdg hf) hP hD hS hA isC isR hC hR hn hdis kk
theorem call_I (F : CallFix p m c cc nL s args BIG own) (hKn : Kn g s) (hM : Ct l g y b maxL none rm (.ref x :: As) wc val post w1) (hw : MI y b maxL n) (hl : Cond.methodLink own index y ∈ BIG)
    (hP : va_P g.1 vwCl w H) (hD : va_D A w) (hS : va_S A H0 H locs) (hA : ∀ q : Nat, H0.size ≤ q → A q) (isC isR : List Nat) (hC : isC.map (fun i => w[i]?) = wc.map some) (hCn : va_nd isC = true) (hR : isR.map (fun i => w[i]?) = wr.map some) (hn : va_nd isR = true) (hdis : ∀ i ∈ isR, i ∉ isC)
    (hAs : As.length = n) (hsize : ls.size = nL) (hst : st0 = As.reverse ++ .ref x :: rest) (hW : (rest.map fun v => v.category).sum ≤ 8) (hdg : decode cc pc = .ok (.invokespecial index, 3)) (hR1 : rm.frames + 1 ≤ R.frames ∧ 8 + (maxL + 11) + rm.locals ≤ R.locals) (hf : cells + rm.cells ≤ R.cells ∧ slots + rm.slots ≤ R.slots)
    (kk : ∀ (u : S) (H1 : Heap) (locs1 : List Loc), post u → va_P g.1 vwCl (wr ++ w1 u) H1 → va_D A (wr ++ w1 u) → va_S A H0 H1 locs1 → W p l e R s m args below meth c H1 locs1 (cells + rm.cells) (slots + rm.slots) Q (F0 m (pc + 3) ls ((val u).toList ++ rest))) : W p l e R s m args below meth c H locs cells slots Q (F0 m pc ls st0) := by
  obtain ⟨w1', w2, w4, w6, w5⟩ := hw
  have hB := F.2.2.2.2
  have hPc : va_P g.1 vwCl wc H := fun k z hz => by
    have h1 : (isC.map (fun i => w[i]?))[k]? = (wc.map some)[k]? := by rw [hC]
    rw [List.getElem?_map, List.getElem?_map, hz] at h1
    cases hi : isC[k]? with
    | none => rw [hi] at h1; simp at h1
    | some i => rw [hi] at h1; simp at h1; exact hP i z h1
  have hDc := (hD.sub isC hCn hC).weaken (B := fun _ => True) (fun _ _ _ _ => trivial)
  exact run_join (va_runI F (hM H.size) ⟨callB_of n hB (gi_code w1') rfl rfl rfl (hB _ w4) (hB _ hl) w5 hR1, w6, hB _ w2⟩ ⟨pc_blind, pc_at hKn hPc hDc⟩ rfl hAs hsize hst (lv_room hW) hdg hf) hP hD hS hA isC isR hC hR hn hdis kk
theorem call_IN (F : CallFix p m c cc nL s args BIG own) (hKn : Kn g s) (hM : Ct l g y b maxL none rm (.ref x :: As) wc val post w1) (hw : MI y b maxL n) (hl : Cond.methodLinkNest own index y RX11 ∈ nests)
    (hP : va_P g.1 vwCl w H) (hD : va_D A w) (hS : va_S A H0 H locs) (hA : ∀ q : Nat, H0.size ≤ q → A q) (isC isR : List Nat) (hC : isC.map (fun i => w[i]?) = wc.map some) (hCn : va_nd isC = true) (hR : isR.map (fun i => w[i]?) = wr.map some) (hn : va_nd isR = true) (hdis : ∀ i ∈ isR, i ∉ isC)
    (hAs : As.length = n) (hsize : ls.size = nL) (hst : st0 = As.reverse ++ .ref x :: rest) (hW : (rest.map fun v => v.category).sum ≤ 8) (hdg : decode cc pc = .ok (.invokespecial index, 3)) (hR1 : rm.frames + 1 ≤ R.frames ∧ 8 + (maxL + 11) + rm.locals ≤ R.locals) (hf : cells + rm.cells ≤ R.cells ∧ slots + rm.slots ≤ R.slots)
    (kk : ∀ (u : S) (H1 : Heap) (locs1 : List Loc), post u → va_P g.1 vwCl (wr ++ w1 u) H1 → va_D A (wr ++ w1 u) → va_S A H0 H1 locs1 → W p l e R s m args below meth c H1 locs1 (cells + rm.cells) (slots + rm.slots) Q (F0 m (pc + 3) ls ((val u).toList ++ rest))) : W p l e R s m args below meth c H locs cells slots Q (F0 m pc ls st0) := by
  obtain ⟨w1', w2, w4, w6, w5⟩ := hw
  have hB := F.2.2.2.2
  have hPc : va_P g.1 vwCl wc H := fun k z hz => by
    have h1 : (isC.map (fun i => w[i]?))[k]? = (wc.map some)[k]? := by rw [hC]
    rw [List.getElem?_map, List.getElem?_map, hz] at h1
    cases hi : isC[k]? with
    | none => rw [hi] at h1; simp at h1
    | some i => rw [hi] at h1; simp at h1; exact hP i z h1
  have hDc := (hD.sub isC hCn hC).weaken (B := fun _ => True) (fun _ _ _ _ => trivial)
  exact run_join (va_runIN F (hM H.size) ⟨va_cnB n hB (gi_code w1') rfl rfl rfl (hKn.2.1 _ hl) (hB _ w4) w5 hR1, w6, hB _ w2⟩ ⟨pc_blind, pc_at hKn hPc hDc⟩ rfl hAs hsize hst (lv_room hW) hdg hf) hP hD hS hA isC isR hC hR hn hdis kk
/-- fields -/
theorem g_get (F : CallFix p m c cc nL s args BIG own) (hKn : Kn g s) (hP : va_P g.1 vwCl w H) {C : String} {T : u_T} {N ci : Nat} {a : Nat} {fs : List Value} (hin : ∀ w ∈ u_ws C T N, w ∈ BIG) (q0 : Nat) (he : w[q0]? = some (a, .inr (ci, fs))) (hc : vwCl[ci]? = some (C, T, N)) (k : Nat) (hk : k < N) (hl : Cond.fieldLink own index (T k).1 (T k).2.1 (T k).2.2.1 ∈ BIG) {v : Value} (hv : fs[k]? = some v) (hdg : decode cc pc = .ok (.getfield index, 3))
    (kk : W p l e R s m args below meth c H locs cells slots Q (F0 m (pc + 3) ls (v :: rest))) : W p l e R s m args below meth c H locs cells slots Q (F0 m pc ls (.ref a :: rest)) :=
  va_get (D := g.1) F.1 F.2.1 F.2.2.2.2 hin F.2.2.2.1 hKn.1 hP q0 he hc k hk (F.2.2.2.2 _ hl) (fun _ h => h) hv hdg kk
theorem g_getN (F : CallFix p m c cc nL s args BIG own) (hKn : Kn g s) (hP : va_P g.1 vwCl w H) {C : String} {T : u_T} {N ci : Nat} {a : Nat} {fs : List Value} (hin : ∀ w ∈ u_ws C T N, w ∈ BIG) (q0 : Nat) (he : w[q0]? = some (a, .inr (ci, fs))) (hc : vwCl[ci]? = some (C, T, N)) (k : Nat) (hk : k < N) (hl : Cond.fieldLinkNest own index (T k).1 (T k).2.1 (T k).2.2.1 RX11 ∈ nests) {v : Value} (hv : fs[k]? = some v) (hdg : decode cc pc = .ok (.getfield index, 3))
    (kk : W p l e R s m args below meth c H locs cells slots Q (F0 m (pc + 3) ls (v :: rest))) : W p l e R s m args below meth c H locs cells slots Q (F0 m pc ls (.ref a :: rest)) :=
  va_getN (D := g.1) F.1 F.2.1 F.2.2.2.2 hin F.2.2.2.1 hKn.1 hP q0 he hc k hk (va_Nw.use rfl (hKn.2.1 _ hl)) (fun _ h => h) hv hdg kk
theorem g_put (F : CallFix p m c cc nL s args BIG own) (hKn : Kn g s) (hP : va_P g.1 vwCl w H) (hD : va_D A w) (hS : va_S A H0 H locs) {C : String} {T : u_T} {N ci : Nat} {a : Nat} {fs : List Value} (hin : ∀ w ∈ u_ws C T N, w ∈ BIG) (ty0 : Nat → FieldType) (hty : ∀ k, k < N → parseFieldDescriptor (T k).2.2.1 = some (ty0 k)) (hnm : ∀ a, a < N → ∀ b, b < N → a ≠ b → (T a).2.1 ≠ (T b).2.1) (q0 : Nat) (he : w[q0]? = some (a, .inr (ci, fs))) (hc : vwCl[ci]? = some (C, T, N)) (k : Nat) (hk : k < N) (hl : Cond.fieldLink own index (T k).1 (T k).2.1 (T k).2.2.1 ∈ BIG) (hfin : (T k).2.2.2 = false) {v : Value} (hnr : narrow (ty0 k) v = v) (hft : fits (ty0 k) v = true) (hlen : k < fs.length) (hdg : decode cc pc = .ok (.putfield index, 3))
    (kk : ∀ (H1 : Heap) (locs1 : List Loc), va_P g.1 vwCl (w.set q0 (a, .inr (ci, fs.set k v))) H1 → va_D A (w.set q0 (a, .inr (ci, fs.set k v))) → va_S A H0 H1 locs1 → W p l e R s m args below meth c H1 locs1 cells slots Q (F0 m (pc + 3) ls rest)) : W p l e R s m args below meth c H locs cells slots Q (F0 m pc ls (v :: .ref a :: rest)) :=
  va_put (D := g.1) F.1 F.2.1 F.2.2.2.2 hin ty0 hty hnm F.2.2.2.1 hKn.1 hP hD hS q0 he hc k hk (F.2.2.2.2 _ hl) (fun _ h => h) hfin (hty k hk) hnr hft hlen hdg kk
theorem g_putN (F : CallFix p m c cc nL s args BIG own) (hKn : Kn g s) (hP : va_P g.1 vwCl w H) (hD : va_D A w) (hS : va_S A H0 H locs) {C : String} {T : u_T} {N ci : Nat} {a : Nat} {fs : List Value} (hin : ∀ w ∈ u_ws C T N, w ∈ BIG) (ty0 : Nat → FieldType) (hty : ∀ k, k < N → parseFieldDescriptor (T k).2.2.1 = some (ty0 k)) (hnm : ∀ a, a < N → ∀ b, b < N → a ≠ b → (T a).2.1 ≠ (T b).2.1) (q0 : Nat) (he : w[q0]? = some (a, .inr (ci, fs))) (hc : vwCl[ci]? = some (C, T, N)) (k : Nat) (hk : k < N) (hl : Cond.fieldLinkNest own index (T k).1 (T k).2.1 (T k).2.2.1 RX11 ∈ nests) (hfin : (T k).2.2.2 = false) {v : Value} (hnr : narrow (ty0 k) v = v) (hft : fits (ty0 k) v = true) (hlen : k < fs.length) (hdg : decode cc pc = .ok (.putfield index, 3))
    (kk : ∀ (H1 : Heap) (locs1 : List Loc), va_P g.1 vwCl (w.set q0 (a, .inr (ci, fs.set k v))) H1 → va_D A (w.set q0 (a, .inr (ci, fs.set k v))) → va_S A H0 H1 locs1 → W p l e R s m args below meth c H1 locs1 cells slots Q (F0 m (pc + 3) ls rest)) : W p l e R s m args below meth c H locs cells slots Q (F0 m pc ls (v :: .ref a :: rest)) :=
  va_putN (D := g.1) F.1 F.2.1 F.2.2.2.2 hin ty0 hty hnm F.2.2.2.1 hKn.1 hP hD hS q0 he hc k hk (va_Nw.use rfl (hKn.2.1 _ hl)) (fun _ h => h) hfin (hty k hk) hnr hft hlen hdg kk
theorem g_putF (F : CallFix p m c cc nL s args BIG own) (hKn : Kn g s) (hP : va_P g.1 vwCl w H) (hD : va_D A w) (hS : va_S A H0 H locs) {C : String} {T : u_T} {N ci : Nat} {a : Nat} {fs : List Value} (hin : ∀ w ∈ u_ws C T N, w ∈ BIG) (ty0 : Nat → FieldType) (hty : ∀ k, k < N → parseFieldDescriptor (T k).2.2.1 = some (ty0 k)) (hnm : ∀ a, a < N → ∀ b, b < N → a ≠ b → (T a).2.1 ≠ (T b).2.1) (q0 : Nat) (he : w[q0]? = some (a, .inr (ci, fs))) (hc : vwCl[ci]? = some (C, T, N)) (k : Nat) (hk : k < N) (hl : Cond.fieldLink own index (T k).1 (T k).2.1 (T k).2.2.1 ∈ BIG) (hfin : (T k).2.2.2 = true) (hini : meth.name = "<init>") (hdec : (T k).1 = own) {v : Value} (hnr : narrow (ty0 k) v = v) (hft : fits (ty0 k) v = true) (hlen : k < fs.length) (hdg : decode cc pc = .ok (.putfield index, 3))
    (kk : ∀ (H1 : Heap) (locs1 : List Loc), va_P g.1 vwCl (w.set q0 (a, .inr (ci, fs.set k v))) H1 → va_D A (w.set q0 (a, .inr (ci, fs.set k v))) → va_S A H0 H1 locs1 → W p l e R s m args below meth c H1 locs1 cells slots Q (F0 m (pc + 3) ls rest)) : W p l e R s m args below meth c H locs cells slots Q (F0 m pc ls (v :: .ref a :: rest)) :=
  va_putF (D := g.1) F.1 F.2.1 F.2.2.2.2 hin ty0 hty hnm F.2.2.2.1 hKn.1 hP hD hS q0 he hc k hk (F.2.2.2.2 _ hl) (fun _ h => h) hfin hini hdec (hty k hk) hnr hft hlen hdg kk
/-- a computed number by its value -/
theorem tp_i {x v : Int32} (h : x = v) (k : W p l e R s m args below meth c H locs cells slots Q (F0 m pc ls (.int v :: rest))) : W p l e R s m args below meth c H locs cells slots Q (F0 m pc ls (.int x :: rest)) := by rw [h]; exact k
theorem tp_l {x v : Int64} (h : x = v) (k : W p l e R s m args below meth c H locs cells slots Q (F0 m pc ls (.long v :: rest))) : W p l e R s m args below meth c H locs cells slots Q (F0 m pc ls (.long x :: rest)) := by rw [h]; exact k
/-- arrays of numbers made, at the class that is known -/
theorem g_newa (F : CallFix p m c cc nL s args BIG own) (hKn : Kn g s) (hP : va_P g.1 vwCl w H) (hD : va_D A w) (hS : va_S A H0 H locs) (hA : ∀ q : Nat, H0.size ≤ q → A q) {atype : ArrayType} (harr : Cond.arrayClass (newarray.typeOf atype) ∈ BIG) {ty : FieldType} (hty : newarray.typeOf atype = ty) (t0 : Nat) {cA : ClassId} (ht : (TY g.2)[t0]? = some (cA, ty)) (hpr : ∀ C, ty ≠ .object C)
    {n : Int32} {N' : Nat} {a0 : vp_A} (ha : ∀ cA : ClassId, vp_cell cA a0 = arrV cA N' (fun _ => defaultValue ty)) (hn : ¬ n < 0) (hN : n.toNatClampNeg = N') (hbytes : N' * componentBytes ty ≤ 536870912) (hcells : cells + 1 ≤ R.cells) (hslots : slots + N' ≤ R.slots) (hdg : decode cc pc = .ok (.newarray atype, 2))
    (kk : ∀ (q : Nat) (H1 : Heap), va_P g.1 vwCl (w ++ [(q, .inl (cA, a0))]) H1 → va_D A (w ++ [(q, .inl (cA, a0))]) → va_S A H0 H1 locs → W p l e R s m args below meth c H1 locs (cells + 1) (slots + N') Q (F0 m (pc + 2) ls (.ref q :: rest))) : W p l e R s m args below meth c H locs cells slots Q (F0 m pc ls (.int n :: rest)) := by
  refine va_newa (D := g.1) F.1 F.2.1 (F.2.2.2.2 _ harr) hty hKn.1 hP hD hS hA ha hn hN hbytes hcells hslots hdg (fun q cB H1 hK2 hP2 hD2 hS2 => ?_)
  have e1 := (hKn.1.2 t0 _ ht).2
  have e2 := (hK2.2 (TY g.2).length _ (by rw [List.getElem?_append_right (Nat.le_refl _), Nat.sub_self]; rfl)).2
  have e3 : cB = cA := by
    cases ty <;> first | exact absurd rfl (hpr _) | exact Option.some.inj (e2.symm.trans e1)
  subst e3
  exact kk q H1 hP2 hD2 hS2
theorem g_newq (F : CallFix p m c cc nL s args BIG own) (hKn : Kn g s) (hP : va_P g.1 vwCl w H) (hD : va_D A w) (hS : va_S A H0 H locs) (hA : ∀ q : Nat, H0.size ≤ q → A q) {C : String} (hcl : Cond.classLink own index C ∈ BIG) (hov : va_AO C s) (t0 : Nat) {cA : ClassId} (ht : (TY g.2)[t0]? = some (cA, .object C))
    {n : Int32} {N' : Nat} (hn : ¬ n < 0) (hN : n.toNatClampNeg = N') (hbytes : N' * 4 ≤ 536870912) (hcells : cells + 1 ≤ R.cells) (hslots : slots + N' ≤ R.slots) (hdg : decode cc pc = .ok (.anewarray index, 3))
    (kk : ∀ (q : Nat) (H1 : Heap), va_P g.1 vwCl (w ++ [(q, .inl (cA, N', .inr (.inr (.inr (.inr (fun _ => none))))))]) H1 → va_D A (w ++ [(q, .inl (cA, N', .inr (.inr (.inr (.inr (fun _ => none))))))]) → va_S A H0 H1 locs → W p l e R s m args below meth c H1 locs (cells + 1) (slots + N') Q (F0 m (pc + 3) ls (.ref q :: rest))) : W p l e R s m args below meth c H locs cells slots Q (F0 m pc ls (.int n :: rest)) := by
  refine va_newq (D := g.1) F.1 F.2.1 F.2.2.2.1 (F.2.2.2.2 _ hcl) hov hKn.1 hP hD hS hA hn hN hbytes hcells hslots hdg (fun q cB H1 hK2 hP2 hD2 hS2 => ?_)
  obtain ⟨kA, comp, f1, f2, f3, f4⟩ := (hKn.1.2 t0 _ ht).2
  obtain ⟨kB, comp2, g1, g2, g3, g4⟩ := (hK2.2 (TY g.2).length (cB, .object C) (by rw [List.getElem?_append_right (Nat.le_refl _), Nat.sub_self]; rfl)).2
  have e3 : cB = cA := Option.some.inj (g4.symm.trans f4)
  subst e3
  exact kk q H1 hP2 hD2 hS2
theorem g_new (F : CallFix p m c cc nL s args BIG own) (hKn : Kn g s) (hP : va_P g.1 vwCl w H) (hD : va_D A w) (hS : va_S A H0 H locs) (hA : ∀ q : Nat, H0.size ≤ q → A q) {C : String} {T : u_T} {N ci : Nat} (hin : ∀ w ∈ u_ws C T N, w ∈ BIG) (ty : Nat → FieldType) (hty : ∀ k, k < N → parseFieldDescriptor (T k).2.2.1 = some (ty k)) (hcl : Cond.classLink own index C ∈ BIG) (hinst : Cond.instantiable C N ∈ BIG) (hini : Cond.initialized C ∈ BIG) (hc : vwCl[ci]? = some (C, T, N)) {fs : List Value} (hfs : ∀ j, j < N → defaultValue (ty j) = vp_V fs j) (hcells : cells + 1 ≤ R.cells) (hslots : slots + N ≤ R.slots) (hdg : decode cc pc = .ok (.new index, 3))
    (kk : ∀ (q : Nat) (H1 : Heap), va_P g.1 vwCl (w ++ [(q, .inr (ci, fs))]) H1 → va_D A (w ++ [(q, .inr (ci, fs))]) → va_S A H0 H1 locs → W p l e R s m args below meth c H1 locs (cells + 1) (slots + N) Q (F0 m (pc + 3) ls (.ref q :: rest))) : W p l e R s m args below meth c H locs cells slots Q (F0 m pc ls rest) := by
  refine va_new (D := g.1) F.1 F.2.1 F.2.2.2.2 hin ty hty F.2.2.2.1 (F.2.2.2.2 _ hcl) (F.2.2.2.2 _ hinst) (F.2.2.2.2 _ hini) hKn.1 hP hD hS hA hc hfs hcells hslots hdg ?_
  intros
  apply kk <;> assumption
/-- ends -/
theorem rt_i (F : Fx p m meth c cc nL s args y (some .int) g A) {v : Int32} (u : S) (hv : some (Value.int v) = val u) (hp : post u) (hP : va_P g.1 vwCl (w1 u) H) (hD : va_D A (w1 u)) (hS : va_S A s.heap H locs) (h1 : cells ≤ mc) (h2 : slots ≤ ms) (hdg : decode cc pc = .ok (.ireturn, 1)) : W p l e R s m args below meth c H locs cells slots (MQ below (QX val post g w1 A) args s mc ms A) (F0 m pc ls [.int v]) := by
  obtain ⟨⟨hx, hb, hml, hown, hB⟩, hr, hlk, hKn, hA, hnm⟩ := F
  refine W.widen (k := mc) (n := ms) h1 h2 ?_
  exact W.iret (v := v) hx hb hr (fun t ht hW => ⟨⟨u, by rw [hv], hp, by rw [ht]; exact hP, hD⟩, hS.F ht⟩) hS.2.2 hdg hlk
theorem rt_z (F : Fx p m meth c cc nL s args y (some .boolean) g A) {v : Int32} (hnr : narrow .boolean (.int v) = .int v) (u : S) (hv : some (Value.int v) = val u) (hp : post u) (hP : va_P g.1 vwCl (w1 u) H) (hD : va_D A (w1 u)) (hS : va_S A s.heap H locs) (h1 : cells ≤ mc) (h2 : slots ≤ ms) (hdg : decode cc pc = .ok (.ireturn, 1)) : W p l e R s m args below meth c H locs cells slots (MQ below (QX val post g w1 A) args s mc ms A) (F0 m pc ls [.int v]) := by
  obtain ⟨⟨hx, hb, hml, hown, hB⟩, hr, hlk, hKn, hA, hnm⟩ := F
  refine W.widen (k := mc) (n := ms) h1 h2 ?_
  exact W.zret (v := v) hx hb hr hnr (fun t ht hW => ⟨⟨u, by rw [hv], hp, by rw [ht]; exact hP, hD⟩, hS.F ht⟩) hS.2.2 hdg hlk
theorem rt_v (F : Fx p m meth c cc nL s args y none g A) (u : S) (hv : none = val u) (hp : post u) (hP : va_P g.1 vwCl (w1 u) H) (hD : va_D A (w1 u)) (hS : va_S A s.heap H locs) (h1 : cells ≤ mc) (h2 : slots ≤ ms) (hdg : decode cc pc = .ok (.return_, 1)) : W p l e R s m args below meth c H locs cells slots (MQ below (QX val post g w1 A) args s mc ms A) (F0 m pc ls []) := by
  obtain ⟨⟨hx, hb, hml, hown, hB⟩, hr, hlk, hKn, hA, hnm⟩ := F
  refine W.widen (k := mc) (n := ms) h1 h2 ?_
  exact W.vret hx hb hr (fun t ht hW => ⟨⟨u, by rw [hv], hp, by rw [ht]; exact hP, hD⟩, hS.F ht⟩) hS.2.2 hdg hlk
theorem rt_n {C : String} (F : Fx p m meth c cc nL s args y (some (.object C)) g A) (u : S) (hv : some Value.null = val u) (hp : post u) (hP : va_P g.1 vwCl (w1 u) H) (hD : va_D A (w1 u)) (hS : va_S A s.heap H locs) (h1 : cells ≤ mc) (h2 : slots ≤ ms) (hdg : decode cc pc = .ok (.areturn, 1)) : W p l e R s m args below meth c H locs cells slots (MQ below (QX val post g w1 A) args s mc ms A) (F0 m pc ls [.null]) := by
  obtain ⟨⟨hx, hb, hml, hown, hB⟩, hr, hlk, hKn, hA, hnm⟩ := F
  refine W.widen (k := mc) (n := ms) h1 h2 ?_
  exact W.aret (v := .null) hx hb hr (Or.inl ⟨_, rfl⟩) (Or.inl rfl) (fun t ht hW => ⟨⟨u, by rw [hv], hp, by rw [ht]; exact hP, hD⟩, hS.F ht⟩) hS.2.2 hdg hlk
end CORE
/-- comparisons, as whole numbers -/
theorem k_lt {x y : Int32} {a b : Int} (hx : x.toInt = a) (hy : y.toInt = b) (h : x < y) : a < b := by rw [← hx, ← hy]; exact Int32.lt_iff_toInt_lt.mp h
theorem k_nlt {x y : Int32} {a b : Int} (hx : x.toInt = a) (hy : y.toInt = b) (h : ¬ x < y) : b ≤ a := by rw [← hx, ← hy]; exact Int.not_lt.mp (fun q => h (Int32.lt_iff_toInt_lt.mpr q))
theorem k_le {x y : Int32} {a b : Int} (hx : x.toInt = a) (hy : y.toInt = b) (h : x ≤ y) : a ≤ b := by rw [← hx, ← hy]; exact Int32.le_iff_toInt_le.mp h
theorem k_nle {x y : Int32} {a b : Int} (hx : x.toInt = a) (hy : y.toInt = b) (h : ¬ x ≤ y) : b < a := by rw [← hx, ← hy]; exact Int.not_le.mp (fun q => h (Int32.le_iff_toInt_le.mpr q))
theorem k_eq {x y : Int32} {a b : Int} (hx : x.toInt = a) (hy : y.toInt = b) (h : x = y) : a = b := by rw [← hx, ← hy, h]
theorem k_ne {x y : Int32} {a b : Int} (hx : x.toInt = a) (hy : y.toInt = b) (h : ¬ x = y) : a ≠ b := by rw [← hx, ← hy]; exact fun q => h (Int32.toInt_inj.mp q)
end
section
theorem tin_1 : ∀ w ∈ tables_1_1, w ∈ lw_tbl := fun w h => List.mem_append_right (k2_sels lw_privs) (show w ∈ tables_1 from List.mem_append_left _ h)
theorem tin_2 : ∀ w ∈ tables_1_2, w ∈ lw_tbl := fun w h => List.mem_append_right (k2_sels lw_privs) (show w ∈ tables_1 from List.mem_append_right _ (List.mem_append_left _ h))
theorem tin_3 : ∀ w ∈ tables_1_3, w ∈ lw_tbl := fun w h => List.mem_append_right (k2_sels lw_privs) (show w ∈ tables_1 from List.mem_append_right _ (List.mem_append_right _ (List.mem_append_left _ h)))
theorem tin_4 : ∀ w ∈ tables_1_4, w ∈ lw_tbl := fun w h => List.mem_append_right (k2_sels lw_privs) (show w ∈ tables_1 from List.mem_append_right _ (List.mem_append_right _ (List.mem_append_right _ (List.mem_append_left _ h))))
theorem tin_5 : ∀ w ∈ tables_1_5, w ∈ lw_tbl := fun w h => List.mem_append_right (k2_sels lw_privs) (show w ∈ tables_1 from List.mem_append_right _ (List.mem_append_right _ (List.mem_append_right _ (List.mem_append_right _ (List.mem_append_left _ h)))))
theorem tin_6 : ∀ w ∈ tables_1_6, w ∈ lw_tbl := fun w h => List.mem_append_right (k2_sels lw_privs) (show w ∈ tables_1 from List.mem_append_right _ (List.mem_append_right _ (List.mem_append_right _ (List.mem_append_right _ (List.mem_append_right _ (List.mem_append_left _ h))))))
theorem tin_7 : ∀ w ∈ tables_1_7, w ∈ lw_tbl := fun w h => List.mem_append_right (k2_sels lw_privs) (show w ∈ tables_1 from List.mem_append_right _ (List.mem_append_right _ (List.mem_append_right _ (List.mem_append_right _ (List.mem_append_right _ (List.mem_append_right _ (List.mem_append_left _ h)))))))
theorem tin_8 : ∀ w ∈ tables_1_8, w ∈ lw_tbl := fun w h => List.mem_append_right (k2_sels lw_privs) (show w ∈ tables_1 from List.mem_append_right _ (List.mem_append_right _ (List.mem_append_right _ (List.mem_append_right _ (List.mem_append_right _ (List.mem_append_right _ (List.mem_append_right _ (List.mem_append_left _ h))))))))
theorem tin_9 : ∀ w ∈ tables_1_9, w ∈ lw_tbl := fun w h => List.mem_append_right (k2_sels lw_privs) (show w ∈ tables_1 from List.mem_append_right _ (List.mem_append_right _ (List.mem_append_right _ (List.mem_append_right _ (List.mem_append_right _ (List.mem_append_right _ (List.mem_append_right _ (List.mem_append_right _ (h)))))))))
theorem sin_1 : ∀ w ∈ k2_sels lw_privs_1, w ∈ lw_tbl := fun w hw => List.mem_append_left tables_1 (show w ∈ k2_sels lw_privs from by
  obtain ⟨q, h, hq⟩ := List.mem_map.mp hw
  exact List.mem_map.mpr ⟨q, (show q ∈ lw_privs from List.mem_append_left _ h), hq⟩)
theorem sin_2 : ∀ w ∈ k2_sels lw_privs_2, w ∈ lw_tbl := fun w hw => List.mem_append_left tables_1 (show w ∈ k2_sels lw_privs from by
  obtain ⟨q, h, hq⟩ := List.mem_map.mp hw
  exact List.mem_map.mpr ⟨q, (show q ∈ lw_privs from List.mem_append_right _ (List.mem_append_left _ h)), hq⟩)
theorem sin_3 : ∀ w ∈ k2_sels lw_privs_3, w ∈ lw_tbl := fun w hw => List.mem_append_left tables_1 (show w ∈ k2_sels lw_privs from by
  obtain ⟨q, h, hq⟩ := List.mem_map.mp hw
  exact List.mem_map.mpr ⟨q, (show q ∈ lw_privs from List.mem_append_right _ (List.mem_append_right _ (List.mem_append_left _ h))), hq⟩)
theorem sin_4 : ∀ w ∈ k2_sels lw_privs_4, w ∈ lw_tbl := fun w hw => List.mem_append_left tables_1 (show w ∈ k2_sels lw_privs from by
  obtain ⟨q, h, hq⟩ := List.mem_map.mp hw
  exact List.mem_map.mpr ⟨q, (show q ∈ lw_privs from List.mem_append_right _ (List.mem_append_right _ (List.mem_append_right _ (List.mem_append_left _ h)))), hq⟩)
theorem sin_5 : ∀ w ∈ k2_sels lw_privs_5, w ∈ lw_tbl := fun w hw => List.mem_append_left tables_1 (show w ∈ k2_sels lw_privs from by
  obtain ⟨q, h, hq⟩ := List.mem_map.mp hw
  exact List.mem_map.mpr ⟨q, (show q ∈ lw_privs from List.mem_append_right _ (List.mem_append_right _ (List.mem_append_right _ (List.mem_append_right _ (List.mem_append_left _ h))))), hq⟩)
theorem sin_6 : ∀ w ∈ k2_sels lw_privs_6, w ∈ lw_tbl := fun w hw => List.mem_append_left tables_1 (show w ∈ k2_sels lw_privs from by
  obtain ⟨q, h, hq⟩ := List.mem_map.mp hw
  exact List.mem_map.mpr ⟨q, (show q ∈ lw_privs from List.mem_append_right _ (List.mem_append_right _ (List.mem_append_right _ (List.mem_append_right _ (List.mem_append_right _ (List.mem_append_left _ h)))))), hq⟩)
theorem sin_7 : ∀ w ∈ k2_sels lw_privs_7, w ∈ lw_tbl := fun w hw => List.mem_append_left tables_1 (show w ∈ k2_sels lw_privs from by
  obtain ⟨q, h, hq⟩ := List.mem_map.mp hw
  exact List.mem_map.mpr ⟨q, (show q ∈ lw_privs from List.mem_append_right _ (List.mem_append_right _ (List.mem_append_right _ (List.mem_append_right _ (List.mem_append_right _ (List.mem_append_right _ (List.mem_append_left _ h))))))), hq⟩)
theorem sin_8 : ∀ w ∈ k2_sels lw_privs_8, w ∈ lw_tbl := fun w hw => List.mem_append_left tables_1 (show w ∈ k2_sels lw_privs from by
  obtain ⟨q, h, hq⟩ := List.mem_map.mp hw
  exact List.mem_map.mpr ⟨q, (show q ∈ lw_privs from List.mem_append_right _ (List.mem_append_right _ (List.mem_append_right _ (List.mem_append_right _ (List.mem_append_right _ (List.mem_append_right _ (List.mem_append_right _ (List.mem_append_left _ h)))))))), hq⟩)
theorem sin_9 : ∀ w ∈ k2_sels lw_privs_9, w ∈ lw_tbl := fun w hw => List.mem_append_left tables_1 (show w ∈ k2_sels lw_privs from by
  obtain ⟨q, h, hq⟩ := List.mem_map.mp hw
  exact List.mem_map.mpr ⟨q, (show q ∈ lw_privs from List.mem_append_right _ (List.mem_append_right _ (List.mem_append_right _ (List.mem_append_right _ (List.mem_append_right _ (List.mem_append_right _ (List.mem_append_right _ (List.mem_append_right _ (List.mem_append_left _ h))))))))), hq⟩)
theorem sin_10 : ∀ w ∈ k2_sels lw_privs_10, w ∈ lw_tbl := fun w hw => List.mem_append_left tables_1 (show w ∈ k2_sels lw_privs from by
  obtain ⟨q, h, hq⟩ := List.mem_map.mp hw
  exact List.mem_map.mpr ⟨q, (show q ∈ lw_privs from List.mem_append_right _ (List.mem_append_right _ (List.mem_append_right _ (List.mem_append_right _ (List.mem_append_right _ (List.mem_append_right _ (List.mem_append_right _ (List.mem_append_right _ (List.mem_append_right _ (List.mem_append_left _ h)))))))))), hq⟩)
theorem sin_11 : ∀ w ∈ k2_sels lw_privs_11, w ∈ lw_tbl := fun w hw => List.mem_append_left tables_1 (show w ∈ k2_sels lw_privs from by
  obtain ⟨q, h, hq⟩ := List.mem_map.mp hw
  exact List.mem_map.mpr ⟨q, (show q ∈ lw_privs from List.mem_append_right _ (List.mem_append_right _ (List.mem_append_right _ (List.mem_append_right _ (List.mem_append_right _ (List.mem_append_right _ (List.mem_append_right _ (List.mem_append_right _ (List.mem_append_right _ (List.mem_append_right _ (h))))))))))), hq⟩)
theorem b_0 : Cond.fieldLink RX0 46 "GentleLetters$Desk" "states" "I" ∈ BIG := bi (tin_1 _ (List.mem_of_getElem? (i := 97) rfl)) rfl
theorem b_1 : Cond.fieldLink RX0 62 "GentleLetters$Desk" "lines" "I" ∈ BIG := bi (tin_1 _ (List.mem_of_getElem? (i := 116) rfl)) rfl
theorem b_2 : Cond.fieldLink RX0 53 "GentleLetters$Desk" "days" "I" ∈ BIG := bi (tin_1 _ (List.mem_of_getElem? (i := 105) rfl)) rfl
theorem b_3 : Cond.fieldLink RX0 65 "GentleLetters$Desk" "hearers" "I" ∈ BIG := bi (tin_1 _ (List.mem_of_getElem? (i := 119) rfl)) rfl
theorem b_4 : Cond.fieldLink RX0 68 "GentleLetters$Desk" "words" "I" ∈ BIG := bi (tin_1 _ (List.mem_of_getElem? (i := 122) rfl)) rfl
theorem b_5 : Cond.fieldLink RX0 71 "GentleLetters$Desk" "plans" "I" ∈ BIG := bi (tin_1 _ (List.mem_of_getElem? (i := 129) rfl)) rfl
theorem b_6 : Cond.fieldLink RX0 74 "GentleLetters$Desk" "news" "I" ∈ BIG := bi (tin_1 _ (List.mem_of_getElem? (i := 133) rfl)) rfl
theorem b_7 : Cond.methodLink RX0 100 yX0_everything ∈ BIG := bi (tin_3 _ (List.mem_of_getElem? (i := 200) rfl)) rfl
theorem b_8 : Cond.constant RX11 434 (2000000000) ∈ BIG := bi (tin_6 _ (List.mem_of_getElem? (i := 33) rfl)) rfl
theorem b_9 : Cond.methodLink RX11 398 yX11_isSlot ∈ BIG := bi (tin_4 _ (List.mem_of_getElem? (i := 24) rfl)) rfl
theorem b_10 : Cond.fieldLink RX11 19 "GentleLetters" "desk" "LGentleLetters$Desk;" ∈ BIG := bi (tin_2 _ (List.mem_of_getElem? (i := 158) rfl)) rfl
theorem b_11 : Cond.methodLinkNest RX11 245 yX0_stands RX11 ∈ nests := ne (tin_4 _ (List.mem_of_getElem? (i := 27) rfl)) rfl
theorem b_12 : Cond.methodLinkNest RX11 122 yX0_hasHearer RX11 ∈ nests := ne (tin_3 _ (List.mem_of_getElem? (i := 148) rfl)) rfl
theorem b_13 : Cond.methodLinkNest RX11 114 yX0_hasState RX11 ∈ nests := ne (tin_3 _ (List.mem_of_getElem? (i := 140) rfl)) rfl
theorem b_14 : Cond.methodLinkNest RX11 132 yX0_hasWord RX11 ∈ nests := ne (tin_3 _ (List.mem_of_getElem? (i := 160) rfl)) rfl
theorem b_15 : Cond.methodLinkNest RX11 144 yX0_hasPlan RX11 ∈ nests := ne (tin_3 _ (List.mem_of_getElem? (i := 172) rfl)) rfl
theorem b_16 : Cond.methodLinkNest RX11 150 yX0_hasNews RX11 ∈ nests := ne (tin_3 _ (List.mem_of_getElem? (i := 184) rfl)) rfl
theorem b_17 : Cond.methodLinkNest RX11 159 yX0_hasBelief RX11 ∈ nests := ne (tin_3 _ (List.mem_of_getElem? (i := 196) rfl)) rfl
theorem b_18 : Cond.methodLink RX11 183 yX11_takeWeek ∈ BIG := bi (tin_4 _ (List.mem_of_getElem? (i := 20) rfl)) rfl
theorem b_19 : Cond.methodLink RX11 191 yX11_feelWeek ∈ BIG := bi (tin_4 _ (List.mem_of_getElem? (i := 54) rfl)) rfl
theorem b_20 : Cond.methodLink RX11 216 yX11_orderWeek ∈ BIG := bi (tin_4 _ (List.mem_of_getElem? (i := 129) rfl)) rfl
theorem b_21 : Cond.methodLink RX11 241 yX11_wordOfBest ∈ BIG := bi (tin_4 _ (List.mem_of_getElem? (i := 225) rfl)) rfl
theorem b_22 : Cond.methodLink RX11 305 yX11_reckonWeek ∈ BIG := bi (tin_5 _ (List.mem_of_getElem? (i := 144) rfl)) rfl
theorem b_23 : Cond.methodLink RX11 371 yX11_isSeed ∈ BIG := bi (tin_6 _ (List.mem_of_getElem? (i := 30) rfl)) rfl
theorem b_24 : Cond.code yX11_feelWeek cX11_feelWeek 4 (some .int) ∈ BIG := bi (tin_4 _ (List.mem_of_getElem? (i := 57) rfl)) rfl
theorem b_25 : Cond.instanceMethod yX11_feelWeek ∈ BIG := bi (tin_4 _ (List.mem_of_getElem? (i := 56) rfl)) rfl
theorem b_26 : Cond.selects RX11 yX11_feelWeek yX11_feelWeek ∈ BIG := bi (sin_3 _ (List.mem_map.mpr ⟨(yX11_feelWeek, 11), List.mem_of_getElem? (i := 11) rfl, rfl⟩)) rfl
theorem b_27 : Cond.initialized RX11 ∈ BIG := bi (tin_1 _ (List.mem_of_getElem? (i := 1) rfl)) rfl
theorem b_28 : Cond.code yX11_isSeed cX11_isSeed 1 (some .boolean) ∈ BIG := bi (tin_6 _ (List.mem_of_getElem? (i := 32) rfl)) rfl
theorem b_29 : Cond.static yX11_isSeed ∈ BIG := bi (tin_6 _ (List.mem_of_getElem? (i := 31) rfl)) rfl
theorem b_30 : Cond.code yX11_isSlot cX11_isSlot 1 (some .boolean) ∈ BIG := bi (tin_4 _ (List.mem_of_getElem? (i := 26) rfl)) rfl
theorem b_31 : Cond.static yX11_isSlot ∈ BIG := bi (tin_4 _ (List.mem_of_getElem? (i := 25) rfl)) rfl
theorem b_32 : Cond.code yX11_orderWeek cX11_orderWeek 4 (some .int) ∈ BIG := bi (tin_4 _ (List.mem_of_getElem? (i := 132) rfl)) rfl
theorem b_33 : Cond.instanceMethod yX11_orderWeek ∈ BIG := bi (tin_4 _ (List.mem_of_getElem? (i := 131) rfl)) rfl
theorem b_34 : Cond.selects RX11 yX11_orderWeek yX11_orderWeek ∈ BIG := bi (sin_4 _ (List.mem_map.mpr ⟨(yX11_orderWeek, 11), List.mem_of_getElem? (i := 6) rfl, rfl⟩)) rfl
theorem b_35 : Cond.code yX11_reckonWeek cX11_reckonWeek 4 (some .int) ∈ BIG := bi (tin_5 _ (List.mem_of_getElem? (i := 147) rfl)) rfl
theorem b_36 : Cond.instanceMethod yX11_reckonWeek ∈ BIG := bi (tin_5 _ (List.mem_of_getElem? (i := 146) rfl)) rfl
theorem b_37 : Cond.selects RX11 yX11_reckonWeek yX11_reckonWeek ∈ BIG := bi (sin_6 _ (List.mem_map.mpr ⟨(yX11_reckonWeek, 11), List.mem_of_getElem? (i := 1) rfl, rfl⟩)) rfl
theorem b_38 : Cond.code yX11_takeWeek cX11_takeWeek 3 (some .int) ∈ BIG := bi (tin_4 _ (List.mem_of_getElem? (i := 23) rfl)) rfl
theorem b_39 : Cond.instanceMethod yX11_takeWeek ∈ BIG := bi (tin_4 _ (List.mem_of_getElem? (i := 22) rfl)) rfl
theorem b_40 : Cond.selects RX11 yX11_takeWeek yX11_takeWeek ∈ BIG := bi (sin_3 _ (List.mem_map.mpr ⟨(yX11_takeWeek, 11), List.mem_of_getElem? (i := 5) rfl, rfl⟩)) rfl
theorem b_41 : Cond.code yX11_wordOfBest cX11_wordOfBest 5 (some .int) ∈ BIG := bi (tin_4 _ (List.mem_of_getElem? (i := 228) rfl)) rfl
theorem b_42 : Cond.instanceMethod yX11_wordOfBest ∈ BIG := bi (tin_4 _ (List.mem_of_getElem? (i := 227) rfl)) rfl
theorem b_43 : Cond.selects RX11 yX11_wordOfBest yX11_wordOfBest ∈ BIG := bi (sin_5 _ (List.mem_map.mpr ⟨(yX11_wordOfBest, 11), List.mem_of_getElem? (i := 5) rfl, rfl⟩)) rfl
theorem b_44 : Cond.code yX0_everything cX0_everything 1 (some .int) ∈ BIG := bi (tin_3 _ (List.mem_of_getElem? (i := 203) rfl)) rfl
theorem b_45 : Cond.instanceMethod yX0_everything ∈ BIG := bi (tin_3 _ (List.mem_of_getElem? (i := 202) rfl)) rfl
theorem b_46 : Cond.selects RX0 yX0_everything yX0_everything ∈ BIG := bi (sin_2 _ (List.mem_map.mpr ⟨(yX0_everything, 20), List.mem_of_getElem? (i := 15) rfl, rfl⟩)) rfl
theorem b_47 : Cond.initialized RX0 ∈ BIG := bi (tin_1 _ (List.mem_of_getElem? (i := 4) rfl)) rfl
theorem b_48 : Cond.code yX0_hasBelief cX0_hasBelief 2 (some .boolean) ∈ BIG := bi (tin_3 _ (List.mem_of_getElem? (i := 199) rfl)) rfl
theorem b_49 : Cond.instanceMethod yX0_hasBelief ∈ BIG := bi (tin_3 _ (List.mem_of_getElem? (i := 198) rfl)) rfl
theorem b_50 : Cond.selects RX0 yX0_hasBelief yX0_hasBelief ∈ BIG := bi (sin_2 _ (List.mem_map.mpr ⟨(yX0_hasBelief, 20), List.mem_of_getElem? (i := 14) rfl, rfl⟩)) rfl
theorem b_51 : Cond.code yX0_hasHearer cX0_hasHearer 2 (some .boolean) ∈ BIG := bi (tin_3 _ (List.mem_of_getElem? (i := 151) rfl)) rfl
theorem b_52 : Cond.instanceMethod yX0_hasHearer ∈ BIG := bi (tin_3 _ (List.mem_of_getElem? (i := 150) rfl)) rfl
theorem b_53 : Cond.selects RX0 yX0_hasHearer yX0_hasHearer ∈ BIG := bi (sin_2 _ (List.mem_map.mpr ⟨(yX0_hasHearer, 20), List.mem_of_getElem? (i := 7) rfl, rfl⟩)) rfl
theorem b_54 : Cond.code yX0_hasNews cX0_hasNews 2 (some .boolean) ∈ BIG := bi (tin_3 _ (List.mem_of_getElem? (i := 187) rfl)) rfl
theorem b_55 : Cond.instanceMethod yX0_hasNews ∈ BIG := bi (tin_3 _ (List.mem_of_getElem? (i := 186) rfl)) rfl
theorem b_56 : Cond.selects RX0 yX0_hasNews yX0_hasNews ∈ BIG := bi (sin_2 _ (List.mem_map.mpr ⟨(yX0_hasNews, 20), List.mem_of_getElem? (i := 13) rfl, rfl⟩)) rfl
theorem b_57 : Cond.code yX0_hasPlan cX0_hasPlan 2 (some .boolean) ∈ BIG := bi (tin_3 _ (List.mem_of_getElem? (i := 175) rfl)) rfl
theorem b_58 : Cond.instanceMethod yX0_hasPlan ∈ BIG := bi (tin_3 _ (List.mem_of_getElem? (i := 174) rfl)) rfl
theorem b_59 : Cond.selects RX0 yX0_hasPlan yX0_hasPlan ∈ BIG := bi (sin_2 _ (List.mem_map.mpr ⟨(yX0_hasPlan, 20), List.mem_of_getElem? (i := 11) rfl, rfl⟩)) rfl
theorem b_60 : Cond.code yX0_hasState cX0_hasState 2 (some .boolean) ∈ BIG := bi (tin_3 _ (List.mem_of_getElem? (i := 143) rfl)) rfl
theorem b_61 : Cond.instanceMethod yX0_hasState ∈ BIG := bi (tin_3 _ (List.mem_of_getElem? (i := 142) rfl)) rfl
theorem b_62 : Cond.selects RX0 yX0_hasState yX0_hasState ∈ BIG := bi (sin_2 _ (List.mem_map.mpr ⟨(yX0_hasState, 20), List.mem_of_getElem? (i := 6) rfl, rfl⟩)) rfl
theorem b_63 : Cond.code yX0_hasWord cX0_hasWord 2 (some .boolean) ∈ BIG := bi (tin_3 _ (List.mem_of_getElem? (i := 163) rfl)) rfl
theorem b_64 : Cond.instanceMethod yX0_hasWord ∈ BIG := bi (tin_3 _ (List.mem_of_getElem? (i := 162) rfl)) rfl
theorem b_65 : Cond.selects RX0 yX0_hasWord yX0_hasWord ∈ BIG := bi (sin_2 _ (List.mem_map.mpr ⟨(yX0_hasWord, 20), List.mem_of_getElem? (i := 9) rfl, rfl⟩)) rfl
theorem b_66 : Cond.code yX0_stands cX0_stands 1 (some .boolean) ∈ BIG := bi (tin_4 _ (List.mem_of_getElem? (i := 30) rfl)) rfl
theorem b_67 : Cond.instanceMethod yX0_stands ∈ BIG := bi (tin_4 _ (List.mem_of_getElem? (i := 29) rfl)) rfl
theorem b_68 : Cond.selects RX0 yX0_stands yX0_stands ∈ BIG := bi (sin_3 _ (List.mem_map.mpr ⟨(yX0_stands, 20), List.mem_of_getElem? (i := 6) rfl, rfl⟩)) rfl
theorem b_69 : Cond.laysFinal RX11 RX11 "reader" "LGentleLetters$DeskReader;" ∈ BIG := bi (tin_2 _ (List.mem_of_getElem? (i := 168) rfl)) rfl
theorem b_70 : Cond.laysFinal RX11 RX11 "desk" "LGentleLetters$Desk;" ∈ BIG := bi (tin_2 _ (List.mem_of_getElem? (i := 170) rfl)) rfl
theorem b_71 : Cond.laysFinal RX11 RX11 "images" "[LGentleLetters$Desk;" ∈ BIG := bi (tin_2 _ (List.mem_of_getElem? (i := 172) rfl)) rfl
theorem b_72 : Cond.laysFinal RX11 RX11 "imaged" "[Z" ∈ BIG := bi (tin_2 _ (List.mem_of_getElem? (i := 174) rfl)) rfl
theorem b_73 : Cond.laysFinal RX11 RX11 "rows" "[LGentleLetters$Row;" ∈ BIG := bi (tin_2 _ (List.mem_of_getElem? (i := 176) rfl)) rfl
theorem b_74 : Cond.laysFinal RX11 RX11 "week" "LGentleLetters$Week;" ∈ BIG := bi (tin_2 _ (List.mem_of_getElem? (i := 178) rfl)) rfl
theorem b_75 : Cond.laysFinal RX11 RX11 "mind" "LGentleLetters$Mind;" ∈ BIG := bi (tin_2 _ (List.mem_of_getElem? (i := 180) rfl)) rfl
theorem b_76 : Cond.laysFinal RX11 RX11 "reach" "LGentleLetters$Reach;" ∈ BIG := bi (tin_2 _ (List.mem_of_getElem? (i := 182) rfl)) rfl
theorem b_77 : Cond.laysFinal RX11 RX11 "planner" "LGentleLetters$Planner;" ∈ BIG := bi (tin_2 _ (List.mem_of_getElem? (i := 184) rfl)) rfl
theorem b_78 : Cond.laysFinal RX11 RX11 "risks" "LGentleLetters$Risks;" ∈ BIG := bi (tin_2 _ (List.mem_of_getElem? (i := 186) rfl)) rfl
theorem b_79 : Cond.laysFinal RX11 RX11 "letters" "LGentleLetters$Letters;" ∈ BIG := bi (tin_2 _ (List.mem_of_getElem? (i := 188) rfl)) rfl
theorem b_80 : Cond.lays RX0 RX0 "states" "I" ∈ BIG := bi (tin_1 _ (List.mem_of_getElem? (i := 165) rfl)) rfl
theorem b_81 : Cond.lays RX0 RX0 "really" "I" ∈ BIG := bi (tin_1 _ (List.mem_of_getElem? (i := 167) rfl)) rfl
theorem b_82 : Cond.lays RX0 RX0 "days" "I" ∈ BIG := bi (tin_1 _ (List.mem_of_getElem? (i := 169) rfl)) rfl
theorem b_83 : Cond.lays RX0 RX0 "heal" "I" ∈ BIG := bi (tin_1 _ (List.mem_of_getElem? (i := 171) rfl)) rfl
theorem b_84 : Cond.lays RX0 RX0 "leak" "I" ∈ BIG := bi (tin_1 _ (List.mem_of_getElem? (i := 173) rfl)) rfl
theorem b_85 : Cond.lays RX0 RX0 "lines" "I" ∈ BIG := bi (tin_1 _ (List.mem_of_getElem? (i := 175) rfl)) rfl
theorem b_86 : Cond.lays RX0 RX0 "hearers" "I" ∈ BIG := bi (tin_1 _ (List.mem_of_getElem? (i := 177) rfl)) rfl
theorem b_87 : Cond.lays RX0 RX0 "words" "I" ∈ BIG := bi (tin_1 _ (List.mem_of_getElem? (i := 179) rfl)) rfl
theorem b_88 : Cond.lays RX0 RX0 "plans" "I" ∈ BIG := bi (tin_1 _ (List.mem_of_getElem? (i := 181) rfl)) rfl
theorem b_89 : Cond.lays RX0 RX0 "news" "I" ∈ BIG := bi (tin_1 _ (List.mem_of_getElem? (i := 183) rfl)) rfl
theorem b_90 : Cond.laysFinal RX0 RX0 "grades" "[I" ∈ BIG := bi (tin_1 _ (List.mem_of_getElem? (i := 185) rfl)) rfl
theorem b_91 : Cond.laysFinal RX0 RX0 "thoughts" "[I" ∈ BIG := bi (tin_1 _ (List.mem_of_getElem? (i := 187) rfl)) rfl
theorem b_92 : Cond.laysFinal RX0 RX0 "reckonings" "[I" ∈ BIG := bi (tin_1 _ (List.mem_of_getElem? (i := 189) rfl)) rfl
theorem b_93 : Cond.laysFinal RX0 RX0 "told" "[I" ∈ BIG := bi (tin_1 _ (List.mem_of_getElem? (i := 191) rfl)) rfl
theorem b_94 : Cond.laysFinal RX0 RX0 "shames" "[I" ∈ BIG := bi (tin_1 _ (List.mem_of_getElem? (i := 193) rfl)) rfl
theorem b_95 : Cond.laysFinal RX0 RX0 "meanings" "[I" ∈ BIG := bi (tin_1 _ (List.mem_of_getElem? (i := 195) rfl)) rfl
theorem b_96 : Cond.laysFinal RX0 RX0 "planSizes" "[I" ∈ BIG := bi (tin_1 _ (List.mem_of_getElem? (i := 197) rfl)) rfl
theorem b_97 : Cond.laysFinal RX0 RX0 "planWords" "[I" ∈ BIG := bi (tin_1 _ (List.mem_of_getElem? (i := 199) rfl)) rfl
theorem b_98 : Cond.laysFinal RX0 RX0 "tidings" "[I" ∈ BIG := bi (tin_1 _ (List.mem_of_getElem? (i := 201) rfl)) rfl
theorem b_99 : Cond.laysFinal RX0 RX0 "log" "LGentleLetters$Log;" ∈ BIG := bi (tin_1 _ (List.mem_of_getElem? (i := 203) rfl)) rfl
theorem m_yX11_feelWeek : MV yX11_feelWeek cX11_feelWeek 4 (some .int) 2 := ⟨b_24, b_25, b_26, b_27, by decide +kernel⟩
theorem m_yX11_isSeed : MS yX11_isSeed cX11_isSeed 1 (some .boolean) 1 := ⟨b_28, b_29, b_27, by decide +kernel⟩
theorem m_yX11_isSlot : MS yX11_isSlot cX11_isSlot 1 (some .boolean) 1 := ⟨b_30, b_31, b_27, by decide +kernel⟩
theorem m_yX11_orderWeek : MV yX11_orderWeek cX11_orderWeek 4 (some .int) 2 := ⟨b_32, b_33, b_34, b_27, by decide +kernel⟩
theorem m_yX11_reckonWeek : MV yX11_reckonWeek cX11_reckonWeek 4 (some .int) 2 := ⟨b_35, b_36, b_37, b_27, by decide +kernel⟩
theorem m_yX11_takeWeek : MV yX11_takeWeek cX11_takeWeek 3 (some .int) 1 := ⟨b_38, b_39, b_40, b_27, by decide +kernel⟩
theorem m_yX11_wordOfBest : MV yX11_wordOfBest cX11_wordOfBest 5 (some .int) 4 := ⟨b_41, b_42, b_43, b_27, by decide +kernel⟩
theorem m_yX0_everything : MV yX0_everything cX0_everything 1 (some .int) 0 := ⟨b_44, b_45, b_46, b_47, by decide +kernel⟩
theorem m_yX0_hasBelief : MV yX0_hasBelief cX0_hasBelief 2 (some .boolean) 1 := ⟨b_48, b_49, b_50, b_47, by decide +kernel⟩
theorem m_yX0_hasHearer : MV yX0_hasHearer cX0_hasHearer 2 (some .boolean) 1 := ⟨b_51, b_52, b_53, b_47, by decide +kernel⟩
theorem m_yX0_hasNews : MV yX0_hasNews cX0_hasNews 2 (some .boolean) 1 := ⟨b_54, b_55, b_56, b_47, by decide +kernel⟩
theorem m_yX0_hasPlan : MV yX0_hasPlan cX0_hasPlan 2 (some .boolean) 1 := ⟨b_57, b_58, b_59, b_47, by decide +kernel⟩
theorem m_yX0_hasState : MV yX0_hasState cX0_hasState 2 (some .boolean) 1 := ⟨b_60, b_61, b_62, b_47, by decide +kernel⟩
theorem m_yX0_hasWord : MV yX0_hasWord cX0_hasWord 2 (some .boolean) 1 := ⟨b_63, b_64, b_65, b_47, by decide +kernel⟩
theorem m_yX0_stands : MV yX0_stands cX0_stands 1 (some .boolean) 0 := ⟨b_66, b_67, b_68, b_47, by decide +kernel⟩
theorem i_X11 : ∀ w ∈ u_ws RX11 TX11 11, w ∈ BIG := fun w hw => by
  obtain ⟨k, hk, rfl⟩ := List.mem_map.mp hw
  have hk := List.mem_range.mp hk
  match k, hk with
  | 0, _ => exact b_69
  | 1, _ => exact b_70
  | 2, _ => exact b_71
  | 3, _ => exact b_72
  | 4, _ => exact b_73
  | 5, _ => exact b_74
  | 6, _ => exact b_75
  | 7, _ => exact b_76
  | 8, _ => exact b_77
  | 9, _ => exact b_78
  | 10, _ => exact b_79
  | k + 11, hk => exact absurd hk (by omega)
theorem i_X0 : ∀ w ∈ u_ws RX0 TX0 20, w ∈ BIG := fun w hw => by
  obtain ⟨k, hk, rfl⟩ := List.mem_map.mp hw
  have hk := List.mem_range.mp hk
  match k, hk with
  | 0, _ => exact b_80
  | 1, _ => exact b_81
  | 2, _ => exact b_82
  | 3, _ => exact b_83
  | 4, _ => exact b_84
  | 5, _ => exact b_85
  | 6, _ => exact b_86
  | 7, _ => exact b_87
  | 8, _ => exact b_88
  | 9, _ => exact b_89
  | 10, _ => exact b_90
  | 11, _ => exact b_91
  | 12, _ => exact b_92
  | 13, _ => exact b_93
  | 14, _ => exact b_94
  | 15, _ => exact b_95
  | 16, _ => exact b_96
  | 17, _ => exact b_97
  | 18, _ => exact b_98
  | 19, _ => exact b_99
  | k + 20, hk => exact absurd hk (by omega)
theorem dX0_everything_0 : decode cX0_everything 0 = .ok (.iconst 1, 1) := by decide +kernel
theorem dX0_everything_1 : decode cX0_everything 1 = .ok (.aload_n 0, 1) := by decide +kernel
theorem dX0_everything_2 : decode cX0_everything 2 = .ok (.getfield 46, 3) := by decide +kernel
theorem dX0_everything_5 : decode cX0_everything 5 = .ok (.ishl, 1) := by decide +kernel
theorem dX0_everything_6 : decode cX0_everything 6 = .ok (.iconst 1, 1) := by decide +kernel
theorem dX0_everything_7 : decode cX0_everything 7 = .ok (.isub, 1) := by decide +kernel
theorem dX0_everything_8 : decode cX0_everything 8 = .ok (.ireturn, 1) := by decide +kernel
theorem dX0_hasBelief_0 : decode cX0_hasBelief 0 = .ok (.iload_n 1, 1) := by decide +kernel
theorem dX0_hasBelief_1 : decode cX0_hasBelief 1 = .ok (.iconst 1, 1) := by decide +kernel
theorem dX0_hasBelief_2 : decode cX0_hasBelief 2 = .ok (.if_icmp .lt 15, 3) := by decide +kernel
theorem dX0_hasBelief_5 : decode cX0_hasBelief 5 = .ok (.iload_n 1, 1) := by decide +kernel
theorem dX0_hasBelief_6 : decode cX0_hasBelief 6 = .ok (.aload_n 0, 1) := by decide +kernel
theorem dX0_hasBelief_7 : decode cX0_hasBelief 7 = .ok (.invokevirtual 100, 3) := by decide +kernel
theorem dX0_hasBelief_10 : decode cX0_hasBelief 10 = .ok (.if_icmp .gt 7, 3) := by decide +kernel
theorem dX0_hasBelief_17 : decode cX0_hasBelief 17 = .ok (.iconst 0, 1) := by decide +kernel
theorem dX0_hasBelief_18 : decode cX0_hasBelief 18 = .ok (.ireturn, 1) := by decide +kernel
theorem dX0_hasDay_0 : decode cX0_hasDay 0 = .ok (.iload_n 1, 1) := by decide +kernel
theorem dX0_hasDay_1 : decode cX0_hasDay 1 = .ok (.ifCond .lt 15, 3) := by decide +kernel
theorem dX0_hasDay_4 : decode cX0_hasDay 4 = .ok (.iload_n 1, 1) := by decide +kernel
theorem dX0_hasDay_5 : decode cX0_hasDay 5 = .ok (.aload_n 0, 1) := by decide +kernel
theorem dX0_hasDay_6 : decode cX0_hasDay 6 = .ok (.getfield 53, 3) := by decide +kernel
theorem dX0_hasDay_9 : decode cX0_hasDay 9 = .ok (.if_icmp .ge 7, 3) := by decide +kernel
theorem dX0_hasDay_16 : decode cX0_hasDay 16 = .ok (.iconst 0, 1) := by decide +kernel
theorem dX0_hasDay_17 : decode cX0_hasDay 17 = .ok (.ireturn, 1) := by decide +kernel
theorem dX0_hasHearer_0 : decode cX0_hasHearer 0 = .ok (.iload_n 1, 1) := by decide +kernel
theorem dX0_hasHearer_1 : decode cX0_hasHearer 1 = .ok (.ifCond .lt 15, 3) := by decide +kernel
theorem dX0_hasHearer_4 : decode cX0_hasHearer 4 = .ok (.iload_n 1, 1) := by decide +kernel
theorem dX0_hasHearer_5 : decode cX0_hasHearer 5 = .ok (.aload_n 0, 1) := by decide +kernel
theorem dX0_hasHearer_6 : decode cX0_hasHearer 6 = .ok (.getfield 65, 3) := by decide +kernel
theorem dX0_hasHearer_9 : decode cX0_hasHearer 9 = .ok (.if_icmp .ge 7, 3) := by decide +kernel
theorem dX0_hasHearer_16 : decode cX0_hasHearer 16 = .ok (.iconst 0, 1) := by decide +kernel
theorem dX0_hasHearer_17 : decode cX0_hasHearer 17 = .ok (.ireturn, 1) := by decide +kernel
theorem dX0_hasNews_0 : decode cX0_hasNews 0 = .ok (.iload_n 1, 1) := by decide +kernel
theorem dX0_hasNews_1 : decode cX0_hasNews 1 = .ok (.ifCond .lt 15, 3) := by decide +kernel
theorem dX0_hasNews_4 : decode cX0_hasNews 4 = .ok (.iload_n 1, 1) := by decide +kernel
theorem dX0_hasNews_5 : decode cX0_hasNews 5 = .ok (.aload_n 0, 1) := by decide +kernel
theorem dX0_hasNews_6 : decode cX0_hasNews 6 = .ok (.getfield 74, 3) := by decide +kernel
theorem dX0_hasNews_9 : decode cX0_hasNews 9 = .ok (.if_icmp .ge 7, 3) := by decide +kernel
theorem dX0_hasNews_16 : decode cX0_hasNews 16 = .ok (.iconst 0, 1) := by decide +kernel
theorem dX0_hasNews_17 : decode cX0_hasNews 17 = .ok (.ireturn, 1) := by decide +kernel
theorem dX0_hasPlan_0 : decode cX0_hasPlan 0 = .ok (.iload_n 1, 1) := by decide +kernel
theorem dX0_hasPlan_1 : decode cX0_hasPlan 1 = .ok (.ifCond .lt 15, 3) := by decide +kernel
theorem dX0_hasPlan_4 : decode cX0_hasPlan 4 = .ok (.iload_n 1, 1) := by decide +kernel
theorem dX0_hasPlan_5 : decode cX0_hasPlan 5 = .ok (.aload_n 0, 1) := by decide +kernel
theorem dX0_hasPlan_6 : decode cX0_hasPlan 6 = .ok (.getfield 71, 3) := by decide +kernel
theorem dX0_hasPlan_9 : decode cX0_hasPlan 9 = .ok (.if_icmp .ge 7, 3) := by decide +kernel
theorem dX0_hasPlan_16 : decode cX0_hasPlan 16 = .ok (.iconst 0, 1) := by decide +kernel
theorem dX0_hasPlan_17 : decode cX0_hasPlan 17 = .ok (.ireturn, 1) := by decide +kernel
theorem dX0_hasState_0 : decode cX0_hasState 0 = .ok (.iload_n 1, 1) := by decide +kernel
theorem dX0_hasState_1 : decode cX0_hasState 1 = .ok (.ifCond .lt 15, 3) := by decide +kernel
theorem dX0_hasState_4 : decode cX0_hasState 4 = .ok (.iload_n 1, 1) := by decide +kernel
theorem dX0_hasState_5 : decode cX0_hasState 5 = .ok (.aload_n 0, 1) := by decide +kernel
theorem dX0_hasState_6 : decode cX0_hasState 6 = .ok (.getfield 46, 3) := by decide +kernel
theorem dX0_hasState_9 : decode cX0_hasState 9 = .ok (.if_icmp .ge 7, 3) := by decide +kernel
theorem dX0_hasState_16 : decode cX0_hasState 16 = .ok (.iconst 0, 1) := by decide +kernel
theorem dX0_hasState_17 : decode cX0_hasState 17 = .ok (.ireturn, 1) := by decide +kernel
theorem dX0_hasWord_0 : decode cX0_hasWord 0 = .ok (.iload_n 1, 1) := by decide +kernel
theorem dX0_hasWord_1 : decode cX0_hasWord 1 = .ok (.ifCond .lt 15, 3) := by decide +kernel
theorem dX0_hasWord_4 : decode cX0_hasWord 4 = .ok (.iload_n 1, 1) := by decide +kernel
theorem dX0_hasWord_5 : decode cX0_hasWord 5 = .ok (.aload_n 0, 1) := by decide +kernel
theorem dX0_hasWord_6 : decode cX0_hasWord 6 = .ok (.getfield 68, 3) := by decide +kernel
theorem dX0_hasWord_9 : decode cX0_hasWord 9 = .ok (.if_icmp .ge 7, 3) := by decide +kernel
theorem dX0_hasWord_16 : decode cX0_hasWord 16 = .ok (.iconst 0, 1) := by decide +kernel
theorem dX0_hasWord_17 : decode cX0_hasWord 17 = .ok (.ireturn, 1) := by decide +kernel
theorem dX0_stands_0 : decode cX0_stands 0 = .ok (.aload_n 0, 1) := by decide +kernel
theorem dX0_stands_1 : decode cX0_stands 1 = .ok (.getfield 62, 3) := by decide +kernel
theorem dX0_stands_4 : decode cX0_stands 4 = .ok (.ifCond .le 7, 3) := by decide +kernel
theorem dX0_stands_11 : decode cX0_stands 11 = .ok (.iconst 0, 1) := by decide +kernel
theorem dX0_stands_12 : decode cX0_stands 12 = .ok (.ireturn, 1) := by decide +kernel
theorem dX11_all_0 : decode cX11_all 0 = .ok (.aload_n 0, 1) := by decide +kernel
theorem dX11_all_1 : decode cX11_all 1 = .ok (.getfield 19, 3) := by decide +kernel
theorem dX11_all_4 : decode cX11_all 4 = .ok (.invokevirtual 245, 3) := by decide +kernel
theorem dX11_all_7 : decode cX11_all 7 = .ok (.ifCond .ne 6, 3) := by decide +kernel
theorem dX11_all_10 : decode cX11_all 10 = .ok (.bipush (-2), 2) := by decide +kernel
theorem dX11_all_12 : decode cX11_all 12 = .ok (.ireturn, 1) := by decide +kernel
theorem dX11_behind_0 : decode cX11_behind 0 = .ok (.aload_n 0, 1) := by decide +kernel
theorem dX11_behind_1 : decode cX11_behind 1 = .ok (.getfield 19, 3) := by decide +kernel
theorem dX11_behind_4 : decode cX11_behind 4 = .ok (.iload_n 1, 1) := by decide +kernel
theorem dX11_behind_5 : decode cX11_behind 5 = .ok (.invokevirtual 159, 3) := by decide +kernel
theorem dX11_behind_8 : decode cX11_behind 8 = .ok (.ifCond .eq 14, 3) := by decide +kernel
theorem dX11_behind_22 : decode cX11_behind 22 = .ok (.bipush (-2), 2) := by decide +kernel
theorem dX11_behind_24 : decode cX11_behind 24 = .ok (.ireturn, 1) := by decide +kernel
theorem dX11_believes_0 : decode cX11_believes 0 = .ok (.aload_n 0, 1) := by decide +kernel
theorem dX11_believes_1 : decode cX11_believes 1 = .ok (.iload_n 1, 1) := by decide +kernel
theorem dX11_believes_2 : decode cX11_believes 2 = .ok (.invokevirtual 183, 3) := by decide +kernel
theorem dX11_believes_5 : decode cX11_believes 5 = .ok (.istore_n 2, 1) := by decide +kernel
theorem dX11_believes_6 : decode cX11_believes 6 = .ok (.iload_n 2, 1) := by decide +kernel
theorem dX11_believes_7 : decode cX11_believes 7 = .ok (.ifCond .ge 7, 3) := by decide +kernel
theorem dX11_believes_10 : decode cX11_believes 10 = .ok (.iload_n 2, 1) := by decide +kernel
theorem dX11_believes_11 : decode cX11_believes 11 = .ok (.goto 14, 3) := by decide +kernel
theorem dX11_believes_25 : decode cX11_believes 25 = .ok (.ireturn, 1) := by decide +kernel
theorem dX11_calm_0 : decode cX11_calm 0 = .ok (.aload_n 0, 1) := by decide +kernel
theorem dX11_calm_1 : decode cX11_calm 1 = .ok (.getfield 19, 3) := by decide +kernel
theorem dX11_calm_4 : decode cX11_calm 4 = .ok (.iload_n 1, 1) := by decide +kernel
theorem dX11_calm_5 : decode cX11_calm 5 = .ok (.invokevirtual 122, 3) := by decide +kernel
theorem dX11_calm_8 : decode cX11_calm 8 = .ok (.ifCond .eq 14, 3) := by decide +kernel
theorem dX11_calm_22 : decode cX11_calm 22 = .ok (.bipush (-2), 2) := by decide +kernel
theorem dX11_calm_24 : decode cX11_calm 24 = .ok (.ireturn, 1) := by decide +kernel
theorem dX11_chance_0 : decode cX11_chance 0 = .ok (.aload_n 0, 1) := by decide +kernel
theorem dX11_chance_1 : decode cX11_chance 1 = .ok (.getfield 19, 3) := by decide +kernel
theorem dX11_chance_4 : decode cX11_chance 4 = .ok (.iload_n 1, 1) := by decide +kernel
theorem dX11_chance_5 : decode cX11_chance 5 = .ok (.invokevirtual 122, 3) := by decide +kernel
theorem dX11_chance_8 : decode cX11_chance 8 = .ok (.ifCond .eq 14, 3) := by decide +kernel
theorem dX11_chance_22 : decode cX11_chance 22 = .ok (.bipush (-2), 2) := by decide +kernel
theorem dX11_chance_24 : decode cX11_chance 24 = .ok (.ireturn, 1) := by decide +kernel
theorem dX11_doubt_0 : decode cX11_doubt 0 = .ok (.aload_n 0, 1) := by decide +kernel
theorem dX11_doubt_1 : decode cX11_doubt 1 = .ok (.getfield 19, 3) := by decide +kernel
theorem dX11_doubt_4 : decode cX11_doubt 4 = .ok (.iload_n 1, 1) := by decide +kernel
theorem dX11_doubt_5 : decode cX11_doubt 5 = .ok (.invokevirtual 122, 3) := by decide +kernel
theorem dX11_doubt_8 : decode cX11_doubt 8 = .ok (.ifCond .eq 24, 3) := by decide +kernel
theorem dX11_doubt_32 : decode cX11_doubt 32 = .ok (.bipush (-2), 2) := by decide +kernel
theorem dX11_doubt_34 : decode cX11_doubt 34 = .ok (.ireturn, 1) := by decide +kernel
theorem dX11_drawn_0 : decode cX11_drawn 0 = .ok (.iload_n 1, 1) := by decide +kernel
theorem dX11_drawn_1 : decode cX11_drawn 1 = .ok (.invokestatic 371, 3) := by decide +kernel
theorem dX11_drawn_4 : decode cX11_drawn 4 = .ok (.ifCond .eq 25, 3) := by decide +kernel
theorem dX11_drawn_7 : decode cX11_drawn 7 = .ok (.aload_n 0, 1) := by decide +kernel
theorem dX11_drawn_8 : decode cX11_drawn 8 = .ok (.getfield 19, 3) := by decide +kernel
theorem dX11_drawn_11 : decode cX11_drawn 11 = .ok (.iload_n 3, 1) := by decide +kernel
theorem dX11_drawn_12 : decode cX11_drawn 12 = .ok (.invokevirtual 122, 3) := by decide +kernel
theorem dX11_drawn_15 : decode cX11_drawn 15 = .ok (.ifCond .eq 14, 3) := by decide +kernel
theorem dX11_drawn_29 : decode cX11_drawn 29 = .ok (.bipush (-2), 2) := by decide +kernel
theorem dX11_drawn_31 : decode cX11_drawn 31 = .ok (.ireturn, 1) := by decide +kernel
theorem dX11_ends_0 : decode cX11_ends 0 = .ok (.aload_n 0, 1) := by decide +kernel
theorem dX11_ends_1 : decode cX11_ends 1 = .ok (.getfield 19, 3) := by decide +kernel
theorem dX11_ends_4 : decode cX11_ends 4 = .ok (.iload_n 1, 1) := by decide +kernel
theorem dX11_ends_5 : decode cX11_ends 5 = .ok (.invokevirtual 144, 3) := by decide +kernel
theorem dX11_ends_8 : decode cX11_ends 8 = .ok (.ifCond .eq 14, 3) := by decide +kernel
theorem dX11_ends_22 : decode cX11_ends 22 = .ok (.bipush (-2), 2) := by decide +kernel
theorem dX11_ends_24 : decode cX11_ends 24 = .ok (.ireturn, 1) := by decide +kernel
theorem dX11_enough_0 : decode cX11_enough 0 = .ok (.aload_n 0, 1) := by decide +kernel
theorem dX11_enough_1 : decode cX11_enough 1 = .ok (.getfield 19, 3) := by decide +kernel
theorem dX11_enough_4 : decode cX11_enough 4 = .ok (.iload_n 1, 1) := by decide +kernel
theorem dX11_enough_5 : decode cX11_enough 5 = .ok (.invokevirtual 122, 3) := by decide +kernel
theorem dX11_enough_8 : decode cX11_enough 8 = .ok (.ifCond .ne 6, 3) := by decide +kernel
theorem dX11_enough_11 : decode cX11_enough 11 = .ok (.bipush (-2), 2) := by decide +kernel
theorem dX11_enough_13 : decode cX11_enough 13 = .ok (.ireturn, 1) := by decide +kernel
theorem dX11_feelWeek_0 : decode cX11_feelWeek 0 = .ok (.aload_n 0, 1) := by decide +kernel
theorem dX11_feelWeek_1 : decode cX11_feelWeek 1 = .ok (.getfield 19, 3) := by decide +kernel
theorem dX11_feelWeek_4 : decode cX11_feelWeek 4 = .ok (.iload_n 2, 1) := by decide +kernel
theorem dX11_feelWeek_5 : decode cX11_feelWeek 5 = .ok (.invokevirtual 122, 3) := by decide +kernel
theorem dX11_feelWeek_8 : decode cX11_feelWeek 8 = .ok (.ifCond .ne 6, 3) := by decide +kernel
theorem dX11_feelWeek_11 : decode cX11_feelWeek 11 = .ok (.bipush (-2), 2) := by decide +kernel
theorem dX11_feelWeek_13 : decode cX11_feelWeek 13 = .ok (.ireturn, 1) := by decide +kernel
theorem dX11_fewest_0 : decode cX11_fewest 0 = .ok (.aload_n 0, 1) := by decide +kernel
theorem dX11_fewest_1 : decode cX11_fewest 1 = .ok (.getfield 19, 3) := by decide +kernel
theorem dX11_fewest_4 : decode cX11_fewest 4 = .ok (.invokevirtual 245, 3) := by decide +kernel
theorem dX11_fewest_7 : decode cX11_fewest 7 = .ok (.ifCond .ne 6, 3) := by decide +kernel
theorem dX11_fewest_10 : decode cX11_fewest 10 = .ok (.bipush (-2), 2) := by decide +kernel
theorem dX11_fewest_12 : decode cX11_fewest 12 = .ok (.ireturn, 1) := by decide +kernel
theorem dX11_first_0 : decode cX11_first 0 = .ok (.aload_n 0, 1) := by decide +kernel
theorem dX11_first_1 : decode cX11_first 1 = .ok (.getfield 19, 3) := by decide +kernel
theorem dX11_first_4 : decode cX11_first 4 = .ok (.invokevirtual 245, 3) := by decide +kernel
theorem dX11_first_7 : decode cX11_first 7 = .ok (.ifCond .eq 13, 3) := by decide +kernel
theorem dX11_first_20 : decode cX11_first 20 = .ok (.bipush (-2), 2) := by decide +kernel
theorem dX11_first_22 : decode cX11_first 22 = .ok (.ireturn, 1) := by decide +kernel
theorem dX11_gentlest_0 : decode cX11_gentlest 0 = .ok (.aload_n 0, 1) := by decide +kernel
theorem dX11_gentlest_1 : decode cX11_gentlest 1 = .ok (.getfield 19, 3) := by decide +kernel
theorem dX11_gentlest_4 : decode cX11_gentlest 4 = .ok (.iload_n 1, 1) := by decide +kernel
theorem dX11_gentlest_5 : decode cX11_gentlest 5 = .ok (.invokevirtual 122, 3) := by decide +kernel
theorem dX11_gentlest_8 : decode cX11_gentlest 8 = .ok (.ifCond .eq 13, 3) := by decide +kernel
theorem dX11_gentlest_21 : decode cX11_gentlest 21 = .ok (.bipush (-2), 2) := by decide +kernel
theorem dX11_gentlest_23 : decode cX11_gentlest 23 = .ok (.ireturn, 1) := by decide +kernel
theorem dX11_gently_0 : decode cX11_gently 0 = .ok (.aload_n 0, 1) := by decide +kernel
theorem dX11_gently_1 : decode cX11_gently 1 = .ok (.iload_n 1, 1) := by decide +kernel
theorem dX11_gently_2 : decode cX11_gently 2 = .ok (.iload_n 2, 1) := by decide +kernel
theorem dX11_gently_3 : decode cX11_gently 3 = .ok (.iconst 1, 1) := by decide +kernel
theorem dX11_gently_4 : decode cX11_gently 4 = .ok (.iconst 0, 1) := by decide +kernel
theorem dX11_gently_5 : decode cX11_gently 5 = .ok (.invokevirtual 241, 3) := by decide +kernel
theorem dX11_gently_8 : decode cX11_gently 8 = .ok (.ireturn, 1) := by decide +kernel
theorem dX11_grade_0 : decode cX11_grade 0 = .ok (.aload_n 0, 1) := by decide +kernel
theorem dX11_grade_1 : decode cX11_grade 1 = .ok (.getfield 19, 3) := by decide +kernel
theorem dX11_grade_4 : decode cX11_grade 4 = .ok (.iload_n 1, 1) := by decide +kernel
theorem dX11_grade_5 : decode cX11_grade 5 = .ok (.invokevirtual 114, 3) := by decide +kernel
theorem dX11_grade_8 : decode cX11_grade 8 = .ok (.ifCond .eq 15, 3) := by decide +kernel
theorem dX11_grade_23 : decode cX11_grade 23 = .ok (.bipush (-2), 2) := by decide +kernel
theorem dX11_grade_25 : decode cX11_grade 25 = .ok (.ireturn, 1) := by decide +kernel
theorem dX11_guess_0 : decode cX11_guess 0 = .ok (.aload_n 0, 1) := by decide +kernel
theorem dX11_guess_1 : decode cX11_guess 1 = .ok (.getfield 19, 3) := by decide +kernel
theorem dX11_guess_4 : decode cX11_guess 4 = .ok (.iload_n 2, 1) := by decide +kernel
theorem dX11_guess_5 : decode cX11_guess 5 = .ok (.invokevirtual 122, 3) := by decide +kernel
theorem dX11_guess_8 : decode cX11_guess 8 = .ok (.ifCond .ne 6, 3) := by decide +kernel
theorem dX11_guess_11 : decode cX11_guess 11 = .ok (.bipush (-2), 2) := by decide +kernel
theorem dX11_guess_13 : decode cX11_guess 13 = .ok (.ireturn, 1) := by decide +kernel
theorem dX11_heard_0 : decode cX11_heard 0 = .ok (.aload_n 0, 1) := by decide +kernel
theorem dX11_heard_1 : decode cX11_heard 1 = .ok (.getfield 19, 3) := by decide +kernel
theorem dX11_heard_4 : decode cX11_heard 4 = .ok (.invokevirtual 245, 3) := by decide +kernel
theorem dX11_heard_7 : decode cX11_heard 7 = .ok (.ifCond .eq 22, 3) := by decide +kernel
theorem dX11_heard_29 : decode cX11_heard 29 = .ok (.bipush (-2), 2) := by decide +kernel
theorem dX11_heard_31 : decode cX11_heard 31 = .ok (.ireturn, 1) := by decide +kernel
theorem dX11_honest_0 : decode cX11_honest 0 = .ok (.aload_n 0, 1) := by decide +kernel
theorem dX11_honest_1 : decode cX11_honest 1 = .ok (.iload_n 1, 1) := by decide +kernel
theorem dX11_honest_2 : decode cX11_honest 2 = .ok (.iload_n 2, 1) := by decide +kernel
theorem dX11_honest_3 : decode cX11_honest 3 = .ok (.iconst 0, 1) := by decide +kernel
theorem dX11_honest_4 : decode cX11_honest 4 = .ok (.iconst 1, 1) := by decide +kernel
theorem dX11_honest_5 : decode cX11_honest 5 = .ok (.invokevirtual 241, 3) := by decide +kernel
theorem dX11_honest_8 : decode cX11_honest 8 = .ok (.ireturn, 1) := by decide +kernel
theorem dX11_hope_0 : decode cX11_hope 0 = .ok (.aload_n 0, 1) := by decide +kernel
theorem dX11_hope_1 : decode cX11_hope 1 = .ok (.getfield 19, 3) := by decide +kernel
theorem dX11_hope_4 : decode cX11_hope 4 = .ok (.iload_n 2, 1) := by decide +kernel
theorem dX11_hope_5 : decode cX11_hope 5 = .ok (.invokevirtual 122, 3) := by decide +kernel
theorem dX11_hope_8 : decode cX11_hope 8 = .ok (.ifCond .eq 25, 3) := by decide +kernel
theorem dX11_hope_33 : decode cX11_hope 33 = .ok (.bipush (-2), 2) := by decide +kernel
theorem dX11_hope_35 : decode cX11_hope 35 = .ok (.ireturn, 1) := by decide +kernel
theorem dX11_hurt_0 : decode cX11_hurt 0 = .ok (.aload_n 0, 1) := by decide +kernel
theorem dX11_hurt_1 : decode cX11_hurt 1 = .ok (.getfield 19, 3) := by decide +kernel
theorem dX11_hurt_4 : decode cX11_hurt 4 = .ok (.iload_n 1, 1) := by decide +kernel
theorem dX11_hurt_5 : decode cX11_hurt 5 = .ok (.invokevirtual 122, 3) := by decide +kernel
theorem dX11_hurt_8 : decode cX11_hurt 8 = .ok (.ifCond .eq 25, 3) := by decide +kernel
theorem dX11_hurt_33 : decode cX11_hurt 33 = .ok (.bipush (-2), 2) := by decide +kernel
theorem dX11_hurt_35 : decode cX11_hurt 35 = .ok (.ireturn, 1) := by decide +kernel
theorem dX11_hurts_0 : decode cX11_hurts 0 = .ok (.aload_n 0, 1) := by decide +kernel
theorem dX11_hurts_1 : decode cX11_hurts 1 = .ok (.iload_n 1, 1) := by decide +kernel
theorem dX11_hurts_2 : decode cX11_hurts 2 = .ok (.iload_n 2, 1) := by decide +kernel
theorem dX11_hurts_3 : decode cX11_hurts 3 = .ok (.invokevirtual 191, 3) := by decide +kernel
theorem dX11_hurts_6 : decode cX11_hurts 6 = .ok (.istore_n 3, 1) := by decide +kernel
theorem dX11_hurts_7 : decode cX11_hurts 7 = .ok (.iload_n 3, 1) := by decide +kernel
theorem dX11_hurts_8 : decode cX11_hurts 8 = .ok (.ifCond .ge 7, 3) := by decide +kernel
theorem dX11_hurts_11 : decode cX11_hurts 11 = .ok (.iload_n 3, 1) := by decide +kernel
theorem dX11_hurts_12 : decode cX11_hurts 12 = .ok (.goto 10, 3) := by decide +kernel
theorem dX11_hurts_22 : decode cX11_hurts 22 = .ok (.ireturn, 1) := by decide +kernel
theorem dX11_idle_0 : decode cX11_idle 0 = .ok (.aload_n 0, 1) := by decide +kernel
theorem dX11_idle_1 : decode cX11_idle 1 = .ok (.getfield 19, 3) := by decide +kernel
theorem dX11_idle_4 : decode cX11_idle 4 = .ok (.invokevirtual 245, 3) := by decide +kernel
theorem dX11_idle_7 : decode cX11_idle 7 = .ok (.ifCond .ne 6, 3) := by decide +kernel
theorem dX11_idle_10 : decode cX11_idle 10 = .ok (.bipush (-2), 2) := by decide +kernel
theorem dX11_idle_12 : decode cX11_idle 12 = .ok (.ireturn, 1) := by decide +kernel
theorem dX11_isSeed_0 : decode cX11_isSeed 0 = .ok (.iload_n 0, 1) := by decide +kernel
theorem dX11_isSeed_1 : decode cX11_isSeed 1 = .ok (.ifCond .lt 14, 3) := by decide +kernel
theorem dX11_isSeed_4 : decode cX11_isSeed 4 = .ok (.iload_n 0, 1) := by decide +kernel
theorem dX11_isSeed_5 : decode cX11_isSeed 5 = .ok (.ldc_w 434, 3) := by decide +kernel
theorem dX11_isSeed_8 : decode cX11_isSeed 8 = .ok (.if_icmp .gt 7, 3) := by decide +kernel
theorem dX11_isSeed_11 : decode cX11_isSeed 11 = .ok (.iconst 1, 1) := by decide +kernel
theorem dX11_isSeed_12 : decode cX11_isSeed 12 = .ok (.goto 4, 3) := by decide +kernel
theorem dX11_isSeed_15 : decode cX11_isSeed 15 = .ok (.iconst 0, 1) := by decide +kernel
theorem dX11_isSeed_16 : decode cX11_isSeed 16 = .ok (.ireturn, 1) := by decide +kernel
theorem dX11_isSlot_0 : decode cX11_isSlot 0 = .ok (.iload_n 0, 1) := by decide +kernel
theorem dX11_isSlot_1 : decode cX11_isSlot 1 = .ok (.ifCond .lt 12, 3) := by decide +kernel
theorem dX11_isSlot_4 : decode cX11_isSlot 4 = .ok (.iload_n 0, 1) := by decide +kernel
theorem dX11_isSlot_5 : decode cX11_isSlot 5 = .ok (.iconst 4, 1) := by decide +kernel
theorem dX11_isSlot_6 : decode cX11_isSlot 6 = .ok (.if_icmp .ge 7, 3) := by decide +kernel
theorem dX11_isSlot_9 : decode cX11_isSlot 9 = .ok (.iconst 1, 1) := by decide +kernel
theorem dX11_isSlot_10 : decode cX11_isSlot 10 = .ok (.goto 4, 3) := by decide +kernel
theorem dX11_isSlot_13 : decode cX11_isSlot 13 = .ok (.iconst 0, 1) := by decide +kernel
theorem dX11_isSlot_14 : decode cX11_isSlot 14 = .ok (.ireturn, 1) := by decide +kernel
theorem dX11_joined_0 : decode cX11_joined 0 = .ok (.aload_n 0, 1) := by decide +kernel
theorem dX11_joined_1 : decode cX11_joined 1 = .ok (.getfield 19, 3) := by decide +kernel
theorem dX11_joined_4 : decode cX11_joined 4 = .ok (.invokevirtual 245, 3) := by decide +kernel
theorem dX11_joined_7 : decode cX11_joined 7 = .ok (.ifCond .eq 13, 3) := by decide +kernel
theorem dX11_joined_20 : decode cX11_joined 20 = .ok (.bipush (-2), 2) := by decide +kernel
theorem dX11_joined_22 : decode cX11_joined 22 = .ok (.ireturn, 1) := by decide +kernel
theorem dX11_knew_0 : decode cX11_knew 0 = .ok (.aload_n 0, 1) := by decide +kernel
theorem dX11_knew_1 : decode cX11_knew 1 = .ok (.iload_n 1, 1) := by decide +kernel
theorem dX11_knew_2 : decode cX11_knew 2 = .ok (.iload_n 2, 1) := by decide +kernel
theorem dX11_knew_3 : decode cX11_knew 3 = .ok (.invokevirtual 305, 3) := by decide +kernel
theorem dX11_knew_6 : decode cX11_knew 6 = .ok (.istore_n 3, 1) := by decide +kernel
theorem dX11_knew_7 : decode cX11_knew 7 = .ok (.iload_n 3, 1) := by decide +kernel
theorem dX11_knew_8 : decode cX11_knew 8 = .ok (.ifCond .ge 7, 3) := by decide +kernel
theorem dX11_knew_11 : decode cX11_knew 11 = .ok (.iload_n 3, 1) := by decide +kernel
theorem dX11_knew_12 : decode cX11_knew 12 = .ok (.goto 10, 3) := by decide +kernel
theorem dX11_knew_22 : decode cX11_knew 22 = .ok (.ireturn, 1) := by decide +kernel
theorem dX11_known_0 : decode cX11_known 0 = .ok (.aload_n 0, 1) := by decide +kernel
theorem dX11_known_1 : decode cX11_known 1 = .ok (.iload_n 1, 1) := by decide +kernel
theorem dX11_known_2 : decode cX11_known 2 = .ok (.invokevirtual 183, 3) := by decide +kernel
theorem dX11_known_5 : decode cX11_known 5 = .ok (.istore_n 2, 1) := by decide +kernel
theorem dX11_known_6 : decode cX11_known 6 = .ok (.iload_n 2, 1) := by decide +kernel
theorem dX11_known_7 : decode cX11_known 7 = .ok (.ifCond .ge 7, 3) := by decide +kernel
theorem dX11_known_10 : decode cX11_known 10 = .ok (.iload_n 2, 1) := by decide +kernel
theorem dX11_known_11 : decode cX11_known 11 = .ok (.goto 17, 3) := by decide +kernel
theorem dX11_known_28 : decode cX11_known 28 = .ok (.ireturn, 1) := by decide +kernel
theorem dX11_late_0 : decode cX11_late 0 = .ok (.aload_n 0, 1) := by decide +kernel
theorem dX11_late_1 : decode cX11_late 1 = .ok (.getfield 19, 3) := by decide +kernel
theorem dX11_late_4 : decode cX11_late 4 = .ok (.iload_n 1, 1) := by decide +kernel
theorem dX11_late_5 : decode cX11_late 5 = .ok (.invokevirtual 122, 3) := by decide +kernel
theorem dX11_late_8 : decode cX11_late 8 = .ok (.ifCond .eq 7, 3) := by decide +kernel
theorem dX11_late_15 : decode cX11_late 15 = .ok (.bipush (-2), 2) := by decide +kernel
theorem dX11_late_17 : decode cX11_late 17 = .ok (.ireturn, 1) := by decide +kernel
theorem dX11_leaks_0 : decode cX11_leaks 0 = .ok (.aload_n 0, 1) := by decide +kernel
theorem dX11_leaks_1 : decode cX11_leaks 1 = .ok (.getfield 19, 3) := by decide +kernel
theorem dX11_leaks_4 : decode cX11_leaks 4 = .ok (.invokevirtual 245, 3) := by decide +kernel
theorem dX11_leaks_7 : decode cX11_leaks 7 = .ok (.ifCond .eq 21, 3) := by decide +kernel
theorem dX11_leaks_28 : decode cX11_leaks 28 = .ok (.bipush (-2), 2) := by decide +kernel
theorem dX11_leaks_30 : decode cX11_leaks 30 = .ok (.ireturn, 1) := by decide +kernel
theorem dX11_least_0 : decode cX11_least 0 = .ok (.aload_n 0, 1) := by decide +kernel
theorem dX11_least_1 : decode cX11_least 1 = .ok (.getfield 19, 3) := by decide +kernel
theorem dX11_least_4 : decode cX11_least 4 = .ok (.iload_n 1, 1) := by decide +kernel
theorem dX11_least_5 : decode cX11_least 5 = .ok (.invokevirtual 122, 3) := by decide +kernel
theorem dX11_least_8 : decode cX11_least 8 = .ok (.ifCond .eq 13, 3) := by decide +kernel
theorem dX11_least_21 : decode cX11_least 21 = .ok (.bipush (-2), 2) := by decide +kernel
theorem dX11_least_23 : decode cX11_least 23 = .ok (.ireturn, 1) := by decide +kernel
theorem dX11_left_0 : decode cX11_left 0 = .ok (.aload_n 0, 1) := by decide +kernel
theorem dX11_left_1 : decode cX11_left 1 = .ok (.iload_n 1, 1) := by decide +kernel
theorem dX11_left_2 : decode cX11_left 2 = .ok (.iload_n 2, 1) := by decide +kernel
theorem dX11_left_3 : decode cX11_left 3 = .ok (.invokevirtual 191, 3) := by decide +kernel
theorem dX11_left_6 : decode cX11_left 6 = .ok (.istore_n 3, 1) := by decide +kernel
theorem dX11_left_7 : decode cX11_left 7 = .ok (.iload_n 3, 1) := by decide +kernel
theorem dX11_left_8 : decode cX11_left 8 = .ok (.ifCond .ge 7, 3) := by decide +kernel
theorem dX11_left_11 : decode cX11_left 11 = .ok (.iload_n 3, 1) := by decide +kernel
theorem dX11_left_12 : decode cX11_left 12 = .ok (.goto 14, 3) := by decide +kernel
theorem dX11_left_26 : decode cX11_left 26 = .ok (.ireturn, 1) := by decide +kernel
theorem dX11_letter_0 : decode cX11_letter 0 = .ok (.aload_n 0, 1) := by decide +kernel
theorem dX11_letter_1 : decode cX11_letter 1 = .ok (.getfield 19, 3) := by decide +kernel
theorem dX11_letter_4 : decode cX11_letter 4 = .ok (.iload_n 2, 1) := by decide +kernel
theorem dX11_letter_5 : decode cX11_letter 5 = .ok (.invokevirtual 150, 3) := by decide +kernel
theorem dX11_letter_8 : decode cX11_letter 8 = .ok (.ifCond .eq 13, 3) := by decide +kernel
theorem dX11_letter_21 : decode cX11_letter 21 = .ok (.bipush (-2), 2) := by decide +kernel
theorem dX11_letter_23 : decode cX11_letter 23 = .ok (.ireturn, 1) := by decide +kernel
theorem dX11_lies_0 : decode cX11_lies 0 = .ok (.aload_n 0, 1) := by decide +kernel
theorem dX11_lies_1 : decode cX11_lies 1 = .ok (.iload_n 1, 1) := by decide +kernel
theorem dX11_lies_2 : decode cX11_lies 2 = .ok (.invokevirtual 183, 3) := by decide +kernel
theorem dX11_lies_5 : decode cX11_lies 5 = .ok (.istore_n 2, 1) := by decide +kernel
theorem dX11_lies_6 : decode cX11_lies 6 = .ok (.iload_n 2, 1) := by decide +kernel
theorem dX11_lies_7 : decode cX11_lies 7 = .ok (.ifCond .ge 7, 3) := by decide +kernel
theorem dX11_lies_10 : decode cX11_lies 10 = .ok (.iload_n 2, 1) := by decide +kernel
theorem dX11_lies_11 : decode cX11_lies 11 = .ok (.goto 14, 3) := by decide +kernel
theorem dX11_lies_25 : decode cX11_lies 25 = .ok (.ireturn, 1) := by decide +kernel
theorem dX11_mean_0 : decode cX11_mean 0 = .ok (.aload_n 0, 1) := by decide +kernel
theorem dX11_mean_1 : decode cX11_mean 1 = .ok (.getfield 19, 3) := by decide +kernel
theorem dX11_mean_4 : decode cX11_mean 4 = .ok (.iload_n 1, 1) := by decide +kernel
theorem dX11_mean_5 : decode cX11_mean 5 = .ok (.invokevirtual 122, 3) := by decide +kernel
theorem dX11_mean_8 : decode cX11_mean 8 = .ok (.ifCond .eq 14, 3) := by decide +kernel
theorem dX11_mean_22 : decode cX11_mean 22 = .ok (.bipush (-2), 2) := by decide +kernel
theorem dX11_mean_24 : decode cX11_mean 24 = .ok (.ireturn, 1) := by decide +kernel
theorem dX11_news_0 : decode cX11_news 0 = .ok (.aload_n 0, 1) := by decide +kernel
theorem dX11_news_1 : decode cX11_news 1 = .ok (.getfield 19, 3) := by decide +kernel
theorem dX11_news_4 : decode cX11_news 4 = .ok (.iload_n 1, 1) := by decide +kernel
theorem dX11_news_5 : decode cX11_news 5 = .ok (.invokevirtual 150, 3) := by decide +kernel
theorem dX11_news_8 : decode cX11_news 8 = .ok (.ifCond .eq 15, 3) := by decide +kernel
theorem dX11_news_23 : decode cX11_news 23 = .ok (.sipush (-1000), 3) := by decide +kernel
theorem dX11_news_26 : decode cX11_news 26 = .ok (.ireturn, 1) := by decide +kernel
theorem dX11_now_0 : decode cX11_now 0 = .ok (.aload_n 0, 1) := by decide +kernel
theorem dX11_now_1 : decode cX11_now 1 = .ok (.getfield 19, 3) := by decide +kernel
theorem dX11_now_4 : decode cX11_now 4 = .ok (.iload_n 1, 1) := by decide +kernel
theorem dX11_now_5 : decode cX11_now 5 = .ok (.invokevirtual 122, 3) := by decide +kernel
theorem dX11_now_8 : decode cX11_now 8 = .ok (.ifCond .eq 25, 3) := by decide +kernel
theorem dX11_now_33 : decode cX11_now 33 = .ok (.bipush (-2), 2) := by decide +kernel
theorem dX11_now_35 : decode cX11_now 35 = .ok (.ireturn, 1) := by decide +kernel
theorem dX11_once_0 : decode cX11_once 0 = .ok (.aload_n 0, 1) := by decide +kernel
theorem dX11_once_1 : decode cX11_once 1 = .ok (.getfield 19, 3) := by decide +kernel
theorem dX11_once_4 : decode cX11_once 4 = .ok (.iload_n 1, 1) := by decide +kernel
theorem dX11_once_5 : decode cX11_once 5 = .ok (.invokevirtual 122, 3) := by decide +kernel
theorem dX11_once_8 : decode cX11_once 8 = .ok (.ifCond .eq 14, 3) := by decide +kernel
theorem dX11_once_22 : decode cX11_once 22 = .ok (.bipush (-2), 2) := by decide +kernel
theorem dX11_once_24 : decode cX11_once 24 = .ok (.ireturn, 1) := by decide +kernel
theorem dX11_orderWeek_0 : decode cX11_orderWeek 0 = .ok (.aload_n 0, 1) := by decide +kernel
theorem dX11_orderWeek_1 : decode cX11_orderWeek 1 = .ok (.getfield 19, 3) := by decide +kernel
theorem dX11_orderWeek_4 : decode cX11_orderWeek 4 = .ok (.iload_n 2, 1) := by decide +kernel
theorem dX11_orderWeek_5 : decode cX11_orderWeek 5 = .ok (.invokevirtual 122, 3) := by decide +kernel
theorem dX11_orderWeek_8 : decode cX11_orderWeek 8 = .ok (.ifCond .ne 6, 3) := by decide +kernel
theorem dX11_orderWeek_11 : decode cX11_orderWeek 11 = .ok (.bipush (-2), 2) := by decide +kernel
theorem dX11_orderWeek_13 : decode cX11_orderWeek 13 = .ok (.ireturn, 1) := by decide +kernel
theorem dX11_ordered_0 : decode cX11_ordered 0 = .ok (.aload_n 0, 1) := by decide +kernel
theorem dX11_ordered_1 : decode cX11_ordered 1 = .ok (.iload_n 1, 1) := by decide +kernel
theorem dX11_ordered_2 : decode cX11_ordered 2 = .ok (.iload_n 2, 1) := by decide +kernel
theorem dX11_ordered_3 : decode cX11_ordered 3 = .ok (.invokevirtual 216, 3) := by decide +kernel
theorem dX11_ordered_6 : decode cX11_ordered 6 = .ok (.istore 4, 2) := by decide +kernel
theorem dX11_ordered_8 : decode cX11_ordered 8 = .ok (.iload 4, 2) := by decide +kernel
theorem dX11_ordered_10 : decode cX11_ordered 10 = .ok (.ifCond .ge 6, 3) := by decide +kernel
theorem dX11_ordered_13 : decode cX11_ordered 13 = .ok (.iload 4, 2) := by decide +kernel
theorem dX11_ordered_15 : decode cX11_ordered 15 = .ok (.ireturn, 1) := by decide +kernel
theorem dX11_plan_0 : decode cX11_plan 0 = .ok (.aload_n 0, 1) := by decide +kernel
theorem dX11_plan_1 : decode cX11_plan 1 = .ok (.getfield 19, 3) := by decide +kernel
theorem dX11_plan_4 : decode cX11_plan 4 = .ok (.iload_n 1, 1) := by decide +kernel
theorem dX11_plan_5 : decode cX11_plan 5 = .ok (.invokevirtual 144, 3) := by decide +kernel
theorem dX11_plan_8 : decode cX11_plan 8 = .ok (.ifCond .ne 6, 3) := by decide +kernel
theorem dX11_plan_11 : decode cX11_plan 11 = .ok (.bipush (-2), 2) := by decide +kernel
theorem dX11_plan_13 : decode cX11_plan 13 = .ok (.ireturn, 1) := by decide +kernel
theorem dX11_read_0 : decode cX11_read 0 = .ok (.aload_n 0, 1) := by decide +kernel
theorem dX11_read_1 : decode cX11_read 1 = .ok (.iload_n 1, 1) := by decide +kernel
theorem dX11_read_2 : decode cX11_read 2 = .ok (.invokevirtual 183, 3) := by decide +kernel
theorem dX11_read_5 : decode cX11_read 5 = .ok (.istore_n 2, 1) := by decide +kernel
theorem dX11_read_6 : decode cX11_read 6 = .ok (.iload_n 2, 1) := by decide +kernel
theorem dX11_read_7 : decode cX11_read 7 = .ok (.ifCond .ge 7, 3) := by decide +kernel
theorem dX11_read_10 : decode cX11_read 10 = .ok (.iload_n 2, 1) := by decide +kernel
theorem dX11_read_11 : decode cX11_read 11 = .ok (.goto 14, 3) := by decide +kernel
theorem dX11_read_25 : decode cX11_read 25 = .ok (.ireturn, 1) := by decide +kernel
theorem dX11_really_0 : decode cX11_really 0 = .ok (.aload_n 0, 1) := by decide +kernel
theorem dX11_really_1 : decode cX11_really 1 = .ok (.getfield 19, 3) := by decide +kernel
theorem dX11_really_4 : decode cX11_really 4 = .ok (.iload_n 1, 1) := by decide +kernel
theorem dX11_really_5 : decode cX11_really 5 = .ok (.invokevirtual 114, 3) := by decide +kernel
theorem dX11_really_8 : decode cX11_really 8 = .ok (.ifCond .ne 6, 3) := by decide +kernel
theorem dX11_really_11 : decode cX11_really 11 = .ok (.bipush (-2), 2) := by decide +kernel
theorem dX11_really_13 : decode cX11_really 13 = .ok (.ireturn, 1) := by decide +kernel
theorem dX11_reckonWeek_0 : decode cX11_reckonWeek 0 = .ok (.aload_n 0, 1) := by decide +kernel
theorem dX11_reckonWeek_1 : decode cX11_reckonWeek 1 = .ok (.getfield 19, 3) := by decide +kernel
theorem dX11_reckonWeek_4 : decode cX11_reckonWeek 4 = .ok (.iload_n 2, 1) := by decide +kernel
theorem dX11_reckonWeek_5 : decode cX11_reckonWeek 5 = .ok (.invokevirtual 122, 3) := by decide +kernel
theorem dX11_reckonWeek_8 : decode cX11_reckonWeek 8 = .ok (.ifCond .ne 6, 3) := by decide +kernel
theorem dX11_reckonWeek_11 : decode cX11_reckonWeek 11 = .ok (.bipush (-2), 2) := by decide +kernel
theorem dX11_reckonWeek_13 : decode cX11_reckonWeek 13 = .ok (.ireturn, 1) := by decide +kernel
theorem dX11_reckoned_0 : decode cX11_reckoned 0 = .ok (.aload_n 0, 1) := by decide +kernel
theorem dX11_reckoned_1 : decode cX11_reckoned 1 = .ok (.iload_n 1, 1) := by decide +kernel
theorem dX11_reckoned_2 : decode cX11_reckoned 2 = .ok (.iload_n 2, 1) := by decide +kernel
theorem dX11_reckoned_3 : decode cX11_reckoned 3 = .ok (.invokevirtual 305, 3) := by decide +kernel
theorem dX11_reckoned_6 : decode cX11_reckoned 6 = .ok (.istore_n 3, 1) := by decide +kernel
theorem dX11_reckoned_7 : decode cX11_reckoned 7 = .ok (.iload_n 3, 1) := by decide +kernel
theorem dX11_reckoned_8 : decode cX11_reckoned 8 = .ok (.ifCond .ge 5, 3) := by decide +kernel
theorem dX11_reckoned_11 : decode cX11_reckoned 11 = .ok (.iload_n 3, 1) := by decide +kernel
theorem dX11_reckoned_12 : decode cX11_reckoned 12 = .ok (.ireturn, 1) := by decide +kernel
theorem dX11_rest_0 : decode cX11_rest 0 = .ok (.aload_n 0, 1) := by decide +kernel
theorem dX11_rest_1 : decode cX11_rest 1 = .ok (.getfield 19, 3) := by decide +kernel
theorem dX11_rest_4 : decode cX11_rest 4 = .ok (.iload_n 1, 1) := by decide +kernel
theorem dX11_rest_5 : decode cX11_rest 5 = .ok (.invokevirtual 122, 3) := by decide +kernel
theorem dX11_rest_8 : decode cX11_rest 8 = .ok (.ifCond .ne 6, 3) := by decide +kernel
theorem dX11_rest_11 : decode cX11_rest 11 = .ok (.bipush (-2), 2) := by decide +kernel
theorem dX11_rest_13 : decode cX11_rest 13 = .ok (.ireturn, 1) := by decide +kernel
theorem dX11_risk_0 : decode cX11_risk 0 = .ok (.aload_n 0, 1) := by decide +kernel
theorem dX11_risk_1 : decode cX11_risk 1 = .ok (.getfield 19, 3) := by decide +kernel
theorem dX11_risk_4 : decode cX11_risk 4 = .ok (.iload_n 1, 1) := by decide +kernel
theorem dX11_risk_5 : decode cX11_risk 5 = .ok (.invokevirtual 122, 3) := by decide +kernel
theorem dX11_risk_8 : decode cX11_risk 8 = .ok (.ifCond .ne 6, 3) := by decide +kernel
theorem dX11_risk_11 : decode cX11_risk 11 = .ok (.bipush (-2), 2) := by decide +kernel
theorem dX11_risk_13 : decode cX11_risk 13 = .ok (.ireturn, 1) := by decide +kernel
theorem dX11_shames_0 : decode cX11_shames 0 = .ok (.aload_n 0, 1) := by decide +kernel
theorem dX11_shames_1 : decode cX11_shames 1 = .ok (.iload_n 1, 1) := by decide +kernel
theorem dX11_shames_2 : decode cX11_shames 2 = .ok (.invokevirtual 183, 3) := by decide +kernel
theorem dX11_shames_5 : decode cX11_shames 5 = .ok (.istore_n 2, 1) := by decide +kernel
theorem dX11_shames_6 : decode cX11_shames 6 = .ok (.iload_n 2, 1) := by decide +kernel
theorem dX11_shames_7 : decode cX11_shames 7 = .ok (.ifCond .ge 7, 3) := by decide +kernel
theorem dX11_shames_10 : decode cX11_shames 10 = .ok (.iload_n 2, 1) := by decide +kernel
theorem dX11_shames_11 : decode cX11_shames 11 = .ok (.goto 14, 3) := by decide +kernel
theorem dX11_shames_25 : decode cX11_shames 25 = .ok (.ireturn, 1) := by decide +kernel
theorem dX11_shock_0 : decode cX11_shock 0 = .ok (.aload_n 0, 1) := by decide +kernel
theorem dX11_shock_1 : decode cX11_shock 1 = .ok (.getfield 19, 3) := by decide +kernel
theorem dX11_shock_4 : decode cX11_shock 4 = .ok (.iload_n 1, 1) := by decide +kernel
theorem dX11_shock_5 : decode cX11_shock 5 = .ok (.invokevirtual 122, 3) := by decide +kernel
theorem dX11_shock_8 : decode cX11_shock 8 = .ok (.ifCond .ne 6, 3) := by decide +kernel
theorem dX11_shock_11 : decode cX11_shock 11 = .ok (.bipush (-2), 2) := by decide +kernel
theorem dX11_shock_13 : decode cX11_shock 13 = .ok (.ireturn, 1) := by decide +kernel
theorem dX11_softer_0 : decode cX11_softer 0 = .ok (.aload_n 0, 1) := by decide +kernel
theorem dX11_softer_1 : decode cX11_softer 1 = .ok (.iload_n 1, 1) := by decide +kernel
theorem dX11_softer_2 : decode cX11_softer 2 = .ok (.iload_n 2, 1) := by decide +kernel
theorem dX11_softer_3 : decode cX11_softer 3 = .ok (.invokevirtual 216, 3) := by decide +kernel
theorem dX11_softer_6 : decode cX11_softer 6 = .ok (.istore_n 3, 1) := by decide +kernel
theorem dX11_softer_7 : decode cX11_softer 7 = .ok (.iload_n 3, 1) := by decide +kernel
theorem dX11_softer_8 : decode cX11_softer 8 = .ok (.ifCond .ge 7, 3) := by decide +kernel
theorem dX11_softer_11 : decode cX11_softer 11 = .ok (.iload_n 3, 1) := by decide +kernel
theorem dX11_softer_12 : decode cX11_softer 12 = .ok (.goto 10, 3) := by decide +kernel
theorem dX11_softer_22 : decode cX11_softer 22 = .ok (.ireturn, 1) := by decide +kernel
theorem dX11_softest_0 : decode cX11_softest 0 = .ok (.aload_n 0, 1) := by decide +kernel
theorem dX11_softest_1 : decode cX11_softest 1 = .ok (.getfield 19, 3) := by decide +kernel
theorem dX11_softest_4 : decode cX11_softest 4 = .ok (.iload_n 1, 1) := by decide +kernel
theorem dX11_softest_5 : decode cX11_softest 5 = .ok (.invokevirtual 122, 3) := by decide +kernel
theorem dX11_softest_8 : decode cX11_softest 8 = .ok (.ifCond .eq 14, 3) := by decide +kernel
theorem dX11_softest_22 : decode cX11_softest 22 = .ok (.bipush (-2), 2) := by decide +kernel
theorem dX11_softest_24 : decode cX11_softest 24 = .ok (.ireturn, 1) := by decide +kernel
theorem dX11_soon_0 : decode cX11_soon 0 = .ok (.aload_n 0, 1) := by decide +kernel
theorem dX11_soon_1 : decode cX11_soon 1 = .ok (.getfield 19, 3) := by decide +kernel
theorem dX11_soon_4 : decode cX11_soon 4 = .ok (.iload_n 1, 1) := by decide +kernel
theorem dX11_soon_5 : decode cX11_soon 5 = .ok (.invokevirtual 122, 3) := by decide +kernel
theorem dX11_soon_8 : decode cX11_soon 8 = .ok (.ifCond .eq 12, 3) := by decide +kernel
theorem dX11_soon_20 : decode cX11_soon 20 = .ok (.bipush (-2), 2) := by decide +kernel
theorem dX11_soon_22 : decode cX11_soon 22 = .ok (.ireturn, 1) := by decide +kernel
theorem dX11_step_0 : decode cX11_step 0 = .ok (.aload_n 0, 1) := by decide +kernel
theorem dX11_step_1 : decode cX11_step 1 = .ok (.iload_n 1, 1) := by decide +kernel
theorem dX11_step_2 : decode cX11_step 2 = .ok (.iload_n 2, 1) := by decide +kernel
theorem dX11_step_3 : decode cX11_step 3 = .ok (.iconst 0, 1) := by decide +kernel
theorem dX11_step_4 : decode cX11_step 4 = .ok (.iconst 0, 1) := by decide +kernel
theorem dX11_step_5 : decode cX11_step 5 = .ok (.invokevirtual 241, 3) := by decide +kernel
theorem dX11_step_8 : decode cX11_step 8 = .ok (.ireturn, 1) := by decide +kernel
theorem dX11_suspects_0 : decode cX11_suspects 0 = .ok (.aload_n 0, 1) := by decide +kernel
theorem dX11_suspects_1 : decode cX11_suspects 1 = .ok (.iload_n 1, 1) := by decide +kernel
theorem dX11_suspects_2 : decode cX11_suspects 2 = .ok (.invokevirtual 183, 3) := by decide +kernel
theorem dX11_suspects_5 : decode cX11_suspects 5 = .ok (.istore_n 2, 1) := by decide +kernel
theorem dX11_suspects_6 : decode cX11_suspects 6 = .ok (.iload_n 2, 1) := by decide +kernel
theorem dX11_suspects_7 : decode cX11_suspects 7 = .ok (.ifCond .ge 5, 3) := by decide +kernel
theorem dX11_suspects_10 : decode cX11_suspects 10 = .ok (.iload_n 2, 1) := by decide +kernel
theorem dX11_suspects_11 : decode cX11_suspects 11 = .ok (.ireturn, 1) := by decide +kernel
theorem dX11_takeWeek_0 : decode cX11_takeWeek 0 = .ok (.iload_n 1, 1) := by decide +kernel
theorem dX11_takeWeek_1 : decode cX11_takeWeek 1 = .ok (.invokestatic 398, 3) := by decide +kernel
theorem dX11_takeWeek_4 : decode cX11_takeWeek 4 = .ok (.ifCond .eq 13, 3) := by decide +kernel
theorem dX11_takeWeek_7 : decode cX11_takeWeek 7 = .ok (.aload_n 0, 1) := by decide +kernel
theorem dX11_takeWeek_8 : decode cX11_takeWeek 8 = .ok (.getfield 19, 3) := by decide +kernel
theorem dX11_takeWeek_11 : decode cX11_takeWeek 11 = .ok (.invokevirtual 245, 3) := by decide +kernel
theorem dX11_takeWeek_14 : decode cX11_takeWeek 14 = .ok (.ifCond .ne 6, 3) := by decide +kernel
theorem dX11_takeWeek_17 : decode cX11_takeWeek 17 = .ok (.bipush (-2), 2) := by decide +kernel
theorem dX11_takeWeek_19 : decode cX11_takeWeek 19 = .ok (.ireturn, 1) := by decide +kernel
theorem dX11_tells_0 : decode cX11_tells 0 = .ok (.aload_n 0, 1) := by decide +kernel
theorem dX11_tells_1 : decode cX11_tells 1 = .ok (.getfield 19, 3) := by decide +kernel
theorem dX11_tells_4 : decode cX11_tells 4 = .ok (.iload_n 1, 1) := by decide +kernel
theorem dX11_tells_5 : decode cX11_tells 5 = .ok (.invokevirtual 122, 3) := by decide +kernel
theorem dX11_tells_8 : decode cX11_tells 8 = .ok (.ifCond .eq 15, 3) := by decide +kernel
theorem dX11_tells_23 : decode cX11_tells 23 = .ok (.bipush (-2), 2) := by decide +kernel
theorem dX11_tells_25 : decode cX11_tells 25 = .ok (.ireturn, 1) := by decide +kernel
theorem dX11_tender_0 : decode cX11_tender 0 = .ok (.aload_n 0, 1) := by decide +kernel
theorem dX11_tender_1 : decode cX11_tender 1 = .ok (.getfield 19, 3) := by decide +kernel
theorem dX11_tender_4 : decode cX11_tender 4 = .ok (.iload_n 1, 1) := by decide +kernel
theorem dX11_tender_5 : decode cX11_tender 5 = .ok (.invokevirtual 122, 3) := by decide +kernel
theorem dX11_tender_8 : decode cX11_tender 8 = .ok (.ifCond .eq 13, 3) := by decide +kernel
theorem dX11_tender_21 : decode cX11_tender 21 = .ok (.bipush (-2), 2) := by decide +kernel
theorem dX11_tender_23 : decode cX11_tender 23 = .ok (.ireturn, 1) := by decide +kernel
theorem dX11_tenderly_0 : decode cX11_tenderly 0 = .ok (.aload_n 0, 1) := by decide +kernel
theorem dX11_tenderly_1 : decode cX11_tenderly 1 = .ok (.iload_n 1, 1) := by decide +kernel
theorem dX11_tenderly_2 : decode cX11_tenderly 2 = .ok (.iload_n 2, 1) := by decide +kernel
theorem dX11_tenderly_3 : decode cX11_tenderly 3 = .ok (.iconst 1, 1) := by decide +kernel
theorem dX11_tenderly_4 : decode cX11_tenderly 4 = .ok (.iconst 1, 1) := by decide +kernel
theorem dX11_tenderly_5 : decode cX11_tenderly 5 = .ok (.invokevirtual 241, 3) := by decide +kernel
theorem dX11_tenderly_8 : decode cX11_tenderly 8 = .ok (.ireturn, 1) := by decide +kernel
theorem dX11_thinks_0 : decode cX11_thinks 0 = .ok (.aload_n 0, 1) := by decide +kernel
theorem dX11_thinks_1 : decode cX11_thinks 1 = .ok (.getfield 19, 3) := by decide +kernel
theorem dX11_thinks_4 : decode cX11_thinks 4 = .ok (.iload_n 1, 1) := by decide +kernel
theorem dX11_thinks_5 : decode cX11_thinks 5 = .ok (.invokevirtual 122, 3) := by decide +kernel
theorem dX11_thinks_8 : decode cX11_thinks 8 = .ok (.ifCond .ne 6, 3) := by decide +kernel
theorem dX11_thinks_11 : decode cX11_thinks 11 = .ok (.bipush (-2), 2) := by decide +kernel
theorem dX11_thinks_13 : decode cX11_thinks 13 = .ok (.ireturn, 1) := by decide +kernel
theorem dX11_truly_0 : decode cX11_truly 0 = .ok (.aload_n 0, 1) := by decide +kernel
theorem dX11_truly_1 : decode cX11_truly 1 = .ok (.getfield 19, 3) := by decide +kernel
theorem dX11_truly_4 : decode cX11_truly 4 = .ok (.iload_n 1, 1) := by decide +kernel
theorem dX11_truly_5 : decode cX11_truly 5 = .ok (.invokevirtual 122, 3) := by decide +kernel
theorem dX11_truly_8 : decode cX11_truly 8 = .ok (.ifCond .eq 13, 3) := by decide +kernel
theorem dX11_truly_21 : decode cX11_truly 21 = .ok (.bipush (-2), 2) := by decide +kernel
theorem dX11_truly_23 : decode cX11_truly 23 = .ok (.ireturn, 1) := by decide +kernel
theorem dX11_undo_0 : decode cX11_undo 0 = .ok (.aload_n 0, 1) := by decide +kernel
theorem dX11_undo_1 : decode cX11_undo 1 = .ok (.getfield 19, 3) := by decide +kernel
theorem dX11_undo_4 : decode cX11_undo 4 = .ok (.invokevirtual 245, 3) := by decide +kernel
theorem dX11_undo_7 : decode cX11_undo 7 = .ok (.ifCond .ne 6, 3) := by decide +kernel
theorem dX11_undo_10 : decode cX11_undo 10 = .ok (.bipush (-2), 2) := by decide +kernel
theorem dX11_undo_12 : decode cX11_undo 12 = .ok (.ireturn, 1) := by decide +kernel
theorem dX11_unsaid_0 : decode cX11_unsaid 0 = .ok (.aload_n 0, 1) := by decide +kernel
theorem dX11_unsaid_1 : decode cX11_unsaid 1 = .ok (.getfield 19, 3) := by decide +kernel
theorem dX11_unsaid_4 : decode cX11_unsaid 4 = .ok (.invokevirtual 245, 3) := by decide +kernel
theorem dX11_unsaid_7 : decode cX11_unsaid 7 = .ok (.ifCond .ne 6, 3) := by decide +kernel
theorem dX11_unsaid_10 : decode cX11_unsaid 10 = .ok (.bipush (-2), 2) := by decide +kernel
theorem dX11_unsaid_12 : decode cX11_unsaid 12 = .ok (.ireturn, 1) := by decide +kernel
theorem dX11_whom_0 : decode cX11_whom 0 = .ok (.aload_n 0, 1) := by decide +kernel
theorem dX11_whom_1 : decode cX11_whom 1 = .ok (.getfield 19, 3) := by decide +kernel
theorem dX11_whom_4 : decode cX11_whom 4 = .ok (.invokevirtual 245, 3) := by decide +kernel
theorem dX11_whom_7 : decode cX11_whom 7 = .ok (.ifCond .eq 16, 3) := by decide +kernel
theorem dX11_whom_23 : decode cX11_whom 23 = .ok (.bipush (-2), 2) := by decide +kernel
theorem dX11_whom_25 : decode cX11_whom 25 = .ok (.ireturn, 1) := by decide +kernel
theorem dX11_word_0 : decode cX11_word 0 = .ok (.aload_n 0, 1) := by decide +kernel
theorem dX11_word_1 : decode cX11_word 1 = .ok (.getfield 19, 3) := by decide +kernel
theorem dX11_word_4 : decode cX11_word 4 = .ok (.iload_n 1, 1) := by decide +kernel
theorem dX11_word_5 : decode cX11_word 5 = .ok (.invokevirtual 132, 3) := by decide +kernel
theorem dX11_word_8 : decode cX11_word 8 = .ok (.ifCond .ne 6, 3) := by decide +kernel
theorem dX11_word_11 : decode cX11_word 11 = .ok (.bipush (-2), 2) := by decide +kernel
theorem dX11_word_13 : decode cX11_word 13 = .ok (.ireturn, 1) := by decide +kernel
theorem dX11_wordOfBest_0 : decode cX11_wordOfBest 0 = .ok (.aload_n 0, 1) := by decide +kernel
theorem dX11_wordOfBest_1 : decode cX11_wordOfBest 1 = .ok (.getfield 19, 3) := by decide +kernel
theorem dX11_wordOfBest_4 : decode cX11_wordOfBest 4 = .ok (.iload_n 1, 1) := by decide +kernel
theorem dX11_wordOfBest_5 : decode cX11_wordOfBest 5 = .ok (.invokevirtual 122, 3) := by decide +kernel
theorem dX11_wordOfBest_8 : decode cX11_wordOfBest 8 = .ok (.ifCond .eq 14, 3) := by decide +kernel
theorem dX11_wordOfBest_22 : decode cX11_wordOfBest 22 = .ok (.bipush (-2), 2) := by decide +kernel
theorem dX11_wordOfBest_24 : decode cX11_wordOfBest 24 = .ok (.ireturn, 1) := by decide +kernel
theorem dX11_worsen_0 : decode cX11_worsen 0 = .ok (.aload_n 0, 1) := by decide +kernel
theorem dX11_worsen_1 : decode cX11_worsen 1 = .ok (.getfield 19, 3) := by decide +kernel
theorem dX11_worsen_4 : decode cX11_worsen 4 = .ok (.iload_n 1, 1) := by decide +kernel
theorem dX11_worsen_5 : decode cX11_worsen 5 = .ok (.invokevirtual 114, 3) := by decide +kernel
theorem dX11_worsen_8 : decode cX11_worsen 8 = .ok (.ifCond .eq 13, 3) := by decide +kernel
theorem dX11_worsen_21 : decode cX11_worsen 21 = .ok (.bipush (-2), 2) := by decide +kernel
theorem dX11_worsen_23 : decode cX11_worsen 23 = .ok (.ireturn, 1) := by decide +kernel
theorem dX11_worst_0 : decode cX11_worst 0 = .ok (.aload_n 0, 1) := by decide +kernel
theorem dX11_worst_1 : decode cX11_worst 1 = .ok (.iload_n 1, 1) := by decide +kernel
theorem dX11_worst_2 : decode cX11_worst 2 = .ok (.iload_n 2, 1) := by decide +kernel
theorem dX11_worst_3 : decode cX11_worst 3 = .ok (.invokevirtual 191, 3) := by decide +kernel
theorem dX11_worst_6 : decode cX11_worst 6 = .ok (.istore_n 3, 1) := by decide +kernel
theorem dX11_worst_7 : decode cX11_worst 7 = .ok (.iload_n 3, 1) := by decide +kernel
theorem dX11_worst_8 : decode cX11_worst 8 = .ok (.ifCond .ge 7, 3) := by decide +kernel
theorem dX11_worst_11 : decode cX11_worst 11 = .ok (.iload_n 3, 1) := by decide +kernel
theorem dX11_worst_12 : decode cX11_worst 12 = .ok (.goto 10, 3) := by decide +kernel
theorem dX11_worst_22 : decode cX11_worst 22 = .ok (.ireturn, 1) := by decide +kernel
def sp_slot (x : Int32) : Int32 := if 0 ≤ x.toInt ∧ x.toInt ≤ 3 then 1 else 0
def sp_seed (x : Int32) : Int32 := if 0 ≤ x.toInt ∧ x.toInt ≤ 2000000000 then 1 else 0
end
section
set_option maxRecDepth 100000 in
set_option maxHeartbeats 4000000 in
theorem c_X0_everything (l : Launch) (g : GG) (h0 : Nat) (v0 : Nat) (v1 : Nat) (v2 : Nat) (v3 : Nat) (v4 : Nat) (v5 : Nat) (v6 : Nat) (v7 : Nat) (v8 : Nat) (v9 : Nat) : Ct l g yX0_everything cX0_everything 1 (some .int) { frames := 0, cells := 0, slots := 0, locals := 0 } [.ref h0] [(h0, .inr (0, [.int 0, .int 0, .int 0, .int 0, .int 0, .int 0, .int 0, .int 0, .int 0, .int 0, .ref v0, .ref v1, .ref v2, .ref v3, .ref v4, .ref v5, .ref v6, .ref v7, .ref v8, .ref v9]))] (S := Unit) (fun _ => some (.int 0)) (fun _ => True) (fun u => [(h0, .inr (0, [.int 0, .int 0, .int 0, .int 0, .int 0, .int 0, .int 0, .int 0, .int 0, .int 0, .ref v0, .ref v1, .ref v2, .ref v3, .ref v4, .ref v5, .ref v6, .ref v7, .ref v8, .ref v9]))]) := by
  refine Ct.of (by decide) (Nat.le_of_ble_eq_true rfl) ?_
  intro p e s m below meth c A ls FX hP hD hS hl
  obtain ⟨FC, hr, hlk, hKn, hA, hnm⟩ := id FX
  have FC : CallFix p m c cX0_everything 1 s _ BIG RX0 := FC
  obtain ⟨hx, hb, hml, hown, hB⟩ := id FC
  have hl : lv_has ls 1 [(0, .ref h0)] := hl
  refine lv_iconst (v := 1) hx hb dX0_everything_0 (by decide) ?_
  refine lv_aload_n hx hb dX0_everything_1 rfl (lv_at hl 0 rfl) ?_
  refine g_get (C := RX0) (T := TX0) (N := 20) (ci := 0) (v := .int 0) FC hKn hP i_X0 0 rfl rfl 0 (by decide) b_0 rfl dX0_everything_2 ?_
  refine lv_ishl hx hb dX0_everything_5 ?_
  refine tp_i (v := 1) (by decide) ?_
  refine lv_iconst (v := 1) hx hb dX0_everything_6 (by decide) ?_
  refine lv_isub hx hb dX0_everything_7 ?_
  refine tp_i (v := 0) (by decide) ?_
  exact rt_i FX () rfl trivial (hP.sub [0] rfl) (hD.sub [0] (by decide) rfl) hS (Nat.le_of_ble_eq_true rfl) (Nat.le_of_ble_eq_true rfl) dX0_everything_8
set_option maxRecDepth 100000 in
set_option maxHeartbeats 4000000 in
theorem c_X0_stands (l : Launch) (g : GG) (h0 : Nat) (v0 : Nat) (v1 : Nat) (v2 : Nat) (v3 : Nat) (v4 : Nat) (v5 : Nat) (v6 : Nat) (v7 : Nat) (v8 : Nat) (v9 : Nat) : Ct l g yX0_stands cX0_stands 1 (some .boolean) { frames := 0, cells := 0, slots := 0, locals := 0 } [.ref h0] [(h0, .inr (0, [.int 0, .int 0, .int 0, .int 0, .int 0, .int 0, .int 0, .int 0, .int 0, .int 0, .ref v0, .ref v1, .ref v2, .ref v3, .ref v4, .ref v5, .ref v6, .ref v7, .ref v8, .ref v9]))] (S := Unit) (fun _ => some (.int 0)) (fun _ => True) (fun u => [(h0, .inr (0, [.int 0, .int 0, .int 0, .int 0, .int 0, .int 0, .int 0, .int 0, .int 0, .int 0, .ref v0, .ref v1, .ref v2, .ref v3, .ref v4, .ref v5, .ref v6, .ref v7, .ref v8, .ref v9]))]) := by
  refine Ct.of (by decide) (Nat.le_of_ble_eq_true rfl) ?_
  intro p e s m below meth c A ls FX hP hD hS hl
  obtain ⟨FC, hr, hlk, hKn, hA, hnm⟩ := id FX
  have FC : CallFix p m c cX0_stands 1 s _ BIG RX0 := FC
  obtain ⟨hx, hb, hml, hown, hB⟩ := id FC
  have hl : lv_has ls 1 [(0, .ref h0)] := hl
  refine lv_aload_n hx hb dX0_stands_0 rfl (lv_at hl 0 rfl) ?_
  refine g_get (C := RX0) (T := TX0) (N := 20) (ci := 0) (v := .int 0) FC hKn hP i_X0 0 rfl rfl 5 (by decide) b_1 rfl dX0_stands_1 ?_
  refine lv_if_le (tgt := 11) hx hb dX0_stands_4 (by decide) (fun _ => ?_) (fun h => absurd h (by decide))
  refine lv_iconst (v := 0) hx hb dX0_stands_11 (by decide) ?_
  exact rt_z FX rfl () rfl trivial (hP.sub [0] rfl) (hD.sub [0] (by decide) rfl) hS (Nat.le_of_ble_eq_true rfl) (Nat.le_of_ble_eq_true rfl) dX0_stands_12
set_option maxRecDepth 100000 in
set_option maxHeartbeats 4000000 in
theorem c_X0_hasState (l : Launch) (g : GG) (h0 : Nat) (v0 : Nat) (v1 : Nat) (v2 : Nat) (v3 : Nat) (v4 : Nat) (v5 : Nat) (v6 : Nat) (v7 : Nat) (v8 : Nat) (v9 : Nat) (p1 : Int32) : Ct l g yX0_hasState cX0_hasState 2 (some .boolean) { frames := 0, cells := 0, slots := 0, locals := 0 } [.ref h0, .int p1] [(h0, .inr (0, [.int 0, .int 0, .int 0, .int 0, .int 0, .int 0, .int 0, .int 0, .int 0, .int 0, .ref v0, .ref v1, .ref v2, .ref v3, .ref v4, .ref v5, .ref v6, .ref v7, .ref v8, .ref v9]))] (S := Unit) (fun _ => some (.int 0)) (fun _ => True) (fun u => [(h0, .inr (0, [.int 0, .int 0, .int 0, .int 0, .int 0, .int 0, .int 0, .int 0, .int 0, .int 0, .ref v0, .ref v1, .ref v2, .ref v3, .ref v4, .ref v5, .ref v6, .ref v7, .ref v8, .ref v9]))]) := by
  refine Ct.of (by decide) (Nat.le_of_ble_eq_true rfl) ?_
  intro p e s m below meth c A ls FX hP hD hS hl
  obtain ⟨FC, hr, hlk, hKn, hA, hnm⟩ := id FX
  have FC : CallFix p m c cX0_hasState 2 s _ BIG RX0 := FC
  obtain ⟨hx, hb, hml, hown, hB⟩ := id FC
  have hl : lv_has ls 2 [(0, .ref h0), (1, .int p1)] := hl
  refine lv_iload_n hx hb dX0_hasState_0 rfl (lv_at hl 1 rfl) ?_
  refine lv_if_lt (tgt := 16) hx hb dX0_hasState_1 (by decide) (fun c1 => ?_) (fun c1 => ?_)
  · have c1 := k_lt (a := p1.toInt) (b := 0) rfl (by decide) c1
    refine lv_iconst (v := 0) hx hb dX0_hasState_16 (by decide) ?_
    exact rt_z FX rfl () rfl trivial (hP.sub [0] rfl) (hD.sub [0] (by decide) rfl) hS (Nat.le_of_ble_eq_true rfl) (Nat.le_of_ble_eq_true rfl) dX0_hasState_17
  · have c1 := k_nlt (a := p1.toInt) (b := 0) rfl (by decide) c1
    refine lv_iload_n hx hb dX0_hasState_4 rfl (lv_at hl 1 rfl) ?_
    refine lv_aload_n hx hb dX0_hasState_5 rfl (lv_at hl 0 rfl) ?_
    refine g_get (C := RX0) (T := TX0) (N := 20) (ci := 0) (v := .int 0) FC hKn hP i_X0 0 rfl rfl 0 (by decide) b_0 rfl dX0_hasState_6 ?_
    refine lv_icmp_ge (tgt := 16) hx hb dX0_hasState_9 (by decide) (fun c2 => ?_) (fun c2 => ?_)
    · have c2 := k_le (a := 0) (b := p1.toInt) (by decide) rfl c2
      refine lv_iconst (v := 0) hx hb dX0_hasState_16 (by decide) ?_
      exact rt_z FX rfl () rfl trivial (hP.sub [0] rfl) (hD.sub [0] (by decide) rfl) hS (Nat.le_of_ble_eq_true rfl) (Nat.le_of_ble_eq_true rfl) dX0_hasState_17
    · have c2 := k_nle (a := 0) (b := p1.toInt) (by decide) rfl c2
      exfalso; omega
set_option maxRecDepth 100000 in
set_option maxHeartbeats 4000000 in
theorem c_X0_hasDay (l : Launch) (g : GG) (h0 : Nat) (v0 : Nat) (v1 : Nat) (v2 : Nat) (v3 : Nat) (v4 : Nat) (v5 : Nat) (v6 : Nat) (v7 : Nat) (v8 : Nat) (v9 : Nat) (p1 : Int32) : Ct l g yX0_hasDay cX0_hasDay 2 (some .boolean) { frames := 0, cells := 0, slots := 0, locals := 0 } [.ref h0, .int p1] [(h0, .inr (0, [.int 0, .int 0, .int 0, .int 0, .int 0, .int 0, .int 0, .int 0, .int 0, .int 0, .ref v0, .ref v1, .ref v2, .ref v3, .ref v4, .ref v5, .ref v6, .ref v7, .ref v8, .ref v9]))] (S := Unit) (fun _ => some (.int 0)) (fun _ => True) (fun u => [(h0, .inr (0, [.int 0, .int 0, .int 0, .int 0, .int 0, .int 0, .int 0, .int 0, .int 0, .int 0, .ref v0, .ref v1, .ref v2, .ref v3, .ref v4, .ref v5, .ref v6, .ref v7, .ref v8, .ref v9]))]) := by
  refine Ct.of (by decide) (Nat.le_of_ble_eq_true rfl) ?_
  intro p e s m below meth c A ls FX hP hD hS hl
  obtain ⟨FC, hr, hlk, hKn, hA, hnm⟩ := id FX
  have FC : CallFix p m c cX0_hasDay 2 s _ BIG RX0 := FC
  obtain ⟨hx, hb, hml, hown, hB⟩ := id FC
  have hl : lv_has ls 2 [(0, .ref h0), (1, .int p1)] := hl
  refine lv_iload_n hx hb dX0_hasDay_0 rfl (lv_at hl 1 rfl) ?_
  refine lv_if_lt (tgt := 16) hx hb dX0_hasDay_1 (by decide) (fun c1 => ?_) (fun c1 => ?_)
  · have c1 := k_lt (a := p1.toInt) (b := 0) rfl (by decide) c1
    refine lv_iconst (v := 0) hx hb dX0_hasDay_16 (by decide) ?_
    exact rt_z FX rfl () rfl trivial (hP.sub [0] rfl) (hD.sub [0] (by decide) rfl) hS (Nat.le_of_ble_eq_true rfl) (Nat.le_of_ble_eq_true rfl) dX0_hasDay_17
  · have c1 := k_nlt (a := p1.toInt) (b := 0) rfl (by decide) c1
    refine lv_iload_n hx hb dX0_hasDay_4 rfl (lv_at hl 1 rfl) ?_
    refine lv_aload_n hx hb dX0_hasDay_5 rfl (lv_at hl 0 rfl) ?_
    refine g_get (C := RX0) (T := TX0) (N := 20) (ci := 0) (v := .int 0) FC hKn hP i_X0 0 rfl rfl 2 (by decide) b_2 rfl dX0_hasDay_6 ?_
    refine lv_icmp_ge (tgt := 16) hx hb dX0_hasDay_9 (by decide) (fun c2 => ?_) (fun c2 => ?_)
    · have c2 := k_le (a := 0) (b := p1.toInt) (by decide) rfl c2
      refine lv_iconst (v := 0) hx hb dX0_hasDay_16 (by decide) ?_
      exact rt_z FX rfl () rfl trivial (hP.sub [0] rfl) (hD.sub [0] (by decide) rfl) hS (Nat.le_of_ble_eq_true rfl) (Nat.le_of_ble_eq_true rfl) dX0_hasDay_17
    · have c2 := k_nle (a := 0) (b := p1.toInt) (by decide) rfl c2
      exfalso; omega
set_option maxRecDepth 100000 in
set_option maxHeartbeats 4000000 in
theorem c_X0_hasHearer (l : Launch) (g : GG) (h0 : Nat) (v0 : Nat) (v1 : Nat) (v2 : Nat) (v3 : Nat) (v4 : Nat) (v5 : Nat) (v6 : Nat) (v7 : Nat) (v8 : Nat) (v9 : Nat) (p1 : Int32) : Ct l g yX0_hasHearer cX0_hasHearer 2 (some .boolean) { frames := 0, cells := 0, slots := 0, locals := 0 } [.ref h0, .int p1] [(h0, .inr (0, [.int 0, .int 0, .int 0, .int 0, .int 0, .int 0, .int 0, .int 0, .int 0, .int 0, .ref v0, .ref v1, .ref v2, .ref v3, .ref v4, .ref v5, .ref v6, .ref v7, .ref v8, .ref v9]))] (S := Unit) (fun _ => some (.int 0)) (fun _ => True) (fun u => [(h0, .inr (0, [.int 0, .int 0, .int 0, .int 0, .int 0, .int 0, .int 0, .int 0, .int 0, .int 0, .ref v0, .ref v1, .ref v2, .ref v3, .ref v4, .ref v5, .ref v6, .ref v7, .ref v8, .ref v9]))]) := by
  refine Ct.of (by decide) (Nat.le_of_ble_eq_true rfl) ?_
  intro p e s m below meth c A ls FX hP hD hS hl
  obtain ⟨FC, hr, hlk, hKn, hA, hnm⟩ := id FX
  have FC : CallFix p m c cX0_hasHearer 2 s _ BIG RX0 := FC
  obtain ⟨hx, hb, hml, hown, hB⟩ := id FC
  have hl : lv_has ls 2 [(0, .ref h0), (1, .int p1)] := hl
  refine lv_iload_n hx hb dX0_hasHearer_0 rfl (lv_at hl 1 rfl) ?_
  refine lv_if_lt (tgt := 16) hx hb dX0_hasHearer_1 (by decide) (fun c1 => ?_) (fun c1 => ?_)
  · have c1 := k_lt (a := p1.toInt) (b := 0) rfl (by decide) c1
    refine lv_iconst (v := 0) hx hb dX0_hasHearer_16 (by decide) ?_
    exact rt_z FX rfl () rfl trivial (hP.sub [0] rfl) (hD.sub [0] (by decide) rfl) hS (Nat.le_of_ble_eq_true rfl) (Nat.le_of_ble_eq_true rfl) dX0_hasHearer_17
  · have c1 := k_nlt (a := p1.toInt) (b := 0) rfl (by decide) c1
    refine lv_iload_n hx hb dX0_hasHearer_4 rfl (lv_at hl 1 rfl) ?_
    refine lv_aload_n hx hb dX0_hasHearer_5 rfl (lv_at hl 0 rfl) ?_
    refine g_get (C := RX0) (T := TX0) (N := 20) (ci := 0) (v := .int 0) FC hKn hP i_X0 0 rfl rfl 6 (by decide) b_3 rfl dX0_hasHearer_6 ?_
    refine lv_icmp_ge (tgt := 16) hx hb dX0_hasHearer_9 (by decide) (fun c2 => ?_) (fun c2 => ?_)
    · have c2 := k_le (a := 0) (b := p1.toInt) (by decide) rfl c2
      refine lv_iconst (v := 0) hx hb dX0_hasHearer_16 (by decide) ?_
      exact rt_z FX rfl () rfl trivial (hP.sub [0] rfl) (hD.sub [0] (by decide) rfl) hS (Nat.le_of_ble_eq_true rfl) (Nat.le_of_ble_eq_true rfl) dX0_hasHearer_17
    · have c2 := k_nle (a := 0) (b := p1.toInt) (by decide) rfl c2
      exfalso; omega
set_option maxRecDepth 100000 in
set_option maxHeartbeats 4000000 in
theorem c_X0_hasWord (l : Launch) (g : GG) (h0 : Nat) (v0 : Nat) (v1 : Nat) (v2 : Nat) (v3 : Nat) (v4 : Nat) (v5 : Nat) (v6 : Nat) (v7 : Nat) (v8 : Nat) (v9 : Nat) (p1 : Int32) : Ct l g yX0_hasWord cX0_hasWord 2 (some .boolean) { frames := 0, cells := 0, slots := 0, locals := 0 } [.ref h0, .int p1] [(h0, .inr (0, [.int 0, .int 0, .int 0, .int 0, .int 0, .int 0, .int 0, .int 0, .int 0, .int 0, .ref v0, .ref v1, .ref v2, .ref v3, .ref v4, .ref v5, .ref v6, .ref v7, .ref v8, .ref v9]))] (S := Unit) (fun _ => some (.int 0)) (fun _ => True) (fun u => [(h0, .inr (0, [.int 0, .int 0, .int 0, .int 0, .int 0, .int 0, .int 0, .int 0, .int 0, .int 0, .ref v0, .ref v1, .ref v2, .ref v3, .ref v4, .ref v5, .ref v6, .ref v7, .ref v8, .ref v9]))]) := by
  refine Ct.of (by decide) (Nat.le_of_ble_eq_true rfl) ?_
  intro p e s m below meth c A ls FX hP hD hS hl
  obtain ⟨FC, hr, hlk, hKn, hA, hnm⟩ := id FX
  have FC : CallFix p m c cX0_hasWord 2 s _ BIG RX0 := FC
  obtain ⟨hx, hb, hml, hown, hB⟩ := id FC
  have hl : lv_has ls 2 [(0, .ref h0), (1, .int p1)] := hl
  refine lv_iload_n hx hb dX0_hasWord_0 rfl (lv_at hl 1 rfl) ?_
  refine lv_if_lt (tgt := 16) hx hb dX0_hasWord_1 (by decide) (fun c1 => ?_) (fun c1 => ?_)
  · have c1 := k_lt (a := p1.toInt) (b := 0) rfl (by decide) c1
    refine lv_iconst (v := 0) hx hb dX0_hasWord_16 (by decide) ?_
    exact rt_z FX rfl () rfl trivial (hP.sub [0] rfl) (hD.sub [0] (by decide) rfl) hS (Nat.le_of_ble_eq_true rfl) (Nat.le_of_ble_eq_true rfl) dX0_hasWord_17
  · have c1 := k_nlt (a := p1.toInt) (b := 0) rfl (by decide) c1
    refine lv_iload_n hx hb dX0_hasWord_4 rfl (lv_at hl 1 rfl) ?_
    refine lv_aload_n hx hb dX0_hasWord_5 rfl (lv_at hl 0 rfl) ?_
    refine g_get (C := RX0) (T := TX0) (N := 20) (ci := 0) (v := .int 0) FC hKn hP i_X0 0 rfl rfl 7 (by decide) b_4 rfl dX0_hasWord_6 ?_
    refine lv_icmp_ge (tgt := 16) hx hb dX0_hasWord_9 (by decide) (fun c2 => ?_) (fun c2 => ?_)
    · have c2 := k_le (a := 0) (b := p1.toInt) (by decide) rfl c2
      refine lv_iconst (v := 0) hx hb dX0_hasWord_16 (by decide) ?_
      exact rt_z FX rfl () rfl trivial (hP.sub [0] rfl) (hD.sub [0] (by decide) rfl) hS (Nat.le_of_ble_eq_true rfl) (Nat.le_of_ble_eq_true rfl) dX0_hasWord_17
    · have c2 := k_nle (a := 0) (b := p1.toInt) (by decide) rfl c2
      exfalso; omega
set_option maxRecDepth 100000 in
set_option maxHeartbeats 4000000 in
theorem c_X0_hasPlan (l : Launch) (g : GG) (h0 : Nat) (v0 : Nat) (v1 : Nat) (v2 : Nat) (v3 : Nat) (v4 : Nat) (v5 : Nat) (v6 : Nat) (v7 : Nat) (v8 : Nat) (v9 : Nat) (p1 : Int32) : Ct l g yX0_hasPlan cX0_hasPlan 2 (some .boolean) { frames := 0, cells := 0, slots := 0, locals := 0 } [.ref h0, .int p1] [(h0, .inr (0, [.int 0, .int 0, .int 0, .int 0, .int 0, .int 0, .int 0, .int 0, .int 0, .int 0, .ref v0, .ref v1, .ref v2, .ref v3, .ref v4, .ref v5, .ref v6, .ref v7, .ref v8, .ref v9]))] (S := Unit) (fun _ => some (.int 0)) (fun _ => True) (fun u => [(h0, .inr (0, [.int 0, .int 0, .int 0, .int 0, .int 0, .int 0, .int 0, .int 0, .int 0, .int 0, .ref v0, .ref v1, .ref v2, .ref v3, .ref v4, .ref v5, .ref v6, .ref v7, .ref v8, .ref v9]))]) := by
  refine Ct.of (by decide) (Nat.le_of_ble_eq_true rfl) ?_
  intro p e s m below meth c A ls FX hP hD hS hl
  obtain ⟨FC, hr, hlk, hKn, hA, hnm⟩ := id FX
  have FC : CallFix p m c cX0_hasPlan 2 s _ BIG RX0 := FC
  obtain ⟨hx, hb, hml, hown, hB⟩ := id FC
  have hl : lv_has ls 2 [(0, .ref h0), (1, .int p1)] := hl
  refine lv_iload_n hx hb dX0_hasPlan_0 rfl (lv_at hl 1 rfl) ?_
  refine lv_if_lt (tgt := 16) hx hb dX0_hasPlan_1 (by decide) (fun c1 => ?_) (fun c1 => ?_)
  · have c1 := k_lt (a := p1.toInt) (b := 0) rfl (by decide) c1
    refine lv_iconst (v := 0) hx hb dX0_hasPlan_16 (by decide) ?_
    exact rt_z FX rfl () rfl trivial (hP.sub [0] rfl) (hD.sub [0] (by decide) rfl) hS (Nat.le_of_ble_eq_true rfl) (Nat.le_of_ble_eq_true rfl) dX0_hasPlan_17
  · have c1 := k_nlt (a := p1.toInt) (b := 0) rfl (by decide) c1
    refine lv_iload_n hx hb dX0_hasPlan_4 rfl (lv_at hl 1 rfl) ?_
    refine lv_aload_n hx hb dX0_hasPlan_5 rfl (lv_at hl 0 rfl) ?_
    refine g_get (C := RX0) (T := TX0) (N := 20) (ci := 0) (v := .int 0) FC hKn hP i_X0 0 rfl rfl 8 (by decide) b_5 rfl dX0_hasPlan_6 ?_
    refine lv_icmp_ge (tgt := 16) hx hb dX0_hasPlan_9 (by decide) (fun c2 => ?_) (fun c2 => ?_)
    · have c2 := k_le (a := 0) (b := p1.toInt) (by decide) rfl c2
      refine lv_iconst (v := 0) hx hb dX0_hasPlan_16 (by decide) ?_
      exact rt_z FX rfl () rfl trivial (hP.sub [0] rfl) (hD.sub [0] (by decide) rfl) hS (Nat.le_of_ble_eq_true rfl) (Nat.le_of_ble_eq_true rfl) dX0_hasPlan_17
    · have c2 := k_nle (a := 0) (b := p1.toInt) (by decide) rfl c2
      exfalso; omega
set_option maxRecDepth 100000 in
set_option maxHeartbeats 4000000 in
theorem c_X0_hasNews (l : Launch) (g : GG) (h0 : Nat) (v0 : Nat) (v1 : Nat) (v2 : Nat) (v3 : Nat) (v4 : Nat) (v5 : Nat) (v6 : Nat) (v7 : Nat) (v8 : Nat) (v9 : Nat) (p1 : Int32) : Ct l g yX0_hasNews cX0_hasNews 2 (some .boolean) { frames := 0, cells := 0, slots := 0, locals := 0 } [.ref h0, .int p1] [(h0, .inr (0, [.int 0, .int 0, .int 0, .int 0, .int 0, .int 0, .int 0, .int 0, .int 0, .int 0, .ref v0, .ref v1, .ref v2, .ref v3, .ref v4, .ref v5, .ref v6, .ref v7, .ref v8, .ref v9]))] (S := Unit) (fun _ => some (.int 0)) (fun _ => True) (fun u => [(h0, .inr (0, [.int 0, .int 0, .int 0, .int 0, .int 0, .int 0, .int 0, .int 0, .int 0, .int 0, .ref v0, .ref v1, .ref v2, .ref v3, .ref v4, .ref v5, .ref v6, .ref v7, .ref v8, .ref v9]))]) := by
  refine Ct.of (by decide) (Nat.le_of_ble_eq_true rfl) ?_
  intro p e s m below meth c A ls FX hP hD hS hl
  obtain ⟨FC, hr, hlk, hKn, hA, hnm⟩ := id FX
  have FC : CallFix p m c cX0_hasNews 2 s _ BIG RX0 := FC
  obtain ⟨hx, hb, hml, hown, hB⟩ := id FC
  have hl : lv_has ls 2 [(0, .ref h0), (1, .int p1)] := hl
  refine lv_iload_n hx hb dX0_hasNews_0 rfl (lv_at hl 1 rfl) ?_
  refine lv_if_lt (tgt := 16) hx hb dX0_hasNews_1 (by decide) (fun c1 => ?_) (fun c1 => ?_)
  · have c1 := k_lt (a := p1.toInt) (b := 0) rfl (by decide) c1
    refine lv_iconst (v := 0) hx hb dX0_hasNews_16 (by decide) ?_
    exact rt_z FX rfl () rfl trivial (hP.sub [0] rfl) (hD.sub [0] (by decide) rfl) hS (Nat.le_of_ble_eq_true rfl) (Nat.le_of_ble_eq_true rfl) dX0_hasNews_17
  · have c1 := k_nlt (a := p1.toInt) (b := 0) rfl (by decide) c1
    refine lv_iload_n hx hb dX0_hasNews_4 rfl (lv_at hl 1 rfl) ?_
    refine lv_aload_n hx hb dX0_hasNews_5 rfl (lv_at hl 0 rfl) ?_
    refine g_get (C := RX0) (T := TX0) (N := 20) (ci := 0) (v := .int 0) FC hKn hP i_X0 0 rfl rfl 9 (by decide) b_6 rfl dX0_hasNews_6 ?_
    refine lv_icmp_ge (tgt := 16) hx hb dX0_hasNews_9 (by decide) (fun c2 => ?_) (fun c2 => ?_)
    · have c2 := k_le (a := 0) (b := p1.toInt) (by decide) rfl c2
      refine lv_iconst (v := 0) hx hb dX0_hasNews_16 (by decide) ?_
      exact rt_z FX rfl () rfl trivial (hP.sub [0] rfl) (hD.sub [0] (by decide) rfl) hS (Nat.le_of_ble_eq_true rfl) (Nat.le_of_ble_eq_true rfl) dX0_hasNews_17
    · have c2 := k_nle (a := 0) (b := p1.toInt) (by decide) rfl c2
      exfalso; omega
set_option maxRecDepth 100000 in
set_option maxHeartbeats 4000000 in
theorem c_X0_hasBelief (l : Launch) (g : GG) (h0 : Nat) (v0 : Nat) (v1 : Nat) (v2 : Nat) (v3 : Nat) (v4 : Nat) (v5 : Nat) (v6 : Nat) (v7 : Nat) (v8 : Nat) (v9 : Nat) (p1 : Int32) : Ct l g yX0_hasBelief cX0_hasBelief 2 (some .boolean) { frames := 1, cells := 0, slots := 0, locals := 20 } [.ref h0, .int p1] [(h0, .inr (0, [.int 0, .int 0, .int 0, .int 0, .int 0, .int 0, .int 0, .int 0, .int 0, .int 0, .ref v0, .ref v1, .ref v2, .ref v3, .ref v4, .ref v5, .ref v6, .ref v7, .ref v8, .ref v9]))] (S := Unit) (fun _ => some (.int 0)) (fun _ => True) (fun u => [(h0, .inr (0, [.int 0, .int 0, .int 0, .int 0, .int 0, .int 0, .int 0, .int 0, .int 0, .int 0, .ref v0, .ref v1, .ref v2, .ref v3, .ref v4, .ref v5, .ref v6, .ref v7, .ref v8, .ref v9]))]) := by
  refine Ct.of (by decide) (Nat.le_of_ble_eq_true rfl) ?_
  intro p e s m below meth c A ls FX hP hD hS hl
  obtain ⟨FC, hr, hlk, hKn, hA, hnm⟩ := id FX
  have FC : CallFix p m c cX0_hasBelief 2 s _ BIG RX0 := FC
  obtain ⟨hx, hb, hml, hown, hB⟩ := id FC
  have hl : lv_has ls 2 [(0, .ref h0), (1, .int p1)] := hl
  refine lv_iload_n hx hb dX0_hasBelief_0 rfl (lv_at hl 1 rfl) ?_
  refine lv_iconst (v := 1) hx hb dX0_hasBelief_1 (by decide) ?_
  refine lv_icmp_lt (tgt := 17) hx hb dX0_hasBelief_2 (by decide) (fun c1 => ?_) (fun c1 => ?_)
  · have c1 := k_lt (a := p1.toInt) (b := 1) rfl (by decide) c1
    refine lv_iconst (v := 0) hx hb dX0_hasBelief_17 (by decide) ?_
    exact rt_z FX rfl () rfl trivial (hP.sub [0] rfl) (hD.sub [0] (by decide) rfl) hS (Nat.le_of_ble_eq_true rfl) (Nat.le_of_ble_eq_true rfl) dX0_hasBelief_18
  · have c1 := k_nlt (a := p1.toInt) (b := 1) rfl (by decide) c1
    refine lv_iload_n hx hb dX0_hasBelief_5 rfl (lv_at hl 1 rfl) ?_
    refine lv_aload_n hx hb dX0_hasBelief_6 rfl (lv_at hl 0 rfl) ?_
    refine call_V (As := []) (rest := [.int p1]) (wr := []) FC hKn (c_X0_everything l g h0 v0 v1 v2 v3 v4 v5 v6 v7 v8 v9) m_yX0_everything b_7 (ci := 0) rfl rfl rfl hP hD hS hA [0] [] rfl (by decide) rfl (by decide) (by decide) rfl hl.1 rfl (Nat.le_of_ble_eq_true rfl) dX0_hasBelief_7 ⟨(Nat.le_of_ble_eq_true rfl), (Nat.le_of_ble_eq_true rfl)⟩ ⟨(Nat.le_of_ble_eq_true rfl), (Nat.le_of_ble_eq_true rfl)⟩ (fun u2 H locs _ hP hD hS => ?_)
    have hP : va_P g.1 vwCl [(h0, .inr (0, [.int 0, .int 0, .int 0, .int 0, .int 0, .int 0, .int 0, .int 0, .int 0, .int 0, .ref v0, .ref v1, .ref v2, .ref v3, .ref v4, .ref v5, .ref v6, .ref v7, .ref v8, .ref v9]))] H := hP
    have hD : va_D A [(h0, .inr (0, [.int 0, .int 0, .int 0, .int 0, .int 0, .int 0, .int 0, .int 0, .int 0, .int 0, .ref v0, .ref v1, .ref v2, .ref v3, .ref v4, .ref v5, .ref v6, .ref v7, .ref v8, .ref v9]))] := hD
    refine W.eq (g2 := F0 m 10 ls [.int 0, .int p1]) rfl ?_
    refine lv_icmp_gt (tgt := 17) hx hb dX0_hasBelief_10 (by decide) (fun c3 => ?_) (fun c3 => ?_)
    · have c3 := k_lt (a := 0) (b := p1.toInt) (by decide) rfl c3
      refine lv_iconst (v := 0) hx hb dX0_hasBelief_17 (by decide) ?_
      exact rt_z FX rfl () rfl trivial (hP.sub [0] rfl) (hD.sub [0] (by decide) rfl) hS (Nat.le_of_ble_eq_true rfl) (Nat.le_of_ble_eq_true rfl) dX0_hasBelief_18
    · have c3 := k_nlt (a := 0) (b := p1.toInt) (by decide) rfl c3
      exfalso; omega
set_option maxRecDepth 100000 in
set_option maxHeartbeats 4000000 in
theorem c_X11_isSlot (l : Launch) (g : GG) (p0 : Int32) : Ct l g yX11_isSlot cX11_isSlot 1 (some .boolean) { frames := 0, cells := 0, slots := 0, locals := 0 } [.int p0] [] (S := Unit) (fun _ => some (.int (sp_slot p0))) (fun _ => True) (fun u => []) := by
  refine Ct.of (by decide) (Nat.le_of_ble_eq_true rfl) ?_
  intro p e s m below meth c A ls FX hP hD hS hl
  obtain ⟨FC, hr, hlk, hKn, hA, hnm⟩ := id FX
  have FC : CallFix p m c cX11_isSlot 1 s _ BIG RX11 := FC
  obtain ⟨hx, hb, hml, hown, hB⟩ := id FC
  have hl : lv_has ls 1 [(0, .int p0)] := hl
  refine lv_iload_n hx hb dX11_isSlot_0 rfl (lv_at hl 0 rfl) ?_
  refine lv_if_lt (tgt := 13) hx hb dX11_isSlot_1 (by decide) (fun c1 => ?_) (fun c1 => ?_)
  · have c1 := k_lt (a := p0.toInt) (b := 0) rfl (by decide) c1
    refine lv_iconst (v := 0) hx hb dX11_isSlot_13 (by decide) ?_
    exact rt_z FX rfl () (congrArg (fun z => some (Value.int z)) (show (0 : Int32) = _ from by unfold sp_slot; (repeat' split) <;> first | rfl | (exfalso; omega))) trivial (hP.sub [] rfl) (hD.sub [] (by decide) rfl) hS (Nat.le_of_ble_eq_true rfl) (Nat.le_of_ble_eq_true rfl) dX11_isSlot_14
  · have c1 := k_nlt (a := p0.toInt) (b := 0) rfl (by decide) c1
    refine lv_iload_n hx hb dX11_isSlot_4 rfl (lv_at hl 0 rfl) ?_
    refine lv_iconst (v := 4) hx hb dX11_isSlot_5 (by decide) ?_
    refine lv_icmp_ge (tgt := 13) hx hb dX11_isSlot_6 (by decide) (fun c2 => ?_) (fun c2 => ?_)
    · have c2 := k_le (a := 4) (b := p0.toInt) (by decide) rfl c2
      refine lv_iconst (v := 0) hx hb dX11_isSlot_13 (by decide) ?_
      exact rt_z FX rfl () (congrArg (fun z => some (Value.int z)) (show (0 : Int32) = _ from by unfold sp_slot; (repeat' split) <;> first | rfl | (exfalso; omega))) trivial (hP.sub [] rfl) (hD.sub [] (by decide) rfl) hS (Nat.le_of_ble_eq_true rfl) (Nat.le_of_ble_eq_true rfl) dX11_isSlot_14
    · have c2 := k_nle (a := 4) (b := p0.toInt) (by decide) rfl c2
      refine lv_iconst (v := 1) hx hb dX11_isSlot_9 (by decide) ?_
      refine lv_goto (tgt := 14) hx hb dX11_isSlot_10 (by decide) ?_
      exact rt_z FX rfl () (congrArg (fun z => some (Value.int z)) (show (1 : Int32) = _ from by unfold sp_slot; (repeat' split) <;> first | rfl | (exfalso; omega))) trivial (hP.sub [] rfl) (hD.sub [] (by decide) rfl) hS (Nat.le_of_ble_eq_true rfl) (Nat.le_of_ble_eq_true rfl) dX11_isSlot_14
set_option maxRecDepth 100000 in
set_option maxHeartbeats 4000000 in
theorem c_X11_isSeed (l : Launch) (g : GG) (p0 : Int32) : Ct l g yX11_isSeed cX11_isSeed 1 (some .boolean) { frames := 0, cells := 0, slots := 0, locals := 0 } [.int p0] [] (S := Unit) (fun _ => some (.int (sp_seed p0))) (fun _ => True) (fun u => []) := by
  refine Ct.of (by decide) (Nat.le_of_ble_eq_true rfl) ?_
  intro p e s m below meth c A ls FX hP hD hS hl
  obtain ⟨FC, hr, hlk, hKn, hA, hnm⟩ := id FX
  have FC : CallFix p m c cX11_isSeed 1 s _ BIG RX11 := FC
  obtain ⟨hx, hb, hml, hown, hB⟩ := id FC
  have hl : lv_has ls 1 [(0, .int p0)] := hl
  refine lv_iload_n hx hb dX11_isSeed_0 rfl (lv_at hl 0 rfl) ?_
  refine lv_if_lt (tgt := 15) hx hb dX11_isSeed_1 (by decide) (fun c1 => ?_) (fun c1 => ?_)
  · have c1 := k_lt (a := p0.toInt) (b := 0) rfl (by decide) c1
    refine lv_iconst (v := 0) hx hb dX11_isSeed_15 (by decide) ?_
    exact rt_z FX rfl () (congrArg (fun z => some (Value.int z)) (show (0 : Int32) = _ from by unfold sp_seed; (repeat' split) <;> first | rfl | (exfalso; omega))) trivial (hP.sub [] rfl) (hD.sub [] (by decide) rfl) hS (Nat.le_of_ble_eq_true rfl) (Nat.le_of_ble_eq_true rfl) dX11_isSeed_16
  · have c1 := k_nlt (a := p0.toInt) (b := 0) rfl (by decide) c1
    refine lv_iload_n hx hb dX11_isSeed_4 rfl (lv_at hl 0 rfl) ?_
    refine lv_ldcw hx hb hown (hB _ b_8) dX11_isSeed_5 ?_
    refine lv_icmp_gt (tgt := 15) hx hb dX11_isSeed_8 (by decide) (fun c2 => ?_) (fun c2 => ?_)
    · have c2 := k_lt (a := 2000000000) (b := p0.toInt) (by decide) rfl c2
      refine lv_iconst (v := 0) hx hb dX11_isSeed_15 (by decide) ?_
      exact rt_z FX rfl () (congrArg (fun z => some (Value.int z)) (show (0 : Int32) = _ from by unfold sp_seed; (repeat' split) <;> first | rfl | (exfalso; omega))) trivial (hP.sub [] rfl) (hD.sub [] (by decide) rfl) hS (Nat.le_of_ble_eq_true rfl) (Nat.le_of_ble_eq_true rfl) dX11_isSeed_16
    · have c2 := k_nlt (a := 2000000000) (b := p0.toInt) (by decide) rfl c2
      refine lv_iconst (v := 1) hx hb dX11_isSeed_11 (by decide) ?_
      refine lv_goto (tgt := 16) hx hb dX11_isSeed_12 (by decide) ?_
      exact rt_z FX rfl () (congrArg (fun z => some (Value.int z)) (show (1 : Int32) = _ from by unfold sp_seed; (repeat' split) <;> first | rfl | (exfalso; omega))) trivial (hP.sub [] rfl) (hD.sub [] (by decide) rfl) hS (Nat.le_of_ble_eq_true rfl) (Nat.le_of_ble_eq_true rfl) dX11_isSeed_16
set_option maxRecDepth 100000 in
set_option maxHeartbeats 4000000 in
theorem c_X11_takeWeek (l : Launch) (g : GG) (h0 : Nat) (h1 : Nat) (w0 : Nat) (w2 : Nat) (w3 : Nat) (w4 : Nat) (w5 : Nat) (w6 : Nat) (w7 : Nat) (w8 : Nat) (w9 : Nat) (w10 : Nat) (v0 : Nat) (v1 : Nat) (v2 : Nat) (v3 : Nat) (v4 : Nat) (v5 : Nat) (v6 : Nat) (v7 : Nat) (v8 : Nat) (v9 : Nat) (p1 : Int32) : Ct l g yX11_takeWeek cX11_takeWeek 3 (some .int) { frames := 1, cells := 0, slots := 0, locals := 20 } [.ref h0, .int p1] [(h0, .inr (11, [.ref w0, .ref h1, .ref w2, .ref w3, .ref w4, .ref w5, .ref w6, .ref w7, .ref w8, .ref w9, .ref w10])), (h1, .inr (0, [.int 0, .int 0, .int 0, .int 0, .int 0, .int 0, .int 0, .int 0, .int 0, .int 0, .ref v0, .ref v1, .ref v2, .ref v3, .ref v4, .ref v5, .ref v6, .ref v7, .ref v8, .ref v9]))] (S := Unit) (fun _ => some (.int (-2))) (fun _ => True) (fun u => [(h0, .inr (11, [.ref w0, .ref h1, .ref w2, .ref w3, .ref w4, .ref w5, .ref w6, .ref w7, .ref w8, .ref w9, .ref w10])), (h1, .inr (0, [.int 0, .int 0, .int 0, .int 0, .int 0, .int 0, .int 0, .int 0, .int 0, .int 0, .ref v0, .ref v1, .ref v2, .ref v3, .ref v4, .ref v5, .ref v6, .ref v7, .ref v8, .ref v9]))]) := by
  refine Ct.of (by decide) (Nat.le_of_ble_eq_true rfl) ?_
  intro p e s m below meth c A ls FX hP hD hS hl
  obtain ⟨FC, hr, hlk, hKn, hA, hnm⟩ := id FX
  have FC : CallFix p m c cX11_takeWeek 3 s _ BIG RX11 := FC
  obtain ⟨hx, hb, hml, hown, hB⟩ := id FC
  have hl : lv_has ls 3 [(0, .ref h0), (1, .int p1)] := hl
  refine lv_iload_n hx hb dX11_takeWeek_0 rfl (lv_at hl 1 rfl) ?_
  refine call_S (As := [.int p1]) (rest := []) (wr := [(h0, .inr (11, [.ref w0, .ref h1, .ref w2, .ref w3, .ref w4, .ref w5, .ref w6, .ref w7, .ref w8, .ref w9, .ref w10])), (h1, .inr (0, [.int 0, .int 0, .int 0, .int 0, .int 0, .int 0, .int 0, .int 0, .int 0, .int 0, .ref v0, .ref v1, .ref v2, .ref v3, .ref v4, .ref v5, .ref v6, .ref v7, .ref v8, .ref v9]))]) FC hKn (c_X11_isSlot l g p1) m_yX11_isSlot b_9 hP hD hS hA [] [0, 1] rfl (by decide) rfl (by decide) (by decide) rfl hl.1 rfl (Nat.le_of_ble_eq_true rfl) dX11_takeWeek_1 ⟨(Nat.le_of_ble_eq_true rfl), (Nat.le_of_ble_eq_true rfl)⟩ ⟨(Nat.le_of_ble_eq_true rfl), (Nat.le_of_ble_eq_true rfl)⟩ (fun u1 H locs _ hP hD hS => ?_)
  have hP : va_P g.1 vwCl [(h0, .inr (11, [.ref w0, .ref h1, .ref w2, .ref w3, .ref w4, .ref w5, .ref w6, .ref w7, .ref w8, .ref w9, .ref w10])), (h1, .inr (0, [.int 0, .int 0, .int 0, .int 0, .int 0, .int 0, .int 0, .int 0, .int 0, .int 0, .ref v0, .ref v1, .ref v2, .ref v3, .ref v4, .ref v5, .ref v6, .ref v7, .ref v8, .ref v9]))] H := hP
  have hD : va_D A [(h0, .inr (11, [.ref w0, .ref h1, .ref w2, .ref w3, .ref w4, .ref w5, .ref w6, .ref w7, .ref w8, .ref w9, .ref w10])), (h1, .inr (0, [.int 0, .int 0, .int 0, .int 0, .int 0, .int 0, .int 0, .int 0, .int 0, .int 0, .ref v0, .ref v1, .ref v2, .ref v3, .ref v4, .ref v5, .ref v6, .ref v7, .ref v8, .ref v9]))] := hD
  refine W.eq (g2 := F0 m 4 ls [.int (sp_slot p1)]) rfl ?_
  by_cases c2 : 0 ≤ p1.toInt ∧ p1.toInt ≤ 3
  · refine tp_i (v := 1) (if_pos c2) ?_
    refine lv_if_eq (tgt := 17) hx hb dX11_takeWeek_4 (by decide) (fun h => absurd h (by decide)) (fun _ => ?_)
    refine lv_aload_n hx hb dX11_takeWeek_7 rfl (lv_at hl 0 rfl) ?_
    refine g_get (C := RX11) (T := TX11) (N := 11) (ci := 11) (v := .ref h1) FC hKn hP i_X11 0 rfl rfl 1 (by decide) b_10 rfl dX11_takeWeek_8 ?_
    refine call_VN (As := []) (rest := []) (wr := [(h0, .inr (11, [.ref w0, .ref h1, .ref w2, .ref w3, .ref w4, .ref w5, .ref w6, .ref w7, .ref w8, .ref w9, .ref w10]))]) FC hKn (c_X0_stands l g h1 v0 v1 v2 v3 v4 v5 v6 v7 v8 v9) m_yX0_stands b_11 (ci := 0) rfl rfl rfl hP hD hS hA [1] [0] rfl (by decide) rfl (by decide) (by decide) rfl hl.1 rfl (Nat.le_of_ble_eq_true rfl) dX11_takeWeek_11 ⟨(Nat.le_of_ble_eq_true rfl), (Nat.le_of_ble_eq_true rfl)⟩ ⟨(Nat.le_of_ble_eq_true rfl), (Nat.le_of_ble_eq_true rfl)⟩ (fun u3 H locs _ hP hD hS => ?_)
    have hP : va_P g.1 vwCl [(h0, .inr (11, [.ref w0, .ref h1, .ref w2, .ref w3, .ref w4, .ref w5, .ref w6, .ref w7, .ref w8, .ref w9, .ref w10])), (h1, .inr (0, [.int 0, .int 0, .int 0, .int 0, .int 0, .int 0, .int 0, .int 0, .int 0, .int 0, .ref v0, .ref v1, .ref v2, .ref v3, .ref v4, .ref v5, .ref v6, .ref v7, .ref v8, .ref v9]))] H := hP
    have hD : va_D A [(h0, .inr (11, [.ref w0, .ref h1, .ref w2, .ref w3, .ref w4, .ref w5, .ref w6, .ref w7, .ref w8, .ref w9, .ref w10])), (h1, .inr (0, [.int 0, .int 0, .int 0, .int 0, .int 0, .int 0, .int 0, .int 0, .int 0, .int 0, .ref v0, .ref v1, .ref v2, .ref v3, .ref v4, .ref v5, .ref v6, .ref v7, .ref v8, .ref v9]))] := hD
    refine W.eq (g2 := F0 m 14 ls [.int 0]) rfl ?_
    refine lv_if_ne (tgt := 20) hx hb dX11_takeWeek_14 (by decide) (fun h => absurd h (by decide)) (fun _ => ?_)
    refine lv_bipush (v := -2) hx hb dX11_takeWeek_17 (by decide) ?_
    exact rt_i FX () rfl trivial (hP.sub [0, 1] rfl) (hD.sub [0, 1] (by decide) rfl) hS (Nat.le_of_ble_eq_true rfl) (Nat.le_of_ble_eq_true rfl) dX11_takeWeek_19
  · refine tp_i (v := 0) (if_neg c2) ?_
    refine lv_if_eq (tgt := 17) hx hb dX11_takeWeek_4 (by decide) (fun _ => ?_) (fun h => absurd h (by decide))
    refine lv_bipush (v := -2) hx hb dX11_takeWeek_17 (by decide) ?_
    exact rt_i FX () rfl trivial (hP.sub [0, 1] rfl) (hD.sub [0, 1] (by decide) rfl) hS (Nat.le_of_ble_eq_true rfl) (Nat.le_of_ble_eq_true rfl) dX11_takeWeek_19
set_option maxRecDepth 100000 in
set_option maxHeartbeats 4000000 in
theorem c_X11_feelWeek (l : Launch) (g : GG) (h0 : Nat) (h1 : Nat) (w0 : Nat) (w2 : Nat) (w3 : Nat) (w4 : Nat) (w5 : Nat) (w6 : Nat) (w7 : Nat) (w8 : Nat) (w9 : Nat) (w10 : Nat) (v0 : Nat) (v1 : Nat) (v2 : Nat) (v3 : Nat) (v4 : Nat) (v5 : Nat) (v6 : Nat) (v7 : Nat) (v8 : Nat) (v9 : Nat) (p1 : Int32) (p2 : Int32) : Ct l g yX11_feelWeek cX11_feelWeek 4 (some .int) { frames := 1, cells := 0, slots := 0, locals := 21 } [.ref h0, .int p1, .int p2] [(h0, .inr (11, [.ref w0, .ref h1, .ref w2, .ref w3, .ref w4, .ref w5, .ref w6, .ref w7, .ref w8, .ref w9, .ref w10])), (h1, .inr (0, [.int 0, .int 0, .int 0, .int 0, .int 0, .int 0, .int 0, .int 0, .int 0, .int 0, .ref v0, .ref v1, .ref v2, .ref v3, .ref v4, .ref v5, .ref v6, .ref v7, .ref v8, .ref v9]))] (S := Unit) (fun _ => some (.int (-2))) (fun _ => True) (fun u => [(h0, .inr (11, [.ref w0, .ref h1, .ref w2, .ref w3, .ref w4, .ref w5, .ref w6, .ref w7, .ref w8, .ref w9, .ref w10])), (h1, .inr (0, [.int 0, .int 0, .int 0, .int 0, .int 0, .int 0, .int 0, .int 0, .int 0, .int 0, .ref v0, .ref v1, .ref v2, .ref v3, .ref v4, .ref v5, .ref v6, .ref v7, .ref v8, .ref v9]))]) := by
  refine Ct.of (by decide) (Nat.le_of_ble_eq_true rfl) ?_
  intro p e s m below meth c A ls FX hP hD hS hl
  obtain ⟨FC, hr, hlk, hKn, hA, hnm⟩ := id FX
  have FC : CallFix p m c cX11_feelWeek 4 s _ BIG RX11 := FC
  obtain ⟨hx, hb, hml, hown, hB⟩ := id FC
  have hl : lv_has ls 4 [(0, .ref h0), (1, .int p1), (2, .int p2)] := hl
  refine lv_aload_n hx hb dX11_feelWeek_0 rfl (lv_at hl 0 rfl) ?_
  refine g_get (C := RX11) (T := TX11) (N := 11) (ci := 11) (v := .ref h1) FC hKn hP i_X11 0 rfl rfl 1 (by decide) b_10 rfl dX11_feelWeek_1 ?_
  refine lv_iload_n hx hb dX11_feelWeek_4 rfl (lv_at hl 2 rfl) ?_
  refine call_VN (As := [.int p2]) (rest := []) (wr := [(h0, .inr (11, [.ref w0, .ref h1, .ref w2, .ref w3, .ref w4, .ref w5, .ref w6, .ref w7, .ref w8, .ref w9, .ref w10]))]) FC hKn (c_X0_hasHearer l g h1 v0 v1 v2 v3 v4 v5 v6 v7 v8 v9 p2) m_yX0_hasHearer b_12 (ci := 0) rfl rfl rfl hP hD hS hA [1] [0] rfl (by decide) rfl (by decide) (by decide) rfl hl.1 rfl (Nat.le_of_ble_eq_true rfl) dX11_feelWeek_5 ⟨(Nat.le_of_ble_eq_true rfl), (Nat.le_of_ble_eq_true rfl)⟩ ⟨(Nat.le_of_ble_eq_true rfl), (Nat.le_of_ble_eq_true rfl)⟩ (fun u1 H locs _ hP hD hS => ?_)
  have hP : va_P g.1 vwCl [(h0, .inr (11, [.ref w0, .ref h1, .ref w2, .ref w3, .ref w4, .ref w5, .ref w6, .ref w7, .ref w8, .ref w9, .ref w10])), (h1, .inr (0, [.int 0, .int 0, .int 0, .int 0, .int 0, .int 0, .int 0, .int 0, .int 0, .int 0, .ref v0, .ref v1, .ref v2, .ref v3, .ref v4, .ref v5, .ref v6, .ref v7, .ref v8, .ref v9]))] H := hP
  have hD : va_D A [(h0, .inr (11, [.ref w0, .ref h1, .ref w2, .ref w3, .ref w4, .ref w5, .ref w6, .ref w7, .ref w8, .ref w9, .ref w10])), (h1, .inr (0, [.int 0, .int 0, .int 0, .int 0, .int 0, .int 0, .int 0, .int 0, .int 0, .int 0, .ref v0, .ref v1, .ref v2, .ref v3, .ref v4, .ref v5, .ref v6, .ref v7, .ref v8, .ref v9]))] := hD
  refine W.eq (g2 := F0 m 8 ls [.int 0]) rfl ?_
  refine lv_if_ne (tgt := 14) hx hb dX11_feelWeek_8 (by decide) (fun h => absurd h (by decide)) (fun _ => ?_)
  refine lv_bipush (v := -2) hx hb dX11_feelWeek_11 (by decide) ?_
  exact rt_i FX () rfl trivial (hP.sub [0, 1] rfl) (hD.sub [0, 1] (by decide) rfl) hS (Nat.le_of_ble_eq_true rfl) (Nat.le_of_ble_eq_true rfl) dX11_feelWeek_13
set_option maxRecDepth 100000 in
set_option maxHeartbeats 4000000 in
theorem c_X11_orderWeek (l : Launch) (g : GG) (h0 : Nat) (h1 : Nat) (w0 : Nat) (w2 : Nat) (w3 : Nat) (w4 : Nat) (w5 : Nat) (w6 : Nat) (w7 : Nat) (w8 : Nat) (w9 : Nat) (w10 : Nat) (v0 : Nat) (v1 : Nat) (v2 : Nat) (v3 : Nat) (v4 : Nat) (v5 : Nat) (v6 : Nat) (v7 : Nat) (v8 : Nat) (v9 : Nat) (p1 : Int32) (p2 : Int32) : Ct l g yX11_orderWeek cX11_orderWeek 4 (some .int) { frames := 1, cells := 0, slots := 0, locals := 21 } [.ref h0, .int p1, .int p2] [(h0, .inr (11, [.ref w0, .ref h1, .ref w2, .ref w3, .ref w4, .ref w5, .ref w6, .ref w7, .ref w8, .ref w9, .ref w10])), (h1, .inr (0, [.int 0, .int 0, .int 0, .int 0, .int 0, .int 0, .int 0, .int 0, .int 0, .int 0, .ref v0, .ref v1, .ref v2, .ref v3, .ref v4, .ref v5, .ref v6, .ref v7, .ref v8, .ref v9]))] (S := Unit) (fun _ => some (.int (-2))) (fun _ => True) (fun u => [(h0, .inr (11, [.ref w0, .ref h1, .ref w2, .ref w3, .ref w4, .ref w5, .ref w6, .ref w7, .ref w8, .ref w9, .ref w10])), (h1, .inr (0, [.int 0, .int 0, .int 0, .int 0, .int 0, .int 0, .int 0, .int 0, .int 0, .int 0, .ref v0, .ref v1, .ref v2, .ref v3, .ref v4, .ref v5, .ref v6, .ref v7, .ref v8, .ref v9]))]) := by
  refine Ct.of (by decide) (Nat.le_of_ble_eq_true rfl) ?_
  intro p e s m below meth c A ls FX hP hD hS hl
  obtain ⟨FC, hr, hlk, hKn, hA, hnm⟩ := id FX
  have FC : CallFix p m c cX11_orderWeek 4 s _ BIG RX11 := FC
  obtain ⟨hx, hb, hml, hown, hB⟩ := id FC
  have hl : lv_has ls 4 [(0, .ref h0), (1, .int p1), (2, .int p2)] := hl
  refine lv_aload_n hx hb dX11_orderWeek_0 rfl (lv_at hl 0 rfl) ?_
  refine g_get (C := RX11) (T := TX11) (N := 11) (ci := 11) (v := .ref h1) FC hKn hP i_X11 0 rfl rfl 1 (by decide) b_10 rfl dX11_orderWeek_1 ?_
  refine lv_iload_n hx hb dX11_orderWeek_4 rfl (lv_at hl 2 rfl) ?_
  refine call_VN (As := [.int p2]) (rest := []) (wr := [(h0, .inr (11, [.ref w0, .ref h1, .ref w2, .ref w3, .ref w4, .ref w5, .ref w6, .ref w7, .ref w8, .ref w9, .ref w10]))]) FC hKn (c_X0_hasHearer l g h1 v0 v1 v2 v3 v4 v5 v6 v7 v8 v9 p2) m_yX0_hasHearer b_12 (ci := 0) rfl rfl rfl hP hD hS hA [1] [0] rfl (by decide) rfl (by decide) (by decide) rfl hl.1 rfl (Nat.le_of_ble_eq_true rfl) dX11_orderWeek_5 ⟨(Nat.le_of_ble_eq_true rfl), (Nat.le_of_ble_eq_true rfl)⟩ ⟨(Nat.le_of_ble_eq_true rfl), (Nat.le_of_ble_eq_true rfl)⟩ (fun u1 H locs _ hP hD hS => ?_)
  have hP : va_P g.1 vwCl [(h0, .inr (11, [.ref w0, .ref h1, .ref w2, .ref w3, .ref w4, .ref w5, .ref w6, .ref w7, .ref w8, .ref w9, .ref w10])), (h1, .inr (0, [.int 0, .int 0, .int 0, .int 0, .int 0, .int 0, .int 0, .int 0, .int 0, .int 0, .ref v0, .ref v1, .ref v2, .ref v3, .ref v4, .ref v5, .ref v6, .ref v7, .ref v8, .ref v9]))] H := hP
  have hD : va_D A [(h0, .inr (11, [.ref w0, .ref h1, .ref w2, .ref w3, .ref w4, .ref w5, .ref w6, .ref w7, .ref w8, .ref w9, .ref w10])), (h1, .inr (0, [.int 0, .int 0, .int 0, .int 0, .int 0, .int 0, .int 0, .int 0, .int 0, .int 0, .ref v0, .ref v1, .ref v2, .ref v3, .ref v4, .ref v5, .ref v6, .ref v7, .ref v8, .ref v9]))] := hD
  refine W.eq (g2 := F0 m 8 ls [.int 0]) rfl ?_
  refine lv_if_ne (tgt := 14) hx hb dX11_orderWeek_8 (by decide) (fun h => absurd h (by decide)) (fun _ => ?_)
  refine lv_bipush (v := -2) hx hb dX11_orderWeek_11 (by decide) ?_
  exact rt_i FX () rfl trivial (hP.sub [0, 1] rfl) (hD.sub [0, 1] (by decide) rfl) hS (Nat.le_of_ble_eq_true rfl) (Nat.le_of_ble_eq_true rfl) dX11_orderWeek_13
set_option maxRecDepth 100000 in
set_option maxHeartbeats 4000000 in
theorem c_X11_reckonWeek (l : Launch) (g : GG) (h0 : Nat) (h1 : Nat) (w0 : Nat) (w2 : Nat) (w3 : Nat) (w4 : Nat) (w5 : Nat) (w6 : Nat) (w7 : Nat) (w8 : Nat) (w9 : Nat) (w10 : Nat) (v0 : Nat) (v1 : Nat) (v2 : Nat) (v3 : Nat) (v4 : Nat) (v5 : Nat) (v6 : Nat) (v7 : Nat) (v8 : Nat) (v9 : Nat) (p1 : Int32) (p2 : Int32) : Ct l g yX11_reckonWeek cX11_reckonWeek 4 (some .int) { frames := 1, cells := 0, slots := 0, locals := 21 } [.ref h0, .int p1, .int p2] [(h0, .inr (11, [.ref w0, .ref h1, .ref w2, .ref w3, .ref w4, .ref w5, .ref w6, .ref w7, .ref w8, .ref w9, .ref w10])), (h1, .inr (0, [.int 0, .int 0, .int 0, .int 0, .int 0, .int 0, .int 0, .int 0, .int 0, .int 0, .ref v0, .ref v1, .ref v2, .ref v3, .ref v4, .ref v5, .ref v6, .ref v7, .ref v8, .ref v9]))] (S := Unit) (fun _ => some (.int (-2))) (fun _ => True) (fun u => [(h0, .inr (11, [.ref w0, .ref h1, .ref w2, .ref w3, .ref w4, .ref w5, .ref w6, .ref w7, .ref w8, .ref w9, .ref w10])), (h1, .inr (0, [.int 0, .int 0, .int 0, .int 0, .int 0, .int 0, .int 0, .int 0, .int 0, .int 0, .ref v0, .ref v1, .ref v2, .ref v3, .ref v4, .ref v5, .ref v6, .ref v7, .ref v8, .ref v9]))]) := by
  refine Ct.of (by decide) (Nat.le_of_ble_eq_true rfl) ?_
  intro p e s m below meth c A ls FX hP hD hS hl
  obtain ⟨FC, hr, hlk, hKn, hA, hnm⟩ := id FX
  have FC : CallFix p m c cX11_reckonWeek 4 s _ BIG RX11 := FC
  obtain ⟨hx, hb, hml, hown, hB⟩ := id FC
  have hl : lv_has ls 4 [(0, .ref h0), (1, .int p1), (2, .int p2)] := hl
  refine lv_aload_n hx hb dX11_reckonWeek_0 rfl (lv_at hl 0 rfl) ?_
  refine g_get (C := RX11) (T := TX11) (N := 11) (ci := 11) (v := .ref h1) FC hKn hP i_X11 0 rfl rfl 1 (by decide) b_10 rfl dX11_reckonWeek_1 ?_
  refine lv_iload_n hx hb dX11_reckonWeek_4 rfl (lv_at hl 2 rfl) ?_
  refine call_VN (As := [.int p2]) (rest := []) (wr := [(h0, .inr (11, [.ref w0, .ref h1, .ref w2, .ref w3, .ref w4, .ref w5, .ref w6, .ref w7, .ref w8, .ref w9, .ref w10]))]) FC hKn (c_X0_hasHearer l g h1 v0 v1 v2 v3 v4 v5 v6 v7 v8 v9 p2) m_yX0_hasHearer b_12 (ci := 0) rfl rfl rfl hP hD hS hA [1] [0] rfl (by decide) rfl (by decide) (by decide) rfl hl.1 rfl (Nat.le_of_ble_eq_true rfl) dX11_reckonWeek_5 ⟨(Nat.le_of_ble_eq_true rfl), (Nat.le_of_ble_eq_true rfl)⟩ ⟨(Nat.le_of_ble_eq_true rfl), (Nat.le_of_ble_eq_true rfl)⟩ (fun u1 H locs _ hP hD hS => ?_)
  have hP : va_P g.1 vwCl [(h0, .inr (11, [.ref w0, .ref h1, .ref w2, .ref w3, .ref w4, .ref w5, .ref w6, .ref w7, .ref w8, .ref w9, .ref w10])), (h1, .inr (0, [.int 0, .int 0, .int 0, .int 0, .int 0, .int 0, .int 0, .int 0, .int 0, .int 0, .ref v0, .ref v1, .ref v2, .ref v3, .ref v4, .ref v5, .ref v6, .ref v7, .ref v8, .ref v9]))] H := hP
  have hD : va_D A [(h0, .inr (11, [.ref w0, .ref h1, .ref w2, .ref w3, .ref w4, .ref w5, .ref w6, .ref w7, .ref w8, .ref w9, .ref w10])), (h1, .inr (0, [.int 0, .int 0, .int 0, .int 0, .int 0, .int 0, .int 0, .int 0, .int 0, .int 0, .ref v0, .ref v1, .ref v2, .ref v3, .ref v4, .ref v5, .ref v6, .ref v7, .ref v8, .ref v9]))] := hD
  refine W.eq (g2 := F0 m 8 ls [.int 0]) rfl ?_
  refine lv_if_ne (tgt := 14) hx hb dX11_reckonWeek_8 (by decide) (fun h => absurd h (by decide)) (fun _ => ?_)
  refine lv_bipush (v := -2) hx hb dX11_reckonWeek_11 (by decide) ?_
  exact rt_i FX () rfl trivial (hP.sub [0, 1] rfl) (hD.sub [0, 1] (by decide) rfl) hS (Nat.le_of_ble_eq_true rfl) (Nat.le_of_ble_eq_true rfl) dX11_reckonWeek_13
set_option maxRecDepth 100000 in
set_option maxHeartbeats 4000000 in
theorem c_X11_wordOfBest (l : Launch) (g : GG) (h0 : Nat) (h1 : Nat) (w0 : Nat) (w2 : Nat) (w3 : Nat) (w4 : Nat) (w5 : Nat) (w6 : Nat) (w7 : Nat) (w8 : Nat) (w9 : Nat) (w10 : Nat) (v0 : Nat) (v1 : Nat) (v2 : Nat) (v3 : Nat) (v4 : Nat) (v5 : Nat) (v6 : Nat) (v7 : Nat) (v8 : Nat) (v9 : Nat) (p1 : Int32) (p2 : Int32) (p3 : Int32) (p4 : Int32) : Ct l g yX11_wordOfBest cX11_wordOfBest 5 (some .int) { frames := 1, cells := 0, slots := 0, locals := 21 } [.ref h0, .int p1, .int p2, .int p3, .int p4] [(h0, .inr (11, [.ref w0, .ref h1, .ref w2, .ref w3, .ref w4, .ref w5, .ref w6, .ref w7, .ref w8, .ref w9, .ref w10])), (h1, .inr (0, [.int 0, .int 0, .int 0, .int 0, .int 0, .int 0, .int 0, .int 0, .int 0, .int 0, .ref v0, .ref v1, .ref v2, .ref v3, .ref v4, .ref v5, .ref v6, .ref v7, .ref v8, .ref v9]))] (S := Unit) (fun _ => some (.int (-2))) (fun _ => True) (fun u => [(h0, .inr (11, [.ref w0, .ref h1, .ref w2, .ref w3, .ref w4, .ref w5, .ref w6, .ref w7, .ref w8, .ref w9, .ref w10])), (h1, .inr (0, [.int 0, .int 0, .int 0, .int 0, .int 0, .int 0, .int 0, .int 0, .int 0, .int 0, .ref v0, .ref v1, .ref v2, .ref v3, .ref v4, .ref v5, .ref v6, .ref v7, .ref v8, .ref v9]))]) := by
  refine Ct.of (by decide) (Nat.le_of_ble_eq_true rfl) ?_
  intro p e s m below meth c A ls FX hP hD hS hl
  obtain ⟨FC, hr, hlk, hKn, hA, hnm⟩ := id FX
  have FC : CallFix p m c cX11_wordOfBest 5 s _ BIG RX11 := FC
  obtain ⟨hx, hb, hml, hown, hB⟩ := id FC
  have hl : lv_has ls 5 [(0, .ref h0), (1, .int p1), (2, .int p2), (3, .int p3), (4, .int p4)] := hl
  refine lv_aload_n hx hb dX11_wordOfBest_0 rfl (lv_at hl 0 rfl) ?_
  refine g_get (C := RX11) (T := TX11) (N := 11) (ci := 11) (v := .ref h1) FC hKn hP i_X11 0 rfl rfl 1 (by decide) b_10 rfl dX11_wordOfBest_1 ?_
  refine lv_iload_n hx hb dX11_wordOfBest_4 rfl (lv_at hl 1 rfl) ?_
  refine call_VN (As := [.int p1]) (rest := []) (wr := [(h0, .inr (11, [.ref w0, .ref h1, .ref w2, .ref w3, .ref w4, .ref w5, .ref w6, .ref w7, .ref w8, .ref w9, .ref w10]))]) FC hKn (c_X0_hasHearer l g h1 v0 v1 v2 v3 v4 v5 v6 v7 v8 v9 p1) m_yX0_hasHearer b_12 (ci := 0) rfl rfl rfl hP hD hS hA [1] [0] rfl (by decide) rfl (by decide) (by decide) rfl hl.1 rfl (Nat.le_of_ble_eq_true rfl) dX11_wordOfBest_5 ⟨(Nat.le_of_ble_eq_true rfl), (Nat.le_of_ble_eq_true rfl)⟩ ⟨(Nat.le_of_ble_eq_true rfl), (Nat.le_of_ble_eq_true rfl)⟩ (fun u1 H locs _ hP hD hS => ?_)
  have hP : va_P g.1 vwCl [(h0, .inr (11, [.ref w0, .ref h1, .ref w2, .ref w3, .ref w4, .ref w5, .ref w6, .ref w7, .ref w8, .ref w9, .ref w10])), (h1, .inr (0, [.int 0, .int 0, .int 0, .int 0, .int 0, .int 0, .int 0, .int 0, .int 0, .int 0, .ref v0, .ref v1, .ref v2, .ref v3, .ref v4, .ref v5, .ref v6, .ref v7, .ref v8, .ref v9]))] H := hP
  have hD : va_D A [(h0, .inr (11, [.ref w0, .ref h1, .ref w2, .ref w3, .ref w4, .ref w5, .ref w6, .ref w7, .ref w8, .ref w9, .ref w10])), (h1, .inr (0, [.int 0, .int 0, .int 0, .int 0, .int 0, .int 0, .int 0, .int 0, .int 0, .int 0, .ref v0, .ref v1, .ref v2, .ref v3, .ref v4, .ref v5, .ref v6, .ref v7, .ref v8, .ref v9]))] := hD
  refine W.eq (g2 := F0 m 8 ls [.int 0]) rfl ?_
  refine lv_if_eq (tgt := 22) hx hb dX11_wordOfBest_8 (by decide) (fun _ => ?_) (fun h => absurd h (by decide))
  refine lv_bipush (v := -2) hx hb dX11_wordOfBest_22 (by decide) ?_
  exact rt_i FX () rfl trivial (hP.sub [0, 1] rfl) (hD.sub [0, 1] (by decide) rfl) hS (Nat.le_of_ble_eq_true rfl) (Nat.le_of_ble_eq_true rfl) dX11_wordOfBest_24
set_option maxRecDepth 100000 in
set_option maxHeartbeats 4000000 in
theorem c_X11_grade (l : Launch) (g : GG) (h0 : Nat) (h1 : Nat) (w0 : Nat) (w2 : Nat) (w3 : Nat) (w4 : Nat) (w5 : Nat) (w6 : Nat) (w7 : Nat) (w8 : Nat) (w9 : Nat) (w10 : Nat) (v0 : Nat) (v1 : Nat) (v2 : Nat) (v3 : Nat) (v4 : Nat) (v5 : Nat) (v6 : Nat) (v7 : Nat) (v8 : Nat) (v9 : Nat) (p1 : Int32) : Ct l g yX11_grade cX11_grade 2 (some .int) { frames := 1, cells := 0, slots := 0, locals := 21 } [.ref h0, .int p1] [(h0, .inr (11, [.ref w0, .ref h1, .ref w2, .ref w3, .ref w4, .ref w5, .ref w6, .ref w7, .ref w8, .ref w9, .ref w10])), (h1, .inr (0, [.int 0, .int 0, .int 0, .int 0, .int 0, .int 0, .int 0, .int 0, .int 0, .int 0, .ref v0, .ref v1, .ref v2, .ref v3, .ref v4, .ref v5, .ref v6, .ref v7, .ref v8, .ref v9]))] (S := Unit) (fun _ => some (.int (-2))) (fun _ => True) (fun u => [(h0, .inr (11, [.ref w0, .ref h1, .ref w2, .ref w3, .ref w4, .ref w5, .ref w6, .ref w7, .ref w8, .ref w9, .ref w10])), (h1, .inr (0, [.int 0, .int 0, .int 0, .int 0, .int 0, .int 0, .int 0, .int 0, .int 0, .int 0, .ref v0, .ref v1, .ref v2, .ref v3, .ref v4, .ref v5, .ref v6, .ref v7, .ref v8, .ref v9]))]) := by
  refine Ct.of (by decide) (Nat.le_of_ble_eq_true rfl) ?_
  intro p e s m below meth c A ls FX hP hD hS hl
  obtain ⟨FC, hr, hlk, hKn, hA, hnm⟩ := id FX
  have FC : CallFix p m c cX11_grade 2 s _ BIG RX11 := FC
  obtain ⟨hx, hb, hml, hown, hB⟩ := id FC
  have hl : lv_has ls 2 [(0, .ref h0), (1, .int p1)] := hl
  refine lv_aload_n hx hb dX11_grade_0 rfl (lv_at hl 0 rfl) ?_
  refine g_get (C := RX11) (T := TX11) (N := 11) (ci := 11) (v := .ref h1) FC hKn hP i_X11 0 rfl rfl 1 (by decide) b_10 rfl dX11_grade_1 ?_
  refine lv_iload_n hx hb dX11_grade_4 rfl (lv_at hl 1 rfl) ?_
  refine call_VN (As := [.int p1]) (rest := []) (wr := [(h0, .inr (11, [.ref w0, .ref h1, .ref w2, .ref w3, .ref w4, .ref w5, .ref w6, .ref w7, .ref w8, .ref w9, .ref w10]))]) FC hKn (c_X0_hasState l g h1 v0 v1 v2 v3 v4 v5 v6 v7 v8 v9 p1) m_yX0_hasState b_13 (ci := 0) rfl rfl rfl hP hD hS hA [1] [0] rfl (by decide) rfl (by decide) (by decide) rfl hl.1 rfl (Nat.le_of_ble_eq_true rfl) dX11_grade_5 ⟨(Nat.le_of_ble_eq_true rfl), (Nat.le_of_ble_eq_true rfl)⟩ ⟨(Nat.le_of_ble_eq_true rfl), (Nat.le_of_ble_eq_true rfl)⟩ (fun u1 H locs _ hP hD hS => ?_)
  have hP : va_P g.1 vwCl [(h0, .inr (11, [.ref w0, .ref h1, .ref w2, .ref w3, .ref w4, .ref w5, .ref w6, .ref w7, .ref w8, .ref w9, .ref w10])), (h1, .inr (0, [.int 0, .int 0, .int 0, .int 0, .int 0, .int 0, .int 0, .int 0, .int 0, .int 0, .ref v0, .ref v1, .ref v2, .ref v3, .ref v4, .ref v5, .ref v6, .ref v7, .ref v8, .ref v9]))] H := hP
  have hD : va_D A [(h0, .inr (11, [.ref w0, .ref h1, .ref w2, .ref w3, .ref w4, .ref w5, .ref w6, .ref w7, .ref w8, .ref w9, .ref w10])), (h1, .inr (0, [.int 0, .int 0, .int 0, .int 0, .int 0, .int 0, .int 0, .int 0, .int 0, .int 0, .ref v0, .ref v1, .ref v2, .ref v3, .ref v4, .ref v5, .ref v6, .ref v7, .ref v8, .ref v9]))] := hD
  refine W.eq (g2 := F0 m 8 ls [.int 0]) rfl ?_
  refine lv_if_eq (tgt := 23) hx hb dX11_grade_8 (by decide) (fun _ => ?_) (fun h => absurd h (by decide))
  refine lv_bipush (v := -2) hx hb dX11_grade_23 (by decide) ?_
  exact rt_i FX () rfl trivial (hP.sub [0, 1] rfl) (hD.sub [0, 1] (by decide) rfl) hS (Nat.le_of_ble_eq_true rfl) (Nat.le_of_ble_eq_true rfl) dX11_grade_25
set_option maxRecDepth 100000 in
set_option maxHeartbeats 4000000 in
theorem c_X11_thinks (l : Launch) (g : GG) (h0 : Nat) (h1 : Nat) (w0 : Nat) (w2 : Nat) (w3 : Nat) (w4 : Nat) (w5 : Nat) (w6 : Nat) (w7 : Nat) (w8 : Nat) (w9 : Nat) (w10 : Nat) (v0 : Nat) (v1 : Nat) (v2 : Nat) (v3 : Nat) (v4 : Nat) (v5 : Nat) (v6 : Nat) (v7 : Nat) (v8 : Nat) (v9 : Nat) (p1 : Int32) (p2 : Int32) : Ct l g yX11_thinks cX11_thinks 3 (some .int) { frames := 1, cells := 0, slots := 0, locals := 21 } [.ref h0, .int p1, .int p2] [(h0, .inr (11, [.ref w0, .ref h1, .ref w2, .ref w3, .ref w4, .ref w5, .ref w6, .ref w7, .ref w8, .ref w9, .ref w10])), (h1, .inr (0, [.int 0, .int 0, .int 0, .int 0, .int 0, .int 0, .int 0, .int 0, .int 0, .int 0, .ref v0, .ref v1, .ref v2, .ref v3, .ref v4, .ref v5, .ref v6, .ref v7, .ref v8, .ref v9]))] (S := Unit) (fun _ => some (.int (-2))) (fun _ => True) (fun u => [(h0, .inr (11, [.ref w0, .ref h1, .ref w2, .ref w3, .ref w4, .ref w5, .ref w6, .ref w7, .ref w8, .ref w9, .ref w10])), (h1, .inr (0, [.int 0, .int 0, .int 0, .int 0, .int 0, .int 0, .int 0, .int 0, .int 0, .int 0, .ref v0, .ref v1, .ref v2, .ref v3, .ref v4, .ref v5, .ref v6, .ref v7, .ref v8, .ref v9]))]) := by
  refine Ct.of (by decide) (Nat.le_of_ble_eq_true rfl) ?_
  intro p e s m below meth c A ls FX hP hD hS hl
  obtain ⟨FC, hr, hlk, hKn, hA, hnm⟩ := id FX
  have FC : CallFix p m c cX11_thinks 3 s _ BIG RX11 := FC
  obtain ⟨hx, hb, hml, hown, hB⟩ := id FC
  have hl : lv_has ls 3 [(0, .ref h0), (1, .int p1), (2, .int p2)] := hl
  refine lv_aload_n hx hb dX11_thinks_0 rfl (lv_at hl 0 rfl) ?_
  refine g_get (C := RX11) (T := TX11) (N := 11) (ci := 11) (v := .ref h1) FC hKn hP i_X11 0 rfl rfl 1 (by decide) b_10 rfl dX11_thinks_1 ?_
  refine lv_iload_n hx hb dX11_thinks_4 rfl (lv_at hl 1 rfl) ?_
  refine call_VN (As := [.int p1]) (rest := []) (wr := [(h0, .inr (11, [.ref w0, .ref h1, .ref w2, .ref w3, .ref w4, .ref w5, .ref w6, .ref w7, .ref w8, .ref w9, .ref w10]))]) FC hKn (c_X0_hasHearer l g h1 v0 v1 v2 v3 v4 v5 v6 v7 v8 v9 p1) m_yX0_hasHearer b_12 (ci := 0) rfl rfl rfl hP hD hS hA [1] [0] rfl (by decide) rfl (by decide) (by decide) rfl hl.1 rfl (Nat.le_of_ble_eq_true rfl) dX11_thinks_5 ⟨(Nat.le_of_ble_eq_true rfl), (Nat.le_of_ble_eq_true rfl)⟩ ⟨(Nat.le_of_ble_eq_true rfl), (Nat.le_of_ble_eq_true rfl)⟩ (fun u1 H locs _ hP hD hS => ?_)
  have hP : va_P g.1 vwCl [(h0, .inr (11, [.ref w0, .ref h1, .ref w2, .ref w3, .ref w4, .ref w5, .ref w6, .ref w7, .ref w8, .ref w9, .ref w10])), (h1, .inr (0, [.int 0, .int 0, .int 0, .int 0, .int 0, .int 0, .int 0, .int 0, .int 0, .int 0, .ref v0, .ref v1, .ref v2, .ref v3, .ref v4, .ref v5, .ref v6, .ref v7, .ref v8, .ref v9]))] H := hP
  have hD : va_D A [(h0, .inr (11, [.ref w0, .ref h1, .ref w2, .ref w3, .ref w4, .ref w5, .ref w6, .ref w7, .ref w8, .ref w9, .ref w10])), (h1, .inr (0, [.int 0, .int 0, .int 0, .int 0, .int 0, .int 0, .int 0, .int 0, .int 0, .int 0, .ref v0, .ref v1, .ref v2, .ref v3, .ref v4, .ref v5, .ref v6, .ref v7, .ref v8, .ref v9]))] := hD
  refine W.eq (g2 := F0 m 8 ls [.int 0]) rfl ?_
  refine lv_if_ne (tgt := 14) hx hb dX11_thinks_8 (by decide) (fun h => absurd h (by decide)) (fun _ => ?_)
  refine lv_bipush (v := -2) hx hb dX11_thinks_11 (by decide) ?_
  exact rt_i FX () rfl trivial (hP.sub [0, 1] rfl) (hD.sub [0, 1] (by decide) rfl) hS (Nat.le_of_ble_eq_true rfl) (Nat.le_of_ble_eq_true rfl) dX11_thinks_13
set_option maxRecDepth 100000 in
set_option maxHeartbeats 4000000 in
theorem c_X11_word (l : Launch) (g : GG) (h0 : Nat) (h1 : Nat) (w0 : Nat) (w2 : Nat) (w3 : Nat) (w4 : Nat) (w5 : Nat) (w6 : Nat) (w7 : Nat) (w8 : Nat) (w9 : Nat) (w10 : Nat) (v0 : Nat) (v1 : Nat) (v2 : Nat) (v3 : Nat) (v4 : Nat) (v5 : Nat) (v6 : Nat) (v7 : Nat) (v8 : Nat) (v9 : Nat) (p1 : Int32) (p2 : Int32) : Ct l g yX11_word cX11_word 3 (some .int) { frames := 1, cells := 0, slots := 0, locals := 21 } [.ref h0, .int p1, .int p2] [(h0, .inr (11, [.ref w0, .ref h1, .ref w2, .ref w3, .ref w4, .ref w5, .ref w6, .ref w7, .ref w8, .ref w9, .ref w10])), (h1, .inr (0, [.int 0, .int 0, .int 0, .int 0, .int 0, .int 0, .int 0, .int 0, .int 0, .int 0, .ref v0, .ref v1, .ref v2, .ref v3, .ref v4, .ref v5, .ref v6, .ref v7, .ref v8, .ref v9]))] (S := Unit) (fun _ => some (.int (-2))) (fun _ => True) (fun u => [(h0, .inr (11, [.ref w0, .ref h1, .ref w2, .ref w3, .ref w4, .ref w5, .ref w6, .ref w7, .ref w8, .ref w9, .ref w10])), (h1, .inr (0, [.int 0, .int 0, .int 0, .int 0, .int 0, .int 0, .int 0, .int 0, .int 0, .int 0, .ref v0, .ref v1, .ref v2, .ref v3, .ref v4, .ref v5, .ref v6, .ref v7, .ref v8, .ref v9]))]) := by
  refine Ct.of (by decide) (Nat.le_of_ble_eq_true rfl) ?_
  intro p e s m below meth c A ls FX hP hD hS hl
  obtain ⟨FC, hr, hlk, hKn, hA, hnm⟩ := id FX
  have FC : CallFix p m c cX11_word 3 s _ BIG RX11 := FC
  obtain ⟨hx, hb, hml, hown, hB⟩ := id FC
  have hl : lv_has ls 3 [(0, .ref h0), (1, .int p1), (2, .int p2)] := hl
  refine lv_aload_n hx hb dX11_word_0 rfl (lv_at hl 0 rfl) ?_
  refine g_get (C := RX11) (T := TX11) (N := 11) (ci := 11) (v := .ref h1) FC hKn hP i_X11 0 rfl rfl 1 (by decide) b_10 rfl dX11_word_1 ?_
  refine lv_iload_n hx hb dX11_word_4 rfl (lv_at hl 1 rfl) ?_
  refine call_VN (As := [.int p1]) (rest := []) (wr := [(h0, .inr (11, [.ref w0, .ref h1, .ref w2, .ref w3, .ref w4, .ref w5, .ref w6, .ref w7, .ref w8, .ref w9, .ref w10]))]) FC hKn (c_X0_hasWord l g h1 v0 v1 v2 v3 v4 v5 v6 v7 v8 v9 p1) m_yX0_hasWord b_14 (ci := 0) rfl rfl rfl hP hD hS hA [1] [0] rfl (by decide) rfl (by decide) (by decide) rfl hl.1 rfl (Nat.le_of_ble_eq_true rfl) dX11_word_5 ⟨(Nat.le_of_ble_eq_true rfl), (Nat.le_of_ble_eq_true rfl)⟩ ⟨(Nat.le_of_ble_eq_true rfl), (Nat.le_of_ble_eq_true rfl)⟩ (fun u1 H locs _ hP hD hS => ?_)
  have hP : va_P g.1 vwCl [(h0, .inr (11, [.ref w0, .ref h1, .ref w2, .ref w3, .ref w4, .ref w5, .ref w6, .ref w7, .ref w8, .ref w9, .ref w10])), (h1, .inr (0, [.int 0, .int 0, .int 0, .int 0, .int 0, .int 0, .int 0, .int 0, .int 0, .int 0, .ref v0, .ref v1, .ref v2, .ref v3, .ref v4, .ref v5, .ref v6, .ref v7, .ref v8, .ref v9]))] H := hP
  have hD : va_D A [(h0, .inr (11, [.ref w0, .ref h1, .ref w2, .ref w3, .ref w4, .ref w5, .ref w6, .ref w7, .ref w8, .ref w9, .ref w10])), (h1, .inr (0, [.int 0, .int 0, .int 0, .int 0, .int 0, .int 0, .int 0, .int 0, .int 0, .int 0, .ref v0, .ref v1, .ref v2, .ref v3, .ref v4, .ref v5, .ref v6, .ref v7, .ref v8, .ref v9]))] := hD
  refine W.eq (g2 := F0 m 8 ls [.int 0]) rfl ?_
  refine lv_if_ne (tgt := 14) hx hb dX11_word_8 (by decide) (fun h => absurd h (by decide)) (fun _ => ?_)
  refine lv_bipush (v := -2) hx hb dX11_word_11 (by decide) ?_
  exact rt_i FX () rfl trivial (hP.sub [0, 1] rfl) (hD.sub [0, 1] (by decide) rfl) hS (Nat.le_of_ble_eq_true rfl) (Nat.le_of_ble_eq_true rfl) dX11_word_13
set_option maxRecDepth 100000 in
set_option maxHeartbeats 4000000 in
theorem c_X11_plan (l : Launch) (g : GG) (h0 : Nat) (h1 : Nat) (w0 : Nat) (w2 : Nat) (w3 : Nat) (w4 : Nat) (w5 : Nat) (w6 : Nat) (w7 : Nat) (w8 : Nat) (w9 : Nat) (w10 : Nat) (v0 : Nat) (v1 : Nat) (v2 : Nat) (v3 : Nat) (v4 : Nat) (v5 : Nat) (v6 : Nat) (v7 : Nat) (v8 : Nat) (v9 : Nat) (p1 : Int32) (p2 : Int32) : Ct l g yX11_plan cX11_plan 3 (some .int) { frames := 1, cells := 0, slots := 0, locals := 21 } [.ref h0, .int p1, .int p2] [(h0, .inr (11, [.ref w0, .ref h1, .ref w2, .ref w3, .ref w4, .ref w5, .ref w6, .ref w7, .ref w8, .ref w9, .ref w10])), (h1, .inr (0, [.int 0, .int 0, .int 0, .int 0, .int 0, .int 0, .int 0, .int 0, .int 0, .int 0, .ref v0, .ref v1, .ref v2, .ref v3, .ref v4, .ref v5, .ref v6, .ref v7, .ref v8, .ref v9]))] (S := Unit) (fun _ => some (.int (-2))) (fun _ => True) (fun u => [(h0, .inr (11, [.ref w0, .ref h1, .ref w2, .ref w3, .ref w4, .ref w5, .ref w6, .ref w7, .ref w8, .ref w9, .ref w10])), (h1, .inr (0, [.int 0, .int 0, .int 0, .int 0, .int 0, .int 0, .int 0, .int 0, .int 0, .int 0, .ref v0, .ref v1, .ref v2, .ref v3, .ref v4, .ref v5, .ref v6, .ref v7, .ref v8, .ref v9]))]) := by
  refine Ct.of (by decide) (Nat.le_of_ble_eq_true rfl) ?_
  intro p e s m below meth c A ls FX hP hD hS hl
  obtain ⟨FC, hr, hlk, hKn, hA, hnm⟩ := id FX
  have FC : CallFix p m c cX11_plan 3 s _ BIG RX11 := FC
  obtain ⟨hx, hb, hml, hown, hB⟩ := id FC
  have hl : lv_has ls 3 [(0, .ref h0), (1, .int p1), (2, .int p2)] := hl
  refine lv_aload_n hx hb dX11_plan_0 rfl (lv_at hl 0 rfl) ?_
  refine g_get (C := RX11) (T := TX11) (N := 11) (ci := 11) (v := .ref h1) FC hKn hP i_X11 0 rfl rfl 1 (by decide) b_10 rfl dX11_plan_1 ?_
  refine lv_iload_n hx hb dX11_plan_4 rfl (lv_at hl 1 rfl) ?_
  refine call_VN (As := [.int p1]) (rest := []) (wr := [(h0, .inr (11, [.ref w0, .ref h1, .ref w2, .ref w3, .ref w4, .ref w5, .ref w6, .ref w7, .ref w8, .ref w9, .ref w10]))]) FC hKn (c_X0_hasPlan l g h1 v0 v1 v2 v3 v4 v5 v6 v7 v8 v9 p1) m_yX0_hasPlan b_15 (ci := 0) rfl rfl rfl hP hD hS hA [1] [0] rfl (by decide) rfl (by decide) (by decide) rfl hl.1 rfl (Nat.le_of_ble_eq_true rfl) dX11_plan_5 ⟨(Nat.le_of_ble_eq_true rfl), (Nat.le_of_ble_eq_true rfl)⟩ ⟨(Nat.le_of_ble_eq_true rfl), (Nat.le_of_ble_eq_true rfl)⟩ (fun u1 H locs _ hP hD hS => ?_)
  have hP : va_P g.1 vwCl [(h0, .inr (11, [.ref w0, .ref h1, .ref w2, .ref w3, .ref w4, .ref w5, .ref w6, .ref w7, .ref w8, .ref w9, .ref w10])), (h1, .inr (0, [.int 0, .int 0, .int 0, .int 0, .int 0, .int 0, .int 0, .int 0, .int 0, .int 0, .ref v0, .ref v1, .ref v2, .ref v3, .ref v4, .ref v5, .ref v6, .ref v7, .ref v8, .ref v9]))] H := hP
  have hD : va_D A [(h0, .inr (11, [.ref w0, .ref h1, .ref w2, .ref w3, .ref w4, .ref w5, .ref w6, .ref w7, .ref w8, .ref w9, .ref w10])), (h1, .inr (0, [.int 0, .int 0, .int 0, .int 0, .int 0, .int 0, .int 0, .int 0, .int 0, .int 0, .ref v0, .ref v1, .ref v2, .ref v3, .ref v4, .ref v5, .ref v6, .ref v7, .ref v8, .ref v9]))] := hD
  refine W.eq (g2 := F0 m 8 ls [.int 0]) rfl ?_
  refine lv_if_ne (tgt := 14) hx hb dX11_plan_8 (by decide) (fun h => absurd h (by decide)) (fun _ => ?_)
  refine lv_bipush (v := -2) hx hb dX11_plan_11 (by decide) ?_
  exact rt_i FX () rfl trivial (hP.sub [0, 1] rfl) (hD.sub [0, 1] (by decide) rfl) hS (Nat.le_of_ble_eq_true rfl) (Nat.le_of_ble_eq_true rfl) dX11_plan_13
set_option maxRecDepth 100000 in
set_option maxHeartbeats 4000000 in
theorem c_X11_news (l : Launch) (g : GG) (h0 : Nat) (h1 : Nat) (w0 : Nat) (w2 : Nat) (w3 : Nat) (w4 : Nat) (w5 : Nat) (w6 : Nat) (w7 : Nat) (w8 : Nat) (w9 : Nat) (w10 : Nat) (v0 : Nat) (v1 : Nat) (v2 : Nat) (v3 : Nat) (v4 : Nat) (v5 : Nat) (v6 : Nat) (v7 : Nat) (v8 : Nat) (v9 : Nat) (p1 : Int32) : Ct l g yX11_news cX11_news 2 (some .int) { frames := 1, cells := 0, slots := 0, locals := 21 } [.ref h0, .int p1] [(h0, .inr (11, [.ref w0, .ref h1, .ref w2, .ref w3, .ref w4, .ref w5, .ref w6, .ref w7, .ref w8, .ref w9, .ref w10])), (h1, .inr (0, [.int 0, .int 0, .int 0, .int 0, .int 0, .int 0, .int 0, .int 0, .int 0, .int 0, .ref v0, .ref v1, .ref v2, .ref v3, .ref v4, .ref v5, .ref v6, .ref v7, .ref v8, .ref v9]))] (S := Unit) (fun _ => some (.int (-1000))) (fun _ => True) (fun u => [(h0, .inr (11, [.ref w0, .ref h1, .ref w2, .ref w3, .ref w4, .ref w5, .ref w6, .ref w7, .ref w8, .ref w9, .ref w10])), (h1, .inr (0, [.int 0, .int 0, .int 0, .int 0, .int 0, .int 0, .int 0, .int 0, .int 0, .int 0, .ref v0, .ref v1, .ref v2, .ref v3, .ref v4, .ref v5, .ref v6, .ref v7, .ref v8, .ref v9]))]) := by
  refine Ct.of (by decide) (Nat.le_of_ble_eq_true rfl) ?_
  intro p e s m below meth c A ls FX hP hD hS hl
  obtain ⟨FC, hr, hlk, hKn, hA, hnm⟩ := id FX
  have FC : CallFix p m c cX11_news 2 s _ BIG RX11 := FC
  obtain ⟨hx, hb, hml, hown, hB⟩ := id FC
  have hl : lv_has ls 2 [(0, .ref h0), (1, .int p1)] := hl
  refine lv_aload_n hx hb dX11_news_0 rfl (lv_at hl 0 rfl) ?_
  refine g_get (C := RX11) (T := TX11) (N := 11) (ci := 11) (v := .ref h1) FC hKn hP i_X11 0 rfl rfl 1 (by decide) b_10 rfl dX11_news_1 ?_
  refine lv_iload_n hx hb dX11_news_4 rfl (lv_at hl 1 rfl) ?_
  refine call_VN (As := [.int p1]) (rest := []) (wr := [(h0, .inr (11, [.ref w0, .ref h1, .ref w2, .ref w3, .ref w4, .ref w5, .ref w6, .ref w7, .ref w8, .ref w9, .ref w10]))]) FC hKn (c_X0_hasNews l g h1 v0 v1 v2 v3 v4 v5 v6 v7 v8 v9 p1) m_yX0_hasNews b_16 (ci := 0) rfl rfl rfl hP hD hS hA [1] [0] rfl (by decide) rfl (by decide) (by decide) rfl hl.1 rfl (Nat.le_of_ble_eq_true rfl) dX11_news_5 ⟨(Nat.le_of_ble_eq_true rfl), (Nat.le_of_ble_eq_true rfl)⟩ ⟨(Nat.le_of_ble_eq_true rfl), (Nat.le_of_ble_eq_true rfl)⟩ (fun u1 H locs _ hP hD hS => ?_)
  have hP : va_P g.1 vwCl [(h0, .inr (11, [.ref w0, .ref h1, .ref w2, .ref w3, .ref w4, .ref w5, .ref w6, .ref w7, .ref w8, .ref w9, .ref w10])), (h1, .inr (0, [.int 0, .int 0, .int 0, .int 0, .int 0, .int 0, .int 0, .int 0, .int 0, .int 0, .ref v0, .ref v1, .ref v2, .ref v3, .ref v4, .ref v5, .ref v6, .ref v7, .ref v8, .ref v9]))] H := hP
  have hD : va_D A [(h0, .inr (11, [.ref w0, .ref h1, .ref w2, .ref w3, .ref w4, .ref w5, .ref w6, .ref w7, .ref w8, .ref w9, .ref w10])), (h1, .inr (0, [.int 0, .int 0, .int 0, .int 0, .int 0, .int 0, .int 0, .int 0, .int 0, .int 0, .ref v0, .ref v1, .ref v2, .ref v3, .ref v4, .ref v5, .ref v6, .ref v7, .ref v8, .ref v9]))] := hD
  refine W.eq (g2 := F0 m 8 ls [.int 0]) rfl ?_
  refine lv_if_eq (tgt := 23) hx hb dX11_news_8 (by decide) (fun _ => ?_) (fun h => absurd h (by decide))
  refine lv_sipush (v := -1000) hx hb dX11_news_23 (by decide) ?_
  exact rt_i FX () rfl trivial (hP.sub [0, 1] rfl) (hD.sub [0, 1] (by decide) rfl) hS (Nat.le_of_ble_eq_true rfl) (Nat.le_of_ble_eq_true rfl) dX11_news_26
set_option maxRecDepth 100000 in
set_option maxHeartbeats 4000000 in
theorem c_X11_tells (l : Launch) (g : GG) (h0 : Nat) (h1 : Nat) (w0 : Nat) (w2 : Nat) (w3 : Nat) (w4 : Nat) (w5 : Nat) (w6 : Nat) (w7 : Nat) (w8 : Nat) (w9 : Nat) (w10 : Nat) (v0 : Nat) (v1 : Nat) (v2 : Nat) (v3 : Nat) (v4 : Nat) (v5 : Nat) (v6 : Nat) (v7 : Nat) (v8 : Nat) (v9 : Nat) (p1 : Int32) : Ct l g yX11_tells cX11_tells 2 (some .int) { frames := 1, cells := 0, slots := 0, locals := 21 } [.ref h0, .int p1] [(h0, .inr (11, [.ref w0, .ref h1, .ref w2, .ref w3, .ref w4, .ref w5, .ref w6, .ref w7, .ref w8, .ref w9, .ref w10])), (h1, .inr (0, [.int 0, .int 0, .int 0, .int 0, .int 0, .int 0, .int 0, .int 0, .int 0, .int 0, .ref v0, .ref v1, .ref v2, .ref v3, .ref v4, .ref v5, .ref v6, .ref v7, .ref v8, .ref v9]))] (S := Unit) (fun _ => some (.int (-2))) (fun _ => True) (fun u => [(h0, .inr (11, [.ref w0, .ref h1, .ref w2, .ref w3, .ref w4, .ref w5, .ref w6, .ref w7, .ref w8, .ref w9, .ref w10])), (h1, .inr (0, [.int 0, .int 0, .int 0, .int 0, .int 0, .int 0, .int 0, .int 0, .int 0, .int 0, .ref v0, .ref v1, .ref v2, .ref v3, .ref v4, .ref v5, .ref v6, .ref v7, .ref v8, .ref v9]))]) := by
  refine Ct.of (by decide) (Nat.le_of_ble_eq_true rfl) ?_
  intro p e s m below meth c A ls FX hP hD hS hl
  obtain ⟨FC, hr, hlk, hKn, hA, hnm⟩ := id FX
  have FC : CallFix p m c cX11_tells 2 s _ BIG RX11 := FC
  obtain ⟨hx, hb, hml, hown, hB⟩ := id FC
  have hl : lv_has ls 2 [(0, .ref h0), (1, .int p1)] := hl
  refine lv_aload_n hx hb dX11_tells_0 rfl (lv_at hl 0 rfl) ?_
  refine g_get (C := RX11) (T := TX11) (N := 11) (ci := 11) (v := .ref h1) FC hKn hP i_X11 0 rfl rfl 1 (by decide) b_10 rfl dX11_tells_1 ?_
  refine lv_iload_n hx hb dX11_tells_4 rfl (lv_at hl 1 rfl) ?_
  refine call_VN (As := [.int p1]) (rest := []) (wr := [(h0, .inr (11, [.ref w0, .ref h1, .ref w2, .ref w3, .ref w4, .ref w5, .ref w6, .ref w7, .ref w8, .ref w9, .ref w10]))]) FC hKn (c_X0_hasHearer l g h1 v0 v1 v2 v3 v4 v5 v6 v7 v8 v9 p1) m_yX0_hasHearer b_12 (ci := 0) rfl rfl rfl hP hD hS hA [1] [0] rfl (by decide) rfl (by decide) (by decide) rfl hl.1 rfl (Nat.le_of_ble_eq_true rfl) dX11_tells_5 ⟨(Nat.le_of_ble_eq_true rfl), (Nat.le_of_ble_eq_true rfl)⟩ ⟨(Nat.le_of_ble_eq_true rfl), (Nat.le_of_ble_eq_true rfl)⟩ (fun u1 H locs _ hP hD hS => ?_)
  have hP : va_P g.1 vwCl [(h0, .inr (11, [.ref w0, .ref h1, .ref w2, .ref w3, .ref w4, .ref w5, .ref w6, .ref w7, .ref w8, .ref w9, .ref w10])), (h1, .inr (0, [.int 0, .int 0, .int 0, .int 0, .int 0, .int 0, .int 0, .int 0, .int 0, .int 0, .ref v0, .ref v1, .ref v2, .ref v3, .ref v4, .ref v5, .ref v6, .ref v7, .ref v8, .ref v9]))] H := hP
  have hD : va_D A [(h0, .inr (11, [.ref w0, .ref h1, .ref w2, .ref w3, .ref w4, .ref w5, .ref w6, .ref w7, .ref w8, .ref w9, .ref w10])), (h1, .inr (0, [.int 0, .int 0, .int 0, .int 0, .int 0, .int 0, .int 0, .int 0, .int 0, .int 0, .ref v0, .ref v1, .ref v2, .ref v3, .ref v4, .ref v5, .ref v6, .ref v7, .ref v8, .ref v9]))] := hD
  refine W.eq (g2 := F0 m 8 ls [.int 0]) rfl ?_
  refine lv_if_eq (tgt := 23) hx hb dX11_tells_8 (by decide) (fun _ => ?_) (fun h => absurd h (by decide))
  refine lv_bipush (v := -2) hx hb dX11_tells_23 (by decide) ?_
  exact rt_i FX () rfl trivial (hP.sub [0, 1] rfl) (hD.sub [0, 1] (by decide) rfl) hS (Nat.le_of_ble_eq_true rfl) (Nat.le_of_ble_eq_true rfl) dX11_tells_25
set_option maxRecDepth 100000 in
set_option maxHeartbeats 4000000 in
theorem c_X11_mean (l : Launch) (g : GG) (h0 : Nat) (h1 : Nat) (w0 : Nat) (w2 : Nat) (w3 : Nat) (w4 : Nat) (w5 : Nat) (w6 : Nat) (w7 : Nat) (w8 : Nat) (w9 : Nat) (w10 : Nat) (v0 : Nat) (v1 : Nat) (v2 : Nat) (v3 : Nat) (v4 : Nat) (v5 : Nat) (v6 : Nat) (v7 : Nat) (v8 : Nat) (v9 : Nat) (p1 : Int32) (p2 : Int32) : Ct l g yX11_mean cX11_mean 3 (some .int) { frames := 1, cells := 0, slots := 0, locals := 21 } [.ref h0, .int p1, .int p2] [(h0, .inr (11, [.ref w0, .ref h1, .ref w2, .ref w3, .ref w4, .ref w5, .ref w6, .ref w7, .ref w8, .ref w9, .ref w10])), (h1, .inr (0, [.int 0, .int 0, .int 0, .int 0, .int 0, .int 0, .int 0, .int 0, .int 0, .int 0, .ref v0, .ref v1, .ref v2, .ref v3, .ref v4, .ref v5, .ref v6, .ref v7, .ref v8, .ref v9]))] (S := Unit) (fun _ => some (.int (-2))) (fun _ => True) (fun u => [(h0, .inr (11, [.ref w0, .ref h1, .ref w2, .ref w3, .ref w4, .ref w5, .ref w6, .ref w7, .ref w8, .ref w9, .ref w10])), (h1, .inr (0, [.int 0, .int 0, .int 0, .int 0, .int 0, .int 0, .int 0, .int 0, .int 0, .int 0, .ref v0, .ref v1, .ref v2, .ref v3, .ref v4, .ref v5, .ref v6, .ref v7, .ref v8, .ref v9]))]) := by
  refine Ct.of (by decide) (Nat.le_of_ble_eq_true rfl) ?_
  intro p e s m below meth c A ls FX hP hD hS hl
  obtain ⟨FC, hr, hlk, hKn, hA, hnm⟩ := id FX
  have FC : CallFix p m c cX11_mean 3 s _ BIG RX11 := FC
  obtain ⟨hx, hb, hml, hown, hB⟩ := id FC
  have hl : lv_has ls 3 [(0, .ref h0), (1, .int p1), (2, .int p2)] := hl
  refine lv_aload_n hx hb dX11_mean_0 rfl (lv_at hl 0 rfl) ?_
  refine g_get (C := RX11) (T := TX11) (N := 11) (ci := 11) (v := .ref h1) FC hKn hP i_X11 0 rfl rfl 1 (by decide) b_10 rfl dX11_mean_1 ?_
  refine lv_iload_n hx hb dX11_mean_4 rfl (lv_at hl 1 rfl) ?_
  refine call_VN (As := [.int p1]) (rest := []) (wr := [(h0, .inr (11, [.ref w0, .ref h1, .ref w2, .ref w3, .ref w4, .ref w5, .ref w6, .ref w7, .ref w8, .ref w9, .ref w10]))]) FC hKn (c_X0_hasHearer l g h1 v0 v1 v2 v3 v4 v5 v6 v7 v8 v9 p1) m_yX0_hasHearer b_12 (ci := 0) rfl rfl rfl hP hD hS hA [1] [0] rfl (by decide) rfl (by decide) (by decide) rfl hl.1 rfl (Nat.le_of_ble_eq_true rfl) dX11_mean_5 ⟨(Nat.le_of_ble_eq_true rfl), (Nat.le_of_ble_eq_true rfl)⟩ ⟨(Nat.le_of_ble_eq_true rfl), (Nat.le_of_ble_eq_true rfl)⟩ (fun u1 H locs _ hP hD hS => ?_)
  have hP : va_P g.1 vwCl [(h0, .inr (11, [.ref w0, .ref h1, .ref w2, .ref w3, .ref w4, .ref w5, .ref w6, .ref w7, .ref w8, .ref w9, .ref w10])), (h1, .inr (0, [.int 0, .int 0, .int 0, .int 0, .int 0, .int 0, .int 0, .int 0, .int 0, .int 0, .ref v0, .ref v1, .ref v2, .ref v3, .ref v4, .ref v5, .ref v6, .ref v7, .ref v8, .ref v9]))] H := hP
  have hD : va_D A [(h0, .inr (11, [.ref w0, .ref h1, .ref w2, .ref w3, .ref w4, .ref w5, .ref w6, .ref w7, .ref w8, .ref w9, .ref w10])), (h1, .inr (0, [.int 0, .int 0, .int 0, .int 0, .int 0, .int 0, .int 0, .int 0, .int 0, .int 0, .ref v0, .ref v1, .ref v2, .ref v3, .ref v4, .ref v5, .ref v6, .ref v7, .ref v8, .ref v9]))] := hD
  refine W.eq (g2 := F0 m 8 ls [.int 0]) rfl ?_
  refine lv_if_eq (tgt := 22) hx hb dX11_mean_8 (by decide) (fun _ => ?_) (fun h => absurd h (by decide))
  refine lv_bipush (v := -2) hx hb dX11_mean_22 (by decide) ?_
  exact rt_i FX () rfl trivial (hP.sub [0, 1] rfl) (hD.sub [0, 1] (by decide) rfl) hS (Nat.le_of_ble_eq_true rfl) (Nat.le_of_ble_eq_true rfl) dX11_mean_24
set_option maxRecDepth 100000 in
set_option maxHeartbeats 4000000 in
theorem c_X11_chance (l : Launch) (g : GG) (h0 : Nat) (h1 : Nat) (w0 : Nat) (w2 : Nat) (w3 : Nat) (w4 : Nat) (w5 : Nat) (w6 : Nat) (w7 : Nat) (w8 : Nat) (w9 : Nat) (w10 : Nat) (v0 : Nat) (v1 : Nat) (v2 : Nat) (v3 : Nat) (v4 : Nat) (v5 : Nat) (v6 : Nat) (v7 : Nat) (v8 : Nat) (v9 : Nat) (p1 : Int32) (p2 : Int32) (p3 : Int32) (p4 : Int32) : Ct l g yX11_chance cX11_chance 5 (some .int) { frames := 1, cells := 0, slots := 0, locals := 21 } [.ref h0, .int p1, .int p2, .int p3, .int p4] [(h0, .inr (11, [.ref w0, .ref h1, .ref w2, .ref w3, .ref w4, .ref w5, .ref w6, .ref w7, .ref w8, .ref w9, .ref w10])), (h1, .inr (0, [.int 0, .int 0, .int 0, .int 0, .int 0, .int 0, .int 0, .int 0, .int 0, .int 0, .ref v0, .ref v1, .ref v2, .ref v3, .ref v4, .ref v5, .ref v6, .ref v7, .ref v8, .ref v9]))] (S := Unit) (fun _ => some (.int (-2))) (fun _ => True) (fun u => [(h0, .inr (11, [.ref w0, .ref h1, .ref w2, .ref w3, .ref w4, .ref w5, .ref w6, .ref w7, .ref w8, .ref w9, .ref w10])), (h1, .inr (0, [.int 0, .int 0, .int 0, .int 0, .int 0, .int 0, .int 0, .int 0, .int 0, .int 0, .ref v0, .ref v1, .ref v2, .ref v3, .ref v4, .ref v5, .ref v6, .ref v7, .ref v8, .ref v9]))]) := by
  refine Ct.of (by decide) (Nat.le_of_ble_eq_true rfl) ?_
  intro p e s m below meth c A ls FX hP hD hS hl
  obtain ⟨FC, hr, hlk, hKn, hA, hnm⟩ := id FX
  have FC : CallFix p m c cX11_chance 5 s _ BIG RX11 := FC
  obtain ⟨hx, hb, hml, hown, hB⟩ := id FC
  have hl : lv_has ls 5 [(0, .ref h0), (1, .int p1), (2, .int p2), (3, .int p3), (4, .int p4)] := hl
  refine lv_aload_n hx hb dX11_chance_0 rfl (lv_at hl 0 rfl) ?_
  refine g_get (C := RX11) (T := TX11) (N := 11) (ci := 11) (v := .ref h1) FC hKn hP i_X11 0 rfl rfl 1 (by decide) b_10 rfl dX11_chance_1 ?_
  refine lv_iload_n hx hb dX11_chance_4 rfl (lv_at hl 1 rfl) ?_
  refine call_VN (As := [.int p1]) (rest := []) (wr := [(h0, .inr (11, [.ref w0, .ref h1, .ref w2, .ref w3, .ref w4, .ref w5, .ref w6, .ref w7, .ref w8, .ref w9, .ref w10]))]) FC hKn (c_X0_hasHearer l g h1 v0 v1 v2 v3 v4 v5 v6 v7 v8 v9 p1) m_yX0_hasHearer b_12 (ci := 0) rfl rfl rfl hP hD hS hA [1] [0] rfl (by decide) rfl (by decide) (by decide) rfl hl.1 rfl (Nat.le_of_ble_eq_true rfl) dX11_chance_5 ⟨(Nat.le_of_ble_eq_true rfl), (Nat.le_of_ble_eq_true rfl)⟩ ⟨(Nat.le_of_ble_eq_true rfl), (Nat.le_of_ble_eq_true rfl)⟩ (fun u1 H locs _ hP hD hS => ?_)
  have hP : va_P g.1 vwCl [(h0, .inr (11, [.ref w0, .ref h1, .ref w2, .ref w3, .ref w4, .ref w5, .ref w6, .ref w7, .ref w8, .ref w9, .ref w10])), (h1, .inr (0, [.int 0, .int 0, .int 0, .int 0, .int 0, .int 0, .int 0, .int 0, .int 0, .int 0, .ref v0, .ref v1, .ref v2, .ref v3, .ref v4, .ref v5, .ref v6, .ref v7, .ref v8, .ref v9]))] H := hP
  have hD : va_D A [(h0, .inr (11, [.ref w0, .ref h1, .ref w2, .ref w3, .ref w4, .ref w5, .ref w6, .ref w7, .ref w8, .ref w9, .ref w10])), (h1, .inr (0, [.int 0, .int 0, .int 0, .int 0, .int 0, .int 0, .int 0, .int 0, .int 0, .int 0, .ref v0, .ref v1, .ref v2, .ref v3, .ref v4, .ref v5, .ref v6, .ref v7, .ref v8, .ref v9]))] := hD
  refine W.eq (g2 := F0 m 8 ls [.int 0]) rfl ?_
  refine lv_if_eq (tgt := 22) hx hb dX11_chance_8 (by decide) (fun _ => ?_) (fun h => absurd h (by decide))
  refine lv_bipush (v := -2) hx hb dX11_chance_22 (by decide) ?_
  exact rt_i FX () rfl trivial (hP.sub [0, 1] rfl) (hD.sub [0, 1] (by decide) rfl) hS (Nat.le_of_ble_eq_true rfl) (Nat.le_of_ble_eq_true rfl) dX11_chance_24
set_option maxRecDepth 100000 in
set_option maxHeartbeats 4000000 in
theorem c_X11_behind (l : Launch) (g : GG) (h0 : Nat) (h1 : Nat) (w0 : Nat) (w2 : Nat) (w3 : Nat) (w4 : Nat) (w5 : Nat) (w6 : Nat) (w7 : Nat) (w8 : Nat) (w9 : Nat) (w10 : Nat) (v0 : Nat) (v1 : Nat) (v2 : Nat) (v3 : Nat) (v4 : Nat) (v5 : Nat) (v6 : Nat) (v7 : Nat) (v8 : Nat) (v9 : Nat) (p1 : Int32) (p2 : Int32) : Ct l g yX11_behind cX11_behind 3 (some .int) { frames := 2, cells := 0, slots := 0, locals := 41 } [.ref h0, .int p1, .int p2] [(h0, .inr (11, [.ref w0, .ref h1, .ref w2, .ref w3, .ref w4, .ref w5, .ref w6, .ref w7, .ref w8, .ref w9, .ref w10])), (h1, .inr (0, [.int 0, .int 0, .int 0, .int 0, .int 0, .int 0, .int 0, .int 0, .int 0, .int 0, .ref v0, .ref v1, .ref v2, .ref v3, .ref v4, .ref v5, .ref v6, .ref v7, .ref v8, .ref v9]))] (S := Unit) (fun _ => some (.int (-2))) (fun _ => True) (fun u => [(h0, .inr (11, [.ref w0, .ref h1, .ref w2, .ref w3, .ref w4, .ref w5, .ref w6, .ref w7, .ref w8, .ref w9, .ref w10])), (h1, .inr (0, [.int 0, .int 0, .int 0, .int 0, .int 0, .int 0, .int 0, .int 0, .int 0, .int 0, .ref v0, .ref v1, .ref v2, .ref v3, .ref v4, .ref v5, .ref v6, .ref v7, .ref v8, .ref v9]))]) := by
  refine Ct.of (by decide) (Nat.le_of_ble_eq_true rfl) ?_
  intro p e s m below meth c A ls FX hP hD hS hl
  obtain ⟨FC, hr, hlk, hKn, hA, hnm⟩ := id FX
  have FC : CallFix p m c cX11_behind 3 s _ BIG RX11 := FC
  obtain ⟨hx, hb, hml, hown, hB⟩ := id FC
  have hl : lv_has ls 3 [(0, .ref h0), (1, .int p1), (2, .int p2)] := hl
  refine lv_aload_n hx hb dX11_behind_0 rfl (lv_at hl 0 rfl) ?_
  refine g_get (C := RX11) (T := TX11) (N := 11) (ci := 11) (v := .ref h1) FC hKn hP i_X11 0 rfl rfl 1 (by decide) b_10 rfl dX11_behind_1 ?_
  refine lv_iload_n hx hb dX11_behind_4 rfl (lv_at hl 1 rfl) ?_
  refine call_VN (As := [.int p1]) (rest := []) (wr := [(h0, .inr (11, [.ref w0, .ref h1, .ref w2, .ref w3, .ref w4, .ref w5, .ref w6, .ref w7, .ref w8, .ref w9, .ref w10]))]) FC hKn (c_X0_hasBelief l g h1 v0 v1 v2 v3 v4 v5 v6 v7 v8 v9 p1) m_yX0_hasBelief b_17 (ci := 0) rfl rfl rfl hP hD hS hA [1] [0] rfl (by decide) rfl (by decide) (by decide) rfl hl.1 rfl (Nat.le_of_ble_eq_true rfl) dX11_behind_5 ⟨(Nat.le_of_ble_eq_true rfl), (Nat.le_of_ble_eq_true rfl)⟩ ⟨(Nat.le_of_ble_eq_true rfl), (Nat.le_of_ble_eq_true rfl)⟩ (fun u1 H locs _ hP hD hS => ?_)
  have hP : va_P g.1 vwCl [(h0, .inr (11, [.ref w0, .ref h1, .ref w2, .ref w3, .ref w4, .ref w5, .ref w6, .ref w7, .ref w8, .ref w9, .ref w10])), (h1, .inr (0, [.int 0, .int 0, .int 0, .int 0, .int 0, .int 0, .int 0, .int 0, .int 0, .int 0, .ref v0, .ref v1, .ref v2, .ref v3, .ref v4, .ref v5, .ref v6, .ref v7, .ref v8, .ref v9]))] H := hP
  have hD : va_D A [(h0, .inr (11, [.ref w0, .ref h1, .ref w2, .ref w3, .ref w4, .ref w5, .ref w6, .ref w7, .ref w8, .ref w9, .ref w10])), (h1, .inr (0, [.int 0, .int 0, .int 0, .int 0, .int 0, .int 0, .int 0, .int 0, .int 0, .int 0, .ref v0, .ref v1, .ref v2, .ref v3, .ref v4, .ref v5, .ref v6, .ref v7, .ref v8, .ref v9]))] := hD
  refine W.eq (g2 := F0 m 8 ls [.int 0]) rfl ?_
  refine lv_if_eq (tgt := 22) hx hb dX11_behind_8 (by decide) (fun _ => ?_) (fun h => absurd h (by decide))
  refine lv_bipush (v := -2) hx hb dX11_behind_22 (by decide) ?_
  exact rt_i FX () rfl trivial (hP.sub [0, 1] rfl) (hD.sub [0, 1] (by decide) rfl) hS (Nat.le_of_ble_eq_true rfl) (Nat.le_of_ble_eq_true rfl) dX11_behind_24
set_option maxRecDepth 100000 in
set_option maxHeartbeats 4000000 in
theorem c_X11_hurt (l : Launch) (g : GG) (h0 : Nat) (h1 : Nat) (w0 : Nat) (w2 : Nat) (w3 : Nat) (w4 : Nat) (w5 : Nat) (w6 : Nat) (w7 : Nat) (w8 : Nat) (w9 : Nat) (w10 : Nat) (v0 : Nat) (v1 : Nat) (v2 : Nat) (v3 : Nat) (v4 : Nat) (v5 : Nat) (v6 : Nat) (v7 : Nat) (v8 : Nat) (v9 : Nat) (p1 : Int32) (p2 : Int32) (p3 : Int32) : Ct l g yX11_hurt cX11_hurt 4 (some .int) { frames := 1, cells := 0, slots := 0, locals := 21 } [.ref h0, .int p1, .int p2, .int p3] [(h0, .inr (11, [.ref w0, .ref h1, .ref w2, .ref w3, .ref w4, .ref w5, .ref w6, .ref w7, .ref w8, .ref w9, .ref w10])), (h1, .inr (0, [.int 0, .int 0, .int 0, .int 0, .int 0, .int 0, .int 0, .int 0, .int 0, .int 0, .ref v0, .ref v1, .ref v2, .ref v3, .ref v4, .ref v5, .ref v6, .ref v7, .ref v8, .ref v9]))] (S := Unit) (fun _ => some (.int (-2))) (fun _ => True) (fun u => [(h0, .inr (11, [.ref w0, .ref h1, .ref w2, .ref w3, .ref w4, .ref w5, .ref w6, .ref w7, .ref w8, .ref w9, .ref w10])), (h1, .inr (0, [.int 0, .int 0, .int 0, .int 0, .int 0, .int 0, .int 0, .int 0, .int 0, .int 0, .ref v0, .ref v1, .ref v2, .ref v3, .ref v4, .ref v5, .ref v6, .ref v7, .ref v8, .ref v9]))]) := by
  refine Ct.of (by decide) (Nat.le_of_ble_eq_true rfl) ?_
  intro p e s m below meth c A ls FX hP hD hS hl
  obtain ⟨FC, hr, hlk, hKn, hA, hnm⟩ := id FX
  have FC : CallFix p m c cX11_hurt 4 s _ BIG RX11 := FC
  obtain ⟨hx, hb, hml, hown, hB⟩ := id FC
  have hl : lv_has ls 4 [(0, .ref h0), (1, .int p1), (2, .int p2), (3, .int p3)] := hl
  refine lv_aload_n hx hb dX11_hurt_0 rfl (lv_at hl 0 rfl) ?_
  refine g_get (C := RX11) (T := TX11) (N := 11) (ci := 11) (v := .ref h1) FC hKn hP i_X11 0 rfl rfl 1 (by decide) b_10 rfl dX11_hurt_1 ?_
  refine lv_iload_n hx hb dX11_hurt_4 rfl (lv_at hl 1 rfl) ?_
  refine call_VN (As := [.int p1]) (rest := []) (wr := [(h0, .inr (11, [.ref w0, .ref h1, .ref w2, .ref w3, .ref w4, .ref w5, .ref w6, .ref w7, .ref w8, .ref w9, .ref w10]))]) FC hKn (c_X0_hasHearer l g h1 v0 v1 v2 v3 v4 v5 v6 v7 v8 v9 p1) m_yX0_hasHearer b_12 (ci := 0) rfl rfl rfl hP hD hS hA [1] [0] rfl (by decide) rfl (by decide) (by decide) rfl hl.1 rfl (Nat.le_of_ble_eq_true rfl) dX11_hurt_5 ⟨(Nat.le_of_ble_eq_true rfl), (Nat.le_of_ble_eq_true rfl)⟩ ⟨(Nat.le_of_ble_eq_true rfl), (Nat.le_of_ble_eq_true rfl)⟩ (fun u1 H locs _ hP hD hS => ?_)
  have hP : va_P g.1 vwCl [(h0, .inr (11, [.ref w0, .ref h1, .ref w2, .ref w3, .ref w4, .ref w5, .ref w6, .ref w7, .ref w8, .ref w9, .ref w10])), (h1, .inr (0, [.int 0, .int 0, .int 0, .int 0, .int 0, .int 0, .int 0, .int 0, .int 0, .int 0, .ref v0, .ref v1, .ref v2, .ref v3, .ref v4, .ref v5, .ref v6, .ref v7, .ref v8, .ref v9]))] H := hP
  have hD : va_D A [(h0, .inr (11, [.ref w0, .ref h1, .ref w2, .ref w3, .ref w4, .ref w5, .ref w6, .ref w7, .ref w8, .ref w9, .ref w10])), (h1, .inr (0, [.int 0, .int 0, .int 0, .int 0, .int 0, .int 0, .int 0, .int 0, .int 0, .int 0, .ref v0, .ref v1, .ref v2, .ref v3, .ref v4, .ref v5, .ref v6, .ref v7, .ref v8, .ref v9]))] := hD
  refine W.eq (g2 := F0 m 8 ls [.int 0]) rfl ?_
  refine lv_if_eq (tgt := 33) hx hb dX11_hurt_8 (by decide) (fun _ => ?_) (fun h => absurd h (by decide))
  refine lv_bipush (v := -2) hx hb dX11_hurt_33 (by decide) ?_
  exact rt_i FX () rfl trivial (hP.sub [0, 1] rfl) (hD.sub [0, 1] (by decide) rfl) hS (Nat.le_of_ble_eq_true rfl) (Nat.le_of_ble_eq_true rfl) dX11_hurt_35
set_option maxRecDepth 100000 in
set_option maxHeartbeats 4000000 in
theorem c_X11_softest (l : Launch) (g : GG) (h0 : Nat) (h1 : Nat) (w0 : Nat) (w2 : Nat) (w3 : Nat) (w4 : Nat) (w5 : Nat) (w6 : Nat) (w7 : Nat) (w8 : Nat) (w9 : Nat) (w10 : Nat) (v0 : Nat) (v1 : Nat) (v2 : Nat) (v3 : Nat) (v4 : Nat) (v5 : Nat) (v6 : Nat) (v7 : Nat) (v8 : Nat) (v9 : Nat) (p1 : Int32) (p2 : Int32) : Ct l g yX11_softest cX11_softest 7 (some .int) { frames := 1, cells := 0, slots := 0, locals := 21 } [.ref h0, .int p1, .int p2] [(h0, .inr (11, [.ref w0, .ref h1, .ref w2, .ref w3, .ref w4, .ref w5, .ref w6, .ref w7, .ref w8, .ref w9, .ref w10])), (h1, .inr (0, [.int 0, .int 0, .int 0, .int 0, .int 0, .int 0, .int 0, .int 0, .int 0, .int 0, .ref v0, .ref v1, .ref v2, .ref v3, .ref v4, .ref v5, .ref v6, .ref v7, .ref v8, .ref v9]))] (S := Unit) (fun _ => some (.int (-2))) (fun _ => True) (fun u => [(h0, .inr (11, [.ref w0, .ref h1, .ref w2, .ref w3, .ref w4, .ref w5, .ref w6, .ref w7, .ref w8, .ref w9, .ref w10])), (h1, .inr (0, [.int 0, .int 0, .int 0, .int 0, .int 0, .int 0, .int 0, .int 0, .int 0, .int 0, .ref v0, .ref v1, .ref v2, .ref v3, .ref v4, .ref v5, .ref v6, .ref v7, .ref v8, .ref v9]))]) := by
  refine Ct.of (by decide) (Nat.le_of_ble_eq_true rfl) ?_
  intro p e s m below meth c A ls FX hP hD hS hl
  obtain ⟨FC, hr, hlk, hKn, hA, hnm⟩ := id FX
  have FC : CallFix p m c cX11_softest 7 s _ BIG RX11 := FC
  obtain ⟨hx, hb, hml, hown, hB⟩ := id FC
  have hl : lv_has ls 7 [(0, .ref h0), (1, .int p1), (2, .int p2)] := hl
  refine lv_aload_n hx hb dX11_softest_0 rfl (lv_at hl 0 rfl) ?_
  refine g_get (C := RX11) (T := TX11) (N := 11) (ci := 11) (v := .ref h1) FC hKn hP i_X11 0 rfl rfl 1 (by decide) b_10 rfl dX11_softest_1 ?_
  refine lv_iload_n hx hb dX11_softest_4 rfl (lv_at hl 1 rfl) ?_
  refine call_VN (As := [.int p1]) (rest := []) (wr := [(h0, .inr (11, [.ref w0, .ref h1, .ref w2, .ref w3, .ref w4, .ref w5, .ref w6, .ref w7, .ref w8, .ref w9, .ref w10]))]) FC hKn (c_X0_hasHearer l g h1 v0 v1 v2 v3 v4 v5 v6 v7 v8 v9 p1) m_yX0_hasHearer b_12 (ci := 0) rfl rfl rfl hP hD hS hA [1] [0] rfl (by decide) rfl (by decide) (by decide) rfl hl.1 rfl (Nat.le_of_ble_eq_true rfl) dX11_softest_5 ⟨(Nat.le_of_ble_eq_true rfl), (Nat.le_of_ble_eq_true rfl)⟩ ⟨(Nat.le_of_ble_eq_true rfl), (Nat.le_of_ble_eq_true rfl)⟩ (fun u1 H locs _ hP hD hS => ?_)
  have hP : va_P g.1 vwCl [(h0, .inr (11, [.ref w0, .ref h1, .ref w2, .ref w3, .ref w4, .ref w5, .ref w6, .ref w7, .ref w8, .ref w9, .ref w10])), (h1, .inr (0, [.int 0, .int 0, .int 0, .int 0, .int 0, .int 0, .int 0, .int 0, .int 0, .int 0, .ref v0, .ref v1, .ref v2, .ref v3, .ref v4, .ref v5, .ref v6, .ref v7, .ref v8, .ref v9]))] H := hP
  have hD : va_D A [(h0, .inr (11, [.ref w0, .ref h1, .ref w2, .ref w3, .ref w4, .ref w5, .ref w6, .ref w7, .ref w8, .ref w9, .ref w10])), (h1, .inr (0, [.int 0, .int 0, .int 0, .int 0, .int 0, .int 0, .int 0, .int 0, .int 0, .int 0, .ref v0, .ref v1, .ref v2, .ref v3, .ref v4, .ref v5, .ref v6, .ref v7, .ref v8, .ref v9]))] := hD
  refine W.eq (g2 := F0 m 8 ls [.int 0]) rfl ?_
  refine lv_if_eq (tgt := 22) hx hb dX11_softest_8 (by decide) (fun _ => ?_) (fun h => absurd h (by decide))
  refine lv_bipush (v := -2) hx hb dX11_softest_22 (by decide) ?_
  exact rt_i FX () rfl trivial (hP.sub [0, 1] rfl) (hD.sub [0, 1] (by decide) rfl) hS (Nat.le_of_ble_eq_true rfl) (Nat.le_of_ble_eq_true rfl) dX11_softest_24
set_option maxRecDepth 100000 in
set_option maxHeartbeats 4000000 in
theorem c_X11_believes (l : Launch) (g : GG) (h0 : Nat) (h1 : Nat) (w0 : Nat) (w2 : Nat) (w3 : Nat) (w4 : Nat) (w5 : Nat) (w6 : Nat) (w7 : Nat) (w8 : Nat) (w9 : Nat) (w10 : Nat) (v0 : Nat) (v1 : Nat) (v2 : Nat) (v3 : Nat) (v4 : Nat) (v5 : Nat) (v6 : Nat) (v7 : Nat) (v8 : Nat) (v9 : Nat) (p1 : Int32) : Ct l g yX11_believes cX11_believes 3 (some .int) { frames := 2, cells := 0, slots := 0, locals := 42 } [.ref h0, .int p1] [(h0, .inr (11, [.ref w0, .ref h1, .ref w2, .ref w3, .ref w4, .ref w5, .ref w6, .ref w7, .ref w8, .ref w9, .ref w10])), (h1, .inr (0, [.int 0, .int 0, .int 0, .int 0, .int 0, .int 0, .int 0, .int 0, .int 0, .int 0, .ref v0, .ref v1, .ref v2, .ref v3, .ref v4, .ref v5, .ref v6, .ref v7, .ref v8, .ref v9]))] (S := Unit) (fun _ => some (.int (-2))) (fun _ => True) (fun u => [(h0, .inr (11, [.ref w0, .ref h1, .ref w2, .ref w3, .ref w4, .ref w5, .ref w6, .ref w7, .ref w8, .ref w9, .ref w10])), (h1, .inr (0, [.int 0, .int 0, .int 0, .int 0, .int 0, .int 0, .int 0, .int 0, .int 0, .int 0, .ref v0, .ref v1, .ref v2, .ref v3, .ref v4, .ref v5, .ref v6, .ref v7, .ref v8, .ref v9]))]) := by
  refine Ct.of (by decide) (Nat.le_of_ble_eq_true rfl) ?_
  intro p e s m below meth c A ls FX hP hD hS hl
  obtain ⟨FC, hr, hlk, hKn, hA, hnm⟩ := id FX
  have FC : CallFix p m c cX11_believes 3 s _ BIG RX11 := FC
  obtain ⟨hx, hb, hml, hown, hB⟩ := id FC
  have hl : lv_has ls 3 [(0, .ref h0), (1, .int p1)] := hl
  refine lv_aload_n hx hb dX11_believes_0 rfl (lv_at hl 0 rfl) ?_
  refine lv_iload_n hx hb dX11_believes_1 rfl (lv_at hl 1 rfl) ?_
  refine call_V (As := [.int p1]) (rest := []) (wr := []) FC hKn (c_X11_takeWeek l g h0 h1 w0 w2 w3 w4 w5 w6 w7 w8 w9 w10 v0 v1 v2 v3 v4 v5 v6 v7 v8 v9 p1) m_yX11_takeWeek b_18 (ci := 11) rfl rfl rfl hP hD hS hA [0, 1] [] rfl (by decide) rfl (by decide) (by decide) rfl hl.1 rfl (Nat.le_of_ble_eq_true rfl) dX11_believes_2 ⟨(Nat.le_of_ble_eq_true rfl), (Nat.le_of_ble_eq_true rfl)⟩ ⟨(Nat.le_of_ble_eq_true rfl), (Nat.le_of_ble_eq_true rfl)⟩ (fun u1 H locs _ hP hD hS => ?_)
  have hP : va_P g.1 vwCl [(h0, .inr (11, [.ref w0, .ref h1, .ref w2, .ref w3, .ref w4, .ref w5, .ref w6, .ref w7, .ref w8, .ref w9, .ref w10])), (h1, .inr (0, [.int 0, .int 0, .int 0, .int 0, .int 0, .int 0, .int 0, .int 0, .int 0, .int 0, .ref v0, .ref v1, .ref v2, .ref v3, .ref v4, .ref v5, .ref v6, .ref v7, .ref v8, .ref v9]))] H := hP
  have hD : va_D A [(h0, .inr (11, [.ref w0, .ref h1, .ref w2, .ref w3, .ref w4, .ref w5, .ref w6, .ref w7, .ref w8, .ref w9, .ref w10])), (h1, .inr (0, [.int 0, .int 0, .int 0, .int 0, .int 0, .int 0, .int 0, .int 0, .int 0, .int 0, .ref v0, .ref v1, .ref v2, .ref v3, .ref v4, .ref v5, .ref v6, .ref v7, .ref v8, .ref v9]))] := hD
  refine W.eq (g2 := F0 m 5 ls [.int (-2)]) rfl ?_
  refine lv_istore_n (lv' := [(2, .int (-2)), (0, .ref h0), (1, .int p1)]) hx hb dX11_believes_5 rfl hl (by decide) rfl (fun ls hl => ?_)
  refine lv_iload_n hx hb dX11_believes_6 rfl (lv_at hl 0 rfl) ?_
  refine lv_if_ge (tgt := 14) hx hb dX11_believes_7 (by decide) (fun h => absurd h (by decide)) (fun _ => ?_)
  refine lv_iload_n hx hb dX11_believes_10 rfl (lv_at hl 0 rfl) ?_
  refine lv_goto (tgt := 25) hx hb dX11_believes_11 (by decide) ?_
  exact rt_i FX () rfl trivial (hP.sub [0, 1] rfl) (hD.sub [0, 1] (by decide) rfl) hS (Nat.le_of_ble_eq_true rfl) (Nat.le_of_ble_eq_true rfl) dX11_believes_25
set_option maxRecDepth 100000 in
set_option maxHeartbeats 4000000 in
theorem c_X11_hurts (l : Launch) (g : GG) (h0 : Nat) (h1 : Nat) (w0 : Nat) (w2 : Nat) (w3 : Nat) (w4 : Nat) (w5 : Nat) (w6 : Nat) (w7 : Nat) (w8 : Nat) (w9 : Nat) (w10 : Nat) (v0 : Nat) (v1 : Nat) (v2 : Nat) (v3 : Nat) (v4 : Nat) (v5 : Nat) (v6 : Nat) (v7 : Nat) (v8 : Nat) (v9 : Nat) (p1 : Int32) (p2 : Int32) : Ct l g yX11_hurts cX11_hurts 4 (some .int) { frames := 2, cells := 0, slots := 0, locals := 44 } [.ref h0, .int p1, .int p2] [(h0, .inr (11, [.ref w0, .ref h1, .ref w2, .ref w3, .ref w4, .ref w5, .ref w6, .ref w7, .ref w8, .ref w9, .ref w10])), (h1, .inr (0, [.int 0, .int 0, .int 0, .int 0, .int 0, .int 0, .int 0, .int 0, .int 0, .int 0, .ref v0, .ref v1, .ref v2, .ref v3, .ref v4, .ref v5, .ref v6, .ref v7, .ref v8, .ref v9]))] (S := Unit) (fun _ => some (.int (-2))) (fun _ => True) (fun u => [(h0, .inr (11, [.ref w0, .ref h1, .ref w2, .ref w3, .ref w4, .ref w5, .ref w6, .ref w7, .ref w8, .ref w9, .ref w10])), (h1, .inr (0, [.int 0, .int 0, .int 0, .int 0, .int 0, .int 0, .int 0, .int 0, .int 0, .int 0, .ref v0, .ref v1, .ref v2, .ref v3, .ref v4, .ref v5, .ref v6, .ref v7, .ref v8, .ref v9]))]) := by
  refine Ct.of (by decide) (Nat.le_of_ble_eq_true rfl) ?_
  intro p e s m below meth c A ls FX hP hD hS hl
  obtain ⟨FC, hr, hlk, hKn, hA, hnm⟩ := id FX
  have FC : CallFix p m c cX11_hurts 4 s _ BIG RX11 := FC
  obtain ⟨hx, hb, hml, hown, hB⟩ := id FC
  have hl : lv_has ls 4 [(0, .ref h0), (1, .int p1), (2, .int p2)] := hl
  refine lv_aload_n hx hb dX11_hurts_0 rfl (lv_at hl 0 rfl) ?_
  refine lv_iload_n hx hb dX11_hurts_1 rfl (lv_at hl 1 rfl) ?_
  refine lv_iload_n hx hb dX11_hurts_2 rfl (lv_at hl 2 rfl) ?_
  refine call_V (As := [.int p1, .int p2]) (rest := []) (wr := []) FC hKn (c_X11_feelWeek l g h0 h1 w0 w2 w3 w4 w5 w6 w7 w8 w9 w10 v0 v1 v2 v3 v4 v5 v6 v7 v8 v9 p1 p2) m_yX11_feelWeek b_19 (ci := 11) rfl rfl rfl hP hD hS hA [0, 1] [] rfl (by decide) rfl (by decide) (by decide) rfl hl.1 rfl (Nat.le_of_ble_eq_true rfl) dX11_hurts_3 ⟨(Nat.le_of_ble_eq_true rfl), (Nat.le_of_ble_eq_true rfl)⟩ ⟨(Nat.le_of_ble_eq_true rfl), (Nat.le_of_ble_eq_true rfl)⟩ (fun u1 H locs _ hP hD hS => ?_)
  have hP : va_P g.1 vwCl [(h0, .inr (11, [.ref w0, .ref h1, .ref w2, .ref w3, .ref w4, .ref w5, .ref w6, .ref w7, .ref w8, .ref w9, .ref w10])), (h1, .inr (0, [.int 0, .int 0, .int 0, .int 0, .int 0, .int 0, .int 0, .int 0, .int 0, .int 0, .ref v0, .ref v1, .ref v2, .ref v3, .ref v4, .ref v5, .ref v6, .ref v7, .ref v8, .ref v9]))] H := hP
  have hD : va_D A [(h0, .inr (11, [.ref w0, .ref h1, .ref w2, .ref w3, .ref w4, .ref w5, .ref w6, .ref w7, .ref w8, .ref w9, .ref w10])), (h1, .inr (0, [.int 0, .int 0, .int 0, .int 0, .int 0, .int 0, .int 0, .int 0, .int 0, .int 0, .ref v0, .ref v1, .ref v2, .ref v3, .ref v4, .ref v5, .ref v6, .ref v7, .ref v8, .ref v9]))] := hD
  refine W.eq (g2 := F0 m 6 ls [.int (-2)]) rfl ?_
  refine lv_istore_n (lv' := [(3, .int (-2)), (0, .ref h0), (1, .int p1), (2, .int p2)]) hx hb dX11_hurts_6 rfl hl (by decide) rfl (fun ls hl => ?_)
  refine lv_iload_n hx hb dX11_hurts_7 rfl (lv_at hl 0 rfl) ?_
  refine lv_if_ge (tgt := 15) hx hb dX11_hurts_8 (by decide) (fun h => absurd h (by decide)) (fun _ => ?_)
  refine lv_iload_n hx hb dX11_hurts_11 rfl (lv_at hl 0 rfl) ?_
  refine lv_goto (tgt := 22) hx hb dX11_hurts_12 (by decide) ?_
  exact rt_i FX () rfl trivial (hP.sub [0, 1] rfl) (hD.sub [0, 1] (by decide) rfl) hS (Nat.le_of_ble_eq_true rfl) (Nat.le_of_ble_eq_true rfl) dX11_hurts_22
set_option maxRecDepth 100000 in
set_option maxHeartbeats 4000000 in
theorem c_X11_worst (l : Launch) (g : GG) (h0 : Nat) (h1 : Nat) (w0 : Nat) (w2 : Nat) (w3 : Nat) (w4 : Nat) (w5 : Nat) (w6 : Nat) (w7 : Nat) (w8 : Nat) (w9 : Nat) (w10 : Nat) (v0 : Nat) (v1 : Nat) (v2 : Nat) (v3 : Nat) (v4 : Nat) (v5 : Nat) (v6 : Nat) (v7 : Nat) (v8 : Nat) (v9 : Nat) (p1 : Int32) (p2 : Int32) : Ct l g yX11_worst cX11_worst 4 (some .int) { frames := 2, cells := 0, slots := 0, locals := 44 } [.ref h0, .int p1, .int p2] [(h0, .inr (11, [.ref w0, .ref h1, .ref w2, .ref w3, .ref w4, .ref w5, .ref w6, .ref w7, .ref w8, .ref w9, .ref w10])), (h1, .inr (0, [.int 0, .int 0, .int 0, .int 0, .int 0, .int 0, .int 0, .int 0, .int 0, .int 0, .ref v0, .ref v1, .ref v2, .ref v3, .ref v4, .ref v5, .ref v6, .ref v7, .ref v8, .ref v9]))] (S := Unit) (fun _ => some (.int (-2))) (fun _ => True) (fun u => [(h0, .inr (11, [.ref w0, .ref h1, .ref w2, .ref w3, .ref w4, .ref w5, .ref w6, .ref w7, .ref w8, .ref w9, .ref w10])), (h1, .inr (0, [.int 0, .int 0, .int 0, .int 0, .int 0, .int 0, .int 0, .int 0, .int 0, .int 0, .ref v0, .ref v1, .ref v2, .ref v3, .ref v4, .ref v5, .ref v6, .ref v7, .ref v8, .ref v9]))]) := by
  refine Ct.of (by decide) (Nat.le_of_ble_eq_true rfl) ?_
  intro p e s m below meth c A ls FX hP hD hS hl
  obtain ⟨FC, hr, hlk, hKn, hA, hnm⟩ := id FX
  have FC : CallFix p m c cX11_worst 4 s _ BIG RX11 := FC
  obtain ⟨hx, hb, hml, hown, hB⟩ := id FC
  have hl : lv_has ls 4 [(0, .ref h0), (1, .int p1), (2, .int p2)] := hl
  refine lv_aload_n hx hb dX11_worst_0 rfl (lv_at hl 0 rfl) ?_
  refine lv_iload_n hx hb dX11_worst_1 rfl (lv_at hl 1 rfl) ?_
  refine lv_iload_n hx hb dX11_worst_2 rfl (lv_at hl 2 rfl) ?_
  refine call_V (As := [.int p1, .int p2]) (rest := []) (wr := []) FC hKn (c_X11_feelWeek l g h0 h1 w0 w2 w3 w4 w5 w6 w7 w8 w9 w10 v0 v1 v2 v3 v4 v5 v6 v7 v8 v9 p1 p2) m_yX11_feelWeek b_19 (ci := 11) rfl rfl rfl hP hD hS hA [0, 1] [] rfl (by decide) rfl (by decide) (by decide) rfl hl.1 rfl (Nat.le_of_ble_eq_true rfl) dX11_worst_3 ⟨(Nat.le_of_ble_eq_true rfl), (Nat.le_of_ble_eq_true rfl)⟩ ⟨(Nat.le_of_ble_eq_true rfl), (Nat.le_of_ble_eq_true rfl)⟩ (fun u1 H locs _ hP hD hS => ?_)
  have hP : va_P g.1 vwCl [(h0, .inr (11, [.ref w0, .ref h1, .ref w2, .ref w3, .ref w4, .ref w5, .ref w6, .ref w7, .ref w8, .ref w9, .ref w10])), (h1, .inr (0, [.int 0, .int 0, .int 0, .int 0, .int 0, .int 0, .int 0, .int 0, .int 0, .int 0, .ref v0, .ref v1, .ref v2, .ref v3, .ref v4, .ref v5, .ref v6, .ref v7, .ref v8, .ref v9]))] H := hP
  have hD : va_D A [(h0, .inr (11, [.ref w0, .ref h1, .ref w2, .ref w3, .ref w4, .ref w5, .ref w6, .ref w7, .ref w8, .ref w9, .ref w10])), (h1, .inr (0, [.int 0, .int 0, .int 0, .int 0, .int 0, .int 0, .int 0, .int 0, .int 0, .int 0, .ref v0, .ref v1, .ref v2, .ref v3, .ref v4, .ref v5, .ref v6, .ref v7, .ref v8, .ref v9]))] := hD
  refine W.eq (g2 := F0 m 6 ls [.int (-2)]) rfl ?_
  refine lv_istore_n (lv' := [(3, .int (-2)), (0, .ref h0), (1, .int p1), (2, .int p2)]) hx hb dX11_worst_6 rfl hl (by decide) rfl (fun ls hl => ?_)
  refine lv_iload_n hx hb dX11_worst_7 rfl (lv_at hl 0 rfl) ?_
  refine lv_if_ge (tgt := 15) hx hb dX11_worst_8 (by decide) (fun h => absurd h (by decide)) (fun _ => ?_)
  refine lv_iload_n hx hb dX11_worst_11 rfl (lv_at hl 0 rfl) ?_
  refine lv_goto (tgt := 22) hx hb dX11_worst_12 (by decide) ?_
  exact rt_i FX () rfl trivial (hP.sub [0, 1] rfl) (hD.sub [0, 1] (by decide) rfl) hS (Nat.le_of_ble_eq_true rfl) (Nat.le_of_ble_eq_true rfl) dX11_worst_22
set_option maxRecDepth 100000 in
set_option maxHeartbeats 4000000 in
theorem c_X11_left (l : Launch) (g : GG) (h0 : Nat) (h1 : Nat) (w0 : Nat) (w2 : Nat) (w3 : Nat) (w4 : Nat) (w5 : Nat) (w6 : Nat) (w7 : Nat) (w8 : Nat) (w9 : Nat) (w10 : Nat) (v0 : Nat) (v1 : Nat) (v2 : Nat) (v3 : Nat) (v4 : Nat) (v5 : Nat) (v6 : Nat) (v7 : Nat) (v8 : Nat) (v9 : Nat) (p1 : Int32) (p2 : Int32) : Ct l g yX11_left cX11_left 4 (some .int) { frames := 2, cells := 0, slots := 0, locals := 44 } [.ref h0, .int p1, .int p2] [(h0, .inr (11, [.ref w0, .ref h1, .ref w2, .ref w3, .ref w4, .ref w5, .ref w6, .ref w7, .ref w8, .ref w9, .ref w10])), (h1, .inr (0, [.int 0, .int 0, .int 0, .int 0, .int 0, .int 0, .int 0, .int 0, .int 0, .int 0, .ref v0, .ref v1, .ref v2, .ref v3, .ref v4, .ref v5, .ref v6, .ref v7, .ref v8, .ref v9]))] (S := Unit) (fun _ => some (.int (-2))) (fun _ => True) (fun u => [(h0, .inr (11, [.ref w0, .ref h1, .ref w2, .ref w3, .ref w4, .ref w5, .ref w6, .ref w7, .ref w8, .ref w9, .ref w10])), (h1, .inr (0, [.int 0, .int 0, .int 0, .int 0, .int 0, .int 0, .int 0, .int 0, .int 0, .int 0, .ref v0, .ref v1, .ref v2, .ref v3, .ref v4, .ref v5, .ref v6, .ref v7, .ref v8, .ref v9]))]) := by
  refine Ct.of (by decide) (Nat.le_of_ble_eq_true rfl) ?_
  intro p e s m below meth c A ls FX hP hD hS hl
  obtain ⟨FC, hr, hlk, hKn, hA, hnm⟩ := id FX
  have FC : CallFix p m c cX11_left 4 s _ BIG RX11 := FC
  obtain ⟨hx, hb, hml, hown, hB⟩ := id FC
  have hl : lv_has ls 4 [(0, .ref h0), (1, .int p1), (2, .int p2)] := hl
  refine lv_aload_n hx hb dX11_left_0 rfl (lv_at hl 0 rfl) ?_
  refine lv_iload_n hx hb dX11_left_1 rfl (lv_at hl 1 rfl) ?_
  refine lv_iload_n hx hb dX11_left_2 rfl (lv_at hl 2 rfl) ?_
  refine call_V (As := [.int p1, .int p2]) (rest := []) (wr := []) FC hKn (c_X11_feelWeek l g h0 h1 w0 w2 w3 w4 w5 w6 w7 w8 w9 w10 v0 v1 v2 v3 v4 v5 v6 v7 v8 v9 p1 p2) m_yX11_feelWeek b_19 (ci := 11) rfl rfl rfl hP hD hS hA [0, 1] [] rfl (by decide) rfl (by decide) (by decide) rfl hl.1 rfl (Nat.le_of_ble_eq_true rfl) dX11_left_3 ⟨(Nat.le_of_ble_eq_true rfl), (Nat.le_of_ble_eq_true rfl)⟩ ⟨(Nat.le_of_ble_eq_true rfl), (Nat.le_of_ble_eq_true rfl)⟩ (fun u1 H locs _ hP hD hS => ?_)
  have hP : va_P g.1 vwCl [(h0, .inr (11, [.ref w0, .ref h1, .ref w2, .ref w3, .ref w4, .ref w5, .ref w6, .ref w7, .ref w8, .ref w9, .ref w10])), (h1, .inr (0, [.int 0, .int 0, .int 0, .int 0, .int 0, .int 0, .int 0, .int 0, .int 0, .int 0, .ref v0, .ref v1, .ref v2, .ref v3, .ref v4, .ref v5, .ref v6, .ref v7, .ref v8, .ref v9]))] H := hP
  have hD : va_D A [(h0, .inr (11, [.ref w0, .ref h1, .ref w2, .ref w3, .ref w4, .ref w5, .ref w6, .ref w7, .ref w8, .ref w9, .ref w10])), (h1, .inr (0, [.int 0, .int 0, .int 0, .int 0, .int 0, .int 0, .int 0, .int 0, .int 0, .int 0, .ref v0, .ref v1, .ref v2, .ref v3, .ref v4, .ref v5, .ref v6, .ref v7, .ref v8, .ref v9]))] := hD
  refine W.eq (g2 := F0 m 6 ls [.int (-2)]) rfl ?_
  refine lv_istore_n (lv' := [(3, .int (-2)), (0, .ref h0), (1, .int p1), (2, .int p2)]) hx hb dX11_left_6 rfl hl (by decide) rfl (fun ls hl => ?_)
  refine lv_iload_n hx hb dX11_left_7 rfl (lv_at hl 0 rfl) ?_
  refine lv_if_ge (tgt := 15) hx hb dX11_left_8 (by decide) (fun h => absurd h (by decide)) (fun _ => ?_)
  refine lv_iload_n hx hb dX11_left_11 rfl (lv_at hl 0 rfl) ?_
  refine lv_goto (tgt := 26) hx hb dX11_left_12 (by decide) ?_
  exact rt_i FX () rfl trivial (hP.sub [0, 1] rfl) (hD.sub [0, 1] (by decide) rfl) hS (Nat.le_of_ble_eq_true rfl) (Nat.le_of_ble_eq_true rfl) dX11_left_26
set_option maxRecDepth 100000 in
set_option maxHeartbeats 4000000 in
theorem c_X11_lies (l : Launch) (g : GG) (h0 : Nat) (h1 : Nat) (w0 : Nat) (w2 : Nat) (w3 : Nat) (w4 : Nat) (w5 : Nat) (w6 : Nat) (w7 : Nat) (w8 : Nat) (w9 : Nat) (w10 : Nat) (v0 : Nat) (v1 : Nat) (v2 : Nat) (v3 : Nat) (v4 : Nat) (v5 : Nat) (v6 : Nat) (v7 : Nat) (v8 : Nat) (v9 : Nat) (p1 : Int32) : Ct l g yX11_lies cX11_lies 3 (some .int) { frames := 2, cells := 0, slots := 0, locals := 42 } [.ref h0, .int p1] [(h0, .inr (11, [.ref w0, .ref h1, .ref w2, .ref w3, .ref w4, .ref w5, .ref w6, .ref w7, .ref w8, .ref w9, .ref w10])), (h1, .inr (0, [.int 0, .int 0, .int 0, .int 0, .int 0, .int 0, .int 0, .int 0, .int 0, .int 0, .ref v0, .ref v1, .ref v2, .ref v3, .ref v4, .ref v5, .ref v6, .ref v7, .ref v8, .ref v9]))] (S := Unit) (fun _ => some (.int (-2))) (fun _ => True) (fun u => [(h0, .inr (11, [.ref w0, .ref h1, .ref w2, .ref w3, .ref w4, .ref w5, .ref w6, .ref w7, .ref w8, .ref w9, .ref w10])), (h1, .inr (0, [.int 0, .int 0, .int 0, .int 0, .int 0, .int 0, .int 0, .int 0, .int 0, .int 0, .ref v0, .ref v1, .ref v2, .ref v3, .ref v4, .ref v5, .ref v6, .ref v7, .ref v8, .ref v9]))]) := by
  refine Ct.of (by decide) (Nat.le_of_ble_eq_true rfl) ?_
  intro p e s m below meth c A ls FX hP hD hS hl
  obtain ⟨FC, hr, hlk, hKn, hA, hnm⟩ := id FX
  have FC : CallFix p m c cX11_lies 3 s _ BIG RX11 := FC
  obtain ⟨hx, hb, hml, hown, hB⟩ := id FC
  have hl : lv_has ls 3 [(0, .ref h0), (1, .int p1)] := hl
  refine lv_aload_n hx hb dX11_lies_0 rfl (lv_at hl 0 rfl) ?_
  refine lv_iload_n hx hb dX11_lies_1 rfl (lv_at hl 1 rfl) ?_
  refine call_V (As := [.int p1]) (rest := []) (wr := []) FC hKn (c_X11_takeWeek l g h0 h1 w0 w2 w3 w4 w5 w6 w7 w8 w9 w10 v0 v1 v2 v3 v4 v5 v6 v7 v8 v9 p1) m_yX11_takeWeek b_18 (ci := 11) rfl rfl rfl hP hD hS hA [0, 1] [] rfl (by decide) rfl (by decide) (by decide) rfl hl.1 rfl (Nat.le_of_ble_eq_true rfl) dX11_lies_2 ⟨(Nat.le_of_ble_eq_true rfl), (Nat.le_of_ble_eq_true rfl)⟩ ⟨(Nat.le_of_ble_eq_true rfl), (Nat.le_of_ble_eq_true rfl)⟩ (fun u1 H locs _ hP hD hS => ?_)
  have hP : va_P g.1 vwCl [(h0, .inr (11, [.ref w0, .ref h1, .ref w2, .ref w3, .ref w4, .ref w5, .ref w6, .ref w7, .ref w8, .ref w9, .ref w10])), (h1, .inr (0, [.int 0, .int 0, .int 0, .int 0, .int 0, .int 0, .int 0, .int 0, .int 0, .int 0, .ref v0, .ref v1, .ref v2, .ref v3, .ref v4, .ref v5, .ref v6, .ref v7, .ref v8, .ref v9]))] H := hP
  have hD : va_D A [(h0, .inr (11, [.ref w0, .ref h1, .ref w2, .ref w3, .ref w4, .ref w5, .ref w6, .ref w7, .ref w8, .ref w9, .ref w10])), (h1, .inr (0, [.int 0, .int 0, .int 0, .int 0, .int 0, .int 0, .int 0, .int 0, .int 0, .int 0, .ref v0, .ref v1, .ref v2, .ref v3, .ref v4, .ref v5, .ref v6, .ref v7, .ref v8, .ref v9]))] := hD
  refine W.eq (g2 := F0 m 5 ls [.int (-2)]) rfl ?_
  refine lv_istore_n (lv' := [(2, .int (-2)), (0, .ref h0), (1, .int p1)]) hx hb dX11_lies_5 rfl hl (by decide) rfl (fun ls hl => ?_)
  refine lv_iload_n hx hb dX11_lies_6 rfl (lv_at hl 0 rfl) ?_
  refine lv_if_ge (tgt := 14) hx hb dX11_lies_7 (by decide) (fun h => absurd h (by decide)) (fun _ => ?_)
  refine lv_iload_n hx hb dX11_lies_10 rfl (lv_at hl 0 rfl) ?_
  refine lv_goto (tgt := 25) hx hb dX11_lies_11 (by decide) ?_
  exact rt_i FX () rfl trivial (hP.sub [0, 1] rfl) (hD.sub [0, 1] (by decide) rfl) hS (Nat.le_of_ble_eq_true rfl) (Nat.le_of_ble_eq_true rfl) dX11_lies_25
set_option maxRecDepth 100000 in
set_option maxHeartbeats 4000000 in
theorem c_X11_shames (l : Launch) (g : GG) (h0 : Nat) (h1 : Nat) (w0 : Nat) (w2 : Nat) (w3 : Nat) (w4 : Nat) (w5 : Nat) (w6 : Nat) (w7 : Nat) (w8 : Nat) (w9 : Nat) (w10 : Nat) (v0 : Nat) (v1 : Nat) (v2 : Nat) (v3 : Nat) (v4 : Nat) (v5 : Nat) (v6 : Nat) (v7 : Nat) (v8 : Nat) (v9 : Nat) (p1 : Int32) : Ct l g yX11_shames cX11_shames 3 (some .int) { frames := 2, cells := 0, slots := 0, locals := 42 } [.ref h0, .int p1] [(h0, .inr (11, [.ref w0, .ref h1, .ref w2, .ref w3, .ref w4, .ref w5, .ref w6, .ref w7, .ref w8, .ref w9, .ref w10])), (h1, .inr (0, [.int 0, .int 0, .int 0, .int 0, .int 0, .int 0, .int 0, .int 0, .int 0, .int 0, .ref v0, .ref v1, .ref v2, .ref v3, .ref v4, .ref v5, .ref v6, .ref v7, .ref v8, .ref v9]))] (S := Unit) (fun _ => some (.int (-2))) (fun _ => True) (fun u => [(h0, .inr (11, [.ref w0, .ref h1, .ref w2, .ref w3, .ref w4, .ref w5, .ref w6, .ref w7, .ref w8, .ref w9, .ref w10])), (h1, .inr (0, [.int 0, .int 0, .int 0, .int 0, .int 0, .int 0, .int 0, .int 0, .int 0, .int 0, .ref v0, .ref v1, .ref v2, .ref v3, .ref v4, .ref v5, .ref v6, .ref v7, .ref v8, .ref v9]))]) := by
  refine Ct.of (by decide) (Nat.le_of_ble_eq_true rfl) ?_
  intro p e s m below meth c A ls FX hP hD hS hl
  obtain ⟨FC, hr, hlk, hKn, hA, hnm⟩ := id FX
  have FC : CallFix p m c cX11_shames 3 s _ BIG RX11 := FC
  obtain ⟨hx, hb, hml, hown, hB⟩ := id FC
  have hl : lv_has ls 3 [(0, .ref h0), (1, .int p1)] := hl
  refine lv_aload_n hx hb dX11_shames_0 rfl (lv_at hl 0 rfl) ?_
  refine lv_iload_n hx hb dX11_shames_1 rfl (lv_at hl 1 rfl) ?_
  refine call_V (As := [.int p1]) (rest := []) (wr := []) FC hKn (c_X11_takeWeek l g h0 h1 w0 w2 w3 w4 w5 w6 w7 w8 w9 w10 v0 v1 v2 v3 v4 v5 v6 v7 v8 v9 p1) m_yX11_takeWeek b_18 (ci := 11) rfl rfl rfl hP hD hS hA [0, 1] [] rfl (by decide) rfl (by decide) (by decide) rfl hl.1 rfl (Nat.le_of_ble_eq_true rfl) dX11_shames_2 ⟨(Nat.le_of_ble_eq_true rfl), (Nat.le_of_ble_eq_true rfl)⟩ ⟨(Nat.le_of_ble_eq_true rfl), (Nat.le_of_ble_eq_true rfl)⟩ (fun u1 H locs _ hP hD hS => ?_)
  have hP : va_P g.1 vwCl [(h0, .inr (11, [.ref w0, .ref h1, .ref w2, .ref w3, .ref w4, .ref w5, .ref w6, .ref w7, .ref w8, .ref w9, .ref w10])), (h1, .inr (0, [.int 0, .int 0, .int 0, .int 0, .int 0, .int 0, .int 0, .int 0, .int 0, .int 0, .ref v0, .ref v1, .ref v2, .ref v3, .ref v4, .ref v5, .ref v6, .ref v7, .ref v8, .ref v9]))] H := hP
  have hD : va_D A [(h0, .inr (11, [.ref w0, .ref h1, .ref w2, .ref w3, .ref w4, .ref w5, .ref w6, .ref w7, .ref w8, .ref w9, .ref w10])), (h1, .inr (0, [.int 0, .int 0, .int 0, .int 0, .int 0, .int 0, .int 0, .int 0, .int 0, .int 0, .ref v0, .ref v1, .ref v2, .ref v3, .ref v4, .ref v5, .ref v6, .ref v7, .ref v8, .ref v9]))] := hD
  refine W.eq (g2 := F0 m 5 ls [.int (-2)]) rfl ?_
  refine lv_istore_n (lv' := [(2, .int (-2)), (0, .ref h0), (1, .int p1)]) hx hb dX11_shames_5 rfl hl (by decide) rfl (fun ls hl => ?_)
  refine lv_iload_n hx hb dX11_shames_6 rfl (lv_at hl 0 rfl) ?_
  refine lv_if_ge (tgt := 14) hx hb dX11_shames_7 (by decide) (fun h => absurd h (by decide)) (fun _ => ?_)
  refine lv_iload_n hx hb dX11_shames_10 rfl (lv_at hl 0 rfl) ?_
  refine lv_goto (tgt := 25) hx hb dX11_shames_11 (by decide) ?_
  exact rt_i FX () rfl trivial (hP.sub [0, 1] rfl) (hD.sub [0, 1] (by decide) rfl) hS (Nat.le_of_ble_eq_true rfl) (Nat.le_of_ble_eq_true rfl) dX11_shames_25
set_option maxRecDepth 100000 in
set_option maxHeartbeats 4000000 in
theorem c_X11_known (l : Launch) (g : GG) (h0 : Nat) (h1 : Nat) (w0 : Nat) (w2 : Nat) (w3 : Nat) (w4 : Nat) (w5 : Nat) (w6 : Nat) (w7 : Nat) (w8 : Nat) (w9 : Nat) (w10 : Nat) (v0 : Nat) (v1 : Nat) (v2 : Nat) (v3 : Nat) (v4 : Nat) (v5 : Nat) (v6 : Nat) (v7 : Nat) (v8 : Nat) (v9 : Nat) (p1 : Int32) : Ct l g yX11_known cX11_known 3 (some .int) { frames := 2, cells := 0, slots := 0, locals := 42 } [.ref h0, .int p1] [(h0, .inr (11, [.ref w0, .ref h1, .ref w2, .ref w3, .ref w4, .ref w5, .ref w6, .ref w7, .ref w8, .ref w9, .ref w10])), (h1, .inr (0, [.int 0, .int 0, .int 0, .int 0, .int 0, .int 0, .int 0, .int 0, .int 0, .int 0, .ref v0, .ref v1, .ref v2, .ref v3, .ref v4, .ref v5, .ref v6, .ref v7, .ref v8, .ref v9]))] (S := Unit) (fun _ => some (.int (-2))) (fun _ => True) (fun u => [(h0, .inr (11, [.ref w0, .ref h1, .ref w2, .ref w3, .ref w4, .ref w5, .ref w6, .ref w7, .ref w8, .ref w9, .ref w10])), (h1, .inr (0, [.int 0, .int 0, .int 0, .int 0, .int 0, .int 0, .int 0, .int 0, .int 0, .int 0, .ref v0, .ref v1, .ref v2, .ref v3, .ref v4, .ref v5, .ref v6, .ref v7, .ref v8, .ref v9]))]) := by
  refine Ct.of (by decide) (Nat.le_of_ble_eq_true rfl) ?_
  intro p e s m below meth c A ls FX hP hD hS hl
  obtain ⟨FC, hr, hlk, hKn, hA, hnm⟩ := id FX
  have FC : CallFix p m c cX11_known 3 s _ BIG RX11 := FC
  obtain ⟨hx, hb, hml, hown, hB⟩ := id FC
  have hl : lv_has ls 3 [(0, .ref h0), (1, .int p1)] := hl
  refine lv_aload_n hx hb dX11_known_0 rfl (lv_at hl 0 rfl) ?_
  refine lv_iload_n hx hb dX11_known_1 rfl (lv_at hl 1 rfl) ?_
  refine call_V (As := [.int p1]) (rest := []) (wr := []) FC hKn (c_X11_takeWeek l g h0 h1 w0 w2 w3 w4 w5 w6 w7 w8 w9 w10 v0 v1 v2 v3 v4 v5 v6 v7 v8 v9 p1) m_yX11_takeWeek b_18 (ci := 11) rfl rfl rfl hP hD hS hA [0, 1] [] rfl (by decide) rfl (by decide) (by decide) rfl hl.1 rfl (Nat.le_of_ble_eq_true rfl) dX11_known_2 ⟨(Nat.le_of_ble_eq_true rfl), (Nat.le_of_ble_eq_true rfl)⟩ ⟨(Nat.le_of_ble_eq_true rfl), (Nat.le_of_ble_eq_true rfl)⟩ (fun u1 H locs _ hP hD hS => ?_)
  have hP : va_P g.1 vwCl [(h0, .inr (11, [.ref w0, .ref h1, .ref w2, .ref w3, .ref w4, .ref w5, .ref w6, .ref w7, .ref w8, .ref w9, .ref w10])), (h1, .inr (0, [.int 0, .int 0, .int 0, .int 0, .int 0, .int 0, .int 0, .int 0, .int 0, .int 0, .ref v0, .ref v1, .ref v2, .ref v3, .ref v4, .ref v5, .ref v6, .ref v7, .ref v8, .ref v9]))] H := hP
  have hD : va_D A [(h0, .inr (11, [.ref w0, .ref h1, .ref w2, .ref w3, .ref w4, .ref w5, .ref w6, .ref w7, .ref w8, .ref w9, .ref w10])), (h1, .inr (0, [.int 0, .int 0, .int 0, .int 0, .int 0, .int 0, .int 0, .int 0, .int 0, .int 0, .ref v0, .ref v1, .ref v2, .ref v3, .ref v4, .ref v5, .ref v6, .ref v7, .ref v8, .ref v9]))] := hD
  refine W.eq (g2 := F0 m 5 ls [.int (-2)]) rfl ?_
  refine lv_istore_n (lv' := [(2, .int (-2)), (0, .ref h0), (1, .int p1)]) hx hb dX11_known_5 rfl hl (by decide) rfl (fun ls hl => ?_)
  refine lv_iload_n hx hb dX11_known_6 rfl (lv_at hl 0 rfl) ?_
  refine lv_if_ge (tgt := 14) hx hb dX11_known_7 (by decide) (fun h => absurd h (by decide)) (fun _ => ?_)
  refine lv_iload_n hx hb dX11_known_10 rfl (lv_at hl 0 rfl) ?_
  refine lv_goto (tgt := 28) hx hb dX11_known_11 (by decide) ?_
  exact rt_i FX () rfl trivial (hP.sub [0, 1] rfl) (hD.sub [0, 1] (by decide) rfl) hS (Nat.le_of_ble_eq_true rfl) (Nat.le_of_ble_eq_true rfl) dX11_known_28
set_option maxRecDepth 100000 in
set_option maxHeartbeats 4000000 in
theorem c_X11_softer (l : Launch) (g : GG) (h0 : Nat) (h1 : Nat) (w0 : Nat) (w2 : Nat) (w3 : Nat) (w4 : Nat) (w5 : Nat) (w6 : Nat) (w7 : Nat) (w8 : Nat) (w9 : Nat) (w10 : Nat) (v0 : Nat) (v1 : Nat) (v2 : Nat) (v3 : Nat) (v4 : Nat) (v5 : Nat) (v6 : Nat) (v7 : Nat) (v8 : Nat) (v9 : Nat) (p1 : Int32) (p2 : Int32) : Ct l g yX11_softer cX11_softer 4 (some .int) { frames := 2, cells := 0, slots := 0, locals := 44 } [.ref h0, .int p1, .int p2] [(h0, .inr (11, [.ref w0, .ref h1, .ref w2, .ref w3, .ref w4, .ref w5, .ref w6, .ref w7, .ref w8, .ref w9, .ref w10])), (h1, .inr (0, [.int 0, .int 0, .int 0, .int 0, .int 0, .int 0, .int 0, .int 0, .int 0, .int 0, .ref v0, .ref v1, .ref v2, .ref v3, .ref v4, .ref v5, .ref v6, .ref v7, .ref v8, .ref v9]))] (S := Unit) (fun _ => some (.int (-2))) (fun _ => True) (fun u => [(h0, .inr (11, [.ref w0, .ref h1, .ref w2, .ref w3, .ref w4, .ref w5, .ref w6, .ref w7, .ref w8, .ref w9, .ref w10])), (h1, .inr (0, [.int 0, .int 0, .int 0, .int 0, .int 0, .int 0, .int 0, .int 0, .int 0, .int 0, .ref v0, .ref v1, .ref v2, .ref v3, .ref v4, .ref v5, .ref v6, .ref v7, .ref v8, .ref v9]))]) := by
  refine Ct.of (by decide) (Nat.le_of_ble_eq_true rfl) ?_
  intro p e s m below meth c A ls FX hP hD hS hl
  obtain ⟨FC, hr, hlk, hKn, hA, hnm⟩ := id FX
  have FC : CallFix p m c cX11_softer 4 s _ BIG RX11 := FC
  obtain ⟨hx, hb, hml, hown, hB⟩ := id FC
  have hl : lv_has ls 4 [(0, .ref h0), (1, .int p1), (2, .int p2)] := hl
  refine lv_aload_n hx hb dX11_softer_0 rfl (lv_at hl 0 rfl) ?_
  refine lv_iload_n hx hb dX11_softer_1 rfl (lv_at hl 1 rfl) ?_
  refine lv_iload_n hx hb dX11_softer_2 rfl (lv_at hl 2 rfl) ?_
  refine call_V (As := [.int p1, .int p2]) (rest := []) (wr := []) FC hKn (c_X11_orderWeek l g h0 h1 w0 w2 w3 w4 w5 w6 w7 w8 w9 w10 v0 v1 v2 v3 v4 v5 v6 v7 v8 v9 p1 p2) m_yX11_orderWeek b_20 (ci := 11) rfl rfl rfl hP hD hS hA [0, 1] [] rfl (by decide) rfl (by decide) (by decide) rfl hl.1 rfl (Nat.le_of_ble_eq_true rfl) dX11_softer_3 ⟨(Nat.le_of_ble_eq_true rfl), (Nat.le_of_ble_eq_true rfl)⟩ ⟨(Nat.le_of_ble_eq_true rfl), (Nat.le_of_ble_eq_true rfl)⟩ (fun u1 H locs _ hP hD hS => ?_)
  have hP : va_P g.1 vwCl [(h0, .inr (11, [.ref w0, .ref h1, .ref w2, .ref w3, .ref w4, .ref w5, .ref w6, .ref w7, .ref w8, .ref w9, .ref w10])), (h1, .inr (0, [.int 0, .int 0, .int 0, .int 0, .int 0, .int 0, .int 0, .int 0, .int 0, .int 0, .ref v0, .ref v1, .ref v2, .ref v3, .ref v4, .ref v5, .ref v6, .ref v7, .ref v8, .ref v9]))] H := hP
  have hD : va_D A [(h0, .inr (11, [.ref w0, .ref h1, .ref w2, .ref w3, .ref w4, .ref w5, .ref w6, .ref w7, .ref w8, .ref w9, .ref w10])), (h1, .inr (0, [.int 0, .int 0, .int 0, .int 0, .int 0, .int 0, .int 0, .int 0, .int 0, .int 0, .ref v0, .ref v1, .ref v2, .ref v3, .ref v4, .ref v5, .ref v6, .ref v7, .ref v8, .ref v9]))] := hD
  refine W.eq (g2 := F0 m 6 ls [.int (-2)]) rfl ?_
  refine lv_istore_n (lv' := [(3, .int (-2)), (0, .ref h0), (1, .int p1), (2, .int p2)]) hx hb dX11_softer_6 rfl hl (by decide) rfl (fun ls hl => ?_)
  refine lv_iload_n hx hb dX11_softer_7 rfl (lv_at hl 0 rfl) ?_
  refine lv_if_ge (tgt := 15) hx hb dX11_softer_8 (by decide) (fun h => absurd h (by decide)) (fun _ => ?_)
  refine lv_iload_n hx hb dX11_softer_11 rfl (lv_at hl 0 rfl) ?_
  refine lv_goto (tgt := 22) hx hb dX11_softer_12 (by decide) ?_
  exact rt_i FX () rfl trivial (hP.sub [0, 1] rfl) (hD.sub [0, 1] (by decide) rfl) hS (Nat.le_of_ble_eq_true rfl) (Nat.le_of_ble_eq_true rfl) dX11_softer_22
set_option maxRecDepth 100000 in
set_option maxHeartbeats 4000000 in
theorem c_X11_ordered (l : Launch) (g : GG) (h0 : Nat) (h1 : Nat) (w0 : Nat) (w2 : Nat) (w3 : Nat) (w4 : Nat) (w5 : Nat) (w6 : Nat) (w7 : Nat) (w8 : Nat) (w9 : Nat) (w10 : Nat) (v0 : Nat) (v1 : Nat) (v2 : Nat) (v3 : Nat) (v4 : Nat) (v5 : Nat) (v6 : Nat) (v7 : Nat) (v8 : Nat) (v9 : Nat) (p1 : Int32) (p2 : Int32) (p3 : Int32) : Ct l g yX11_ordered cX11_ordered 5 (some .int) { frames := 2, cells := 0, slots := 0, locals := 44 } [.ref h0, .int p1, .int p2, .int p3] [(h0, .inr (11, [.ref w0, .ref h1, .ref w2, .ref w3, .ref w4, .ref w5, .ref w6, .ref w7, .ref w8, .ref w9, .ref w10])), (h1, .inr (0, [.int 0, .int 0, .int 0, .int 0, .int 0, .int 0, .int 0, .int 0, .int 0, .int 0, .ref v0, .ref v1, .ref v2, .ref v3, .ref v4, .ref v5, .ref v6, .ref v7, .ref v8, .ref v9]))] (S := Unit) (fun _ => some (.int (-2))) (fun _ => True) (fun u => [(h0, .inr (11, [.ref w0, .ref h1, .ref w2, .ref w3, .ref w4, .ref w5, .ref w6, .ref w7, .ref w8, .ref w9, .ref w10])), (h1, .inr (0, [.int 0, .int 0, .int 0, .int 0, .int 0, .int 0, .int 0, .int 0, .int 0, .int 0, .ref v0, .ref v1, .ref v2, .ref v3, .ref v4, .ref v5, .ref v6, .ref v7, .ref v8, .ref v9]))]) := by
  refine Ct.of (by decide) (Nat.le_of_ble_eq_true rfl) ?_
  intro p e s m below meth c A ls FX hP hD hS hl
  obtain ⟨FC, hr, hlk, hKn, hA, hnm⟩ := id FX
  have FC : CallFix p m c cX11_ordered 5 s _ BIG RX11 := FC
  obtain ⟨hx, hb, hml, hown, hB⟩ := id FC
  have hl : lv_has ls 5 [(0, .ref h0), (1, .int p1), (2, .int p2), (3, .int p3)] := hl
  refine lv_aload_n hx hb dX11_ordered_0 rfl (lv_at hl 0 rfl) ?_
  refine lv_iload_n hx hb dX11_ordered_1 rfl (lv_at hl 1 rfl) ?_
  refine lv_iload_n hx hb dX11_ordered_2 rfl (lv_at hl 2 rfl) ?_
  refine call_V (As := [.int p1, .int p2]) (rest := []) (wr := []) FC hKn (c_X11_orderWeek l g h0 h1 w0 w2 w3 w4 w5 w6 w7 w8 w9 w10 v0 v1 v2 v3 v4 v5 v6 v7 v8 v9 p1 p2) m_yX11_orderWeek b_20 (ci := 11) rfl rfl rfl hP hD hS hA [0, 1] [] rfl (by decide) rfl (by decide) (by decide) rfl hl.1 rfl (Nat.le_of_ble_eq_true rfl) dX11_ordered_3 ⟨(Nat.le_of_ble_eq_true rfl), (Nat.le_of_ble_eq_true rfl)⟩ ⟨(Nat.le_of_ble_eq_true rfl), (Nat.le_of_ble_eq_true rfl)⟩ (fun u1 H locs _ hP hD hS => ?_)
  have hP : va_P g.1 vwCl [(h0, .inr (11, [.ref w0, .ref h1, .ref w2, .ref w3, .ref w4, .ref w5, .ref w6, .ref w7, .ref w8, .ref w9, .ref w10])), (h1, .inr (0, [.int 0, .int 0, .int 0, .int 0, .int 0, .int 0, .int 0, .int 0, .int 0, .int 0, .ref v0, .ref v1, .ref v2, .ref v3, .ref v4, .ref v5, .ref v6, .ref v7, .ref v8, .ref v9]))] H := hP
  have hD : va_D A [(h0, .inr (11, [.ref w0, .ref h1, .ref w2, .ref w3, .ref w4, .ref w5, .ref w6, .ref w7, .ref w8, .ref w9, .ref w10])), (h1, .inr (0, [.int 0, .int 0, .int 0, .int 0, .int 0, .int 0, .int 0, .int 0, .int 0, .int 0, .ref v0, .ref v1, .ref v2, .ref v3, .ref v4, .ref v5, .ref v6, .ref v7, .ref v8, .ref v9]))] := hD
  refine W.eq (g2 := F0 m 6 ls [.int (-2)]) rfl ?_
  refine lv_istore (lv' := [(4, .int (-2)), (0, .ref h0), (1, .int p1), (2, .int p2), (3, .int p3)]) hx hb dX11_ordered_6 hl (by decide) rfl (fun ls hl => ?_)
  refine lv_iload hx hb dX11_ordered_8 (lv_at hl 0 rfl) ?_
  refine lv_if_ge (tgt := 16) hx hb dX11_ordered_10 (by decide) (fun h => absurd h (by decide)) (fun _ => ?_)
  refine lv_iload hx hb dX11_ordered_13 (lv_at hl 0 rfl) ?_
  exact rt_i FX () rfl trivial (hP.sub [0, 1] rfl) (hD.sub [0, 1] (by decide) rfl) hS (Nat.le_of_ble_eq_true rfl) (Nat.le_of_ble_eq_true rfl) dX11_ordered_15
set_option maxRecDepth 100000 in
set_option maxHeartbeats 4000000 in
theorem c_X11_rest (l : Launch) (g : GG) (h0 : Nat) (h1 : Nat) (w0 : Nat) (w2 : Nat) (w3 : Nat) (w4 : Nat) (w5 : Nat) (w6 : Nat) (w7 : Nat) (w8 : Nat) (w9 : Nat) (w10 : Nat) (v0 : Nat) (v1 : Nat) (v2 : Nat) (v3 : Nat) (v4 : Nat) (v5 : Nat) (v6 : Nat) (v7 : Nat) (v8 : Nat) (v9 : Nat) (p1 : Int32) : Ct l g yX11_rest cX11_rest 5 (some .int) { frames := 1, cells := 0, slots := 0, locals := 21 } [.ref h0, .int p1] [(h0, .inr (11, [.ref w0, .ref h1, .ref w2, .ref w3, .ref w4, .ref w5, .ref w6, .ref w7, .ref w8, .ref w9, .ref w10])), (h1, .inr (0, [.int 0, .int 0, .int 0, .int 0, .int 0, .int 0, .int 0, .int 0, .int 0, .int 0, .ref v0, .ref v1, .ref v2, .ref v3, .ref v4, .ref v5, .ref v6, .ref v7, .ref v8, .ref v9]))] (S := Unit) (fun _ => some (.int (-2))) (fun _ => True) (fun u => [(h0, .inr (11, [.ref w0, .ref h1, .ref w2, .ref w3, .ref w4, .ref w5, .ref w6, .ref w7, .ref w8, .ref w9, .ref w10])), (h1, .inr (0, [.int 0, .int 0, .int 0, .int 0, .int 0, .int 0, .int 0, .int 0, .int 0, .int 0, .ref v0, .ref v1, .ref v2, .ref v3, .ref v4, .ref v5, .ref v6, .ref v7, .ref v8, .ref v9]))]) := by
  refine Ct.of (by decide) (Nat.le_of_ble_eq_true rfl) ?_
  intro p e s m below meth c A ls FX hP hD hS hl
  obtain ⟨FC, hr, hlk, hKn, hA, hnm⟩ := id FX
  have FC : CallFix p m c cX11_rest 5 s _ BIG RX11 := FC
  obtain ⟨hx, hb, hml, hown, hB⟩ := id FC
  have hl : lv_has ls 5 [(0, .ref h0), (1, .int p1)] := hl
  refine lv_aload_n hx hb dX11_rest_0 rfl (lv_at hl 0 rfl) ?_
  refine g_get (C := RX11) (T := TX11) (N := 11) (ci := 11) (v := .ref h1) FC hKn hP i_X11 0 rfl rfl 1 (by decide) b_10 rfl dX11_rest_1 ?_
  refine lv_iload_n hx hb dX11_rest_4 rfl (lv_at hl 1 rfl) ?_
  refine call_VN (As := [.int p1]) (rest := []) (wr := [(h0, .inr (11, [.ref w0, .ref h1, .ref w2, .ref w3, .ref w4, .ref w5, .ref w6, .ref w7, .ref w8, .ref w9, .ref w10]))]) FC hKn (c_X0_hasHearer l g h1 v0 v1 v2 v3 v4 v5 v6 v7 v8 v9 p1) m_yX0_hasHearer b_12 (ci := 0) rfl rfl rfl hP hD hS hA [1] [0] rfl (by decide) rfl (by decide) (by decide) rfl hl.1 rfl (Nat.le_of_ble_eq_true rfl) dX11_rest_5 ⟨(Nat.le_of_ble_eq_true rfl), (Nat.le_of_ble_eq_true rfl)⟩ ⟨(Nat.le_of_ble_eq_true rfl), (Nat.le_of_ble_eq_true rfl)⟩ (fun u1 H locs _ hP hD hS => ?_)
  have hP : va_P g.1 vwCl [(h0, .inr (11, [.ref w0, .ref h1, .ref w2, .ref w3, .ref w4, .ref w5, .ref w6, .ref w7, .ref w8, .ref w9, .ref w10])), (h1, .inr (0, [.int 0, .int 0, .int 0, .int 0, .int 0, .int 0, .int 0, .int 0, .int 0, .int 0, .ref v0, .ref v1, .ref v2, .ref v3, .ref v4, .ref v5, .ref v6, .ref v7, .ref v8, .ref v9]))] H := hP
  have hD : va_D A [(h0, .inr (11, [.ref w0, .ref h1, .ref w2, .ref w3, .ref w4, .ref w5, .ref w6, .ref w7, .ref w8, .ref w9, .ref w10])), (h1, .inr (0, [.int 0, .int 0, .int 0, .int 0, .int 0, .int 0, .int 0, .int 0, .int 0, .int 0, .ref v0, .ref v1, .ref v2, .ref v3, .ref v4, .ref v5, .ref v6, .ref v7, .ref v8, .ref v9]))] := hD
  refine W.eq (g2 := F0 m 8 ls [.int 0]) rfl ?_
  refine lv_if_ne (tgt := 14) hx hb dX11_rest_8 (by decide) (fun h => absurd h (by decide)) (fun _ => ?_)
  refine lv_bipush (v := -2) hx hb dX11_rest_11 (by decide) ?_
  exact rt_i FX () rfl trivial (hP.sub [0, 1] rfl) (hD.sub [0, 1] (by decide) rfl) hS (Nat.le_of_ble_eq_true rfl) (Nat.le_of_ble_eq_true rfl) dX11_rest_13
set_option maxRecDepth 100000 in
set_option maxHeartbeats 4000000 in
theorem c_X11_least (l : Launch) (g : GG) (h0 : Nat) (h1 : Nat) (w0 : Nat) (w2 : Nat) (w3 : Nat) (w4 : Nat) (w5 : Nat) (w6 : Nat) (w7 : Nat) (w8 : Nat) (w9 : Nat) (w10 : Nat) (v0 : Nat) (v1 : Nat) (v2 : Nat) (v3 : Nat) (v4 : Nat) (v5 : Nat) (v6 : Nat) (v7 : Nat) (v8 : Nat) (v9 : Nat) (p1 : Int32) : Ct l g yX11_least cX11_least 2 (some .int) { frames := 1, cells := 0, slots := 0, locals := 21 } [.ref h0, .int p1] [(h0, .inr (11, [.ref w0, .ref h1, .ref w2, .ref w3, .ref w4, .ref w5, .ref w6, .ref w7, .ref w8, .ref w9, .ref w10])), (h1, .inr (0, [.int 0, .int 0, .int 0, .int 0, .int 0, .int 0, .int 0, .int 0, .int 0, .int 0, .ref v0, .ref v1, .ref v2, .ref v3, .ref v4, .ref v5, .ref v6, .ref v7, .ref v8, .ref v9]))] (S := Unit) (fun _ => some (.int (-2))) (fun _ => True) (fun u => [(h0, .inr (11, [.ref w0, .ref h1, .ref w2, .ref w3, .ref w4, .ref w5, .ref w6, .ref w7, .ref w8, .ref w9, .ref w10])), (h1, .inr (0, [.int 0, .int 0, .int 0, .int 0, .int 0, .int 0, .int 0, .int 0, .int 0, .int 0, .ref v0, .ref v1, .ref v2, .ref v3, .ref v4, .ref v5, .ref v6, .ref v7, .ref v8, .ref v9]))]) := by
  refine Ct.of (by decide) (Nat.le_of_ble_eq_true rfl) ?_
  intro p e s m below meth c A ls FX hP hD hS hl
  obtain ⟨FC, hr, hlk, hKn, hA, hnm⟩ := id FX
  have FC : CallFix p m c cX11_least 2 s _ BIG RX11 := FC
  obtain ⟨hx, hb, hml, hown, hB⟩ := id FC
  have hl : lv_has ls 2 [(0, .ref h0), (1, .int p1)] := hl
  refine lv_aload_n hx hb dX11_least_0 rfl (lv_at hl 0 rfl) ?_
  refine g_get (C := RX11) (T := TX11) (N := 11) (ci := 11) (v := .ref h1) FC hKn hP i_X11 0 rfl rfl 1 (by decide) b_10 rfl dX11_least_1 ?_
  refine lv_iload_n hx hb dX11_least_4 rfl (lv_at hl 1 rfl) ?_
  refine call_VN (As := [.int p1]) (rest := []) (wr := [(h0, .inr (11, [.ref w0, .ref h1, .ref w2, .ref w3, .ref w4, .ref w5, .ref w6, .ref w7, .ref w8, .ref w9, .ref w10]))]) FC hKn (c_X0_hasHearer l g h1 v0 v1 v2 v3 v4 v5 v6 v7 v8 v9 p1) m_yX0_hasHearer b_12 (ci := 0) rfl rfl rfl hP hD hS hA [1] [0] rfl (by decide) rfl (by decide) (by decide) rfl hl.1 rfl (Nat.le_of_ble_eq_true rfl) dX11_least_5 ⟨(Nat.le_of_ble_eq_true rfl), (Nat.le_of_ble_eq_true rfl)⟩ ⟨(Nat.le_of_ble_eq_true rfl), (Nat.le_of_ble_eq_true rfl)⟩ (fun u1 H locs _ hP hD hS => ?_)
  have hP : va_P g.1 vwCl [(h0, .inr (11, [.ref w0, .ref h1, .ref w2, .ref w3, .ref w4, .ref w5, .ref w6, .ref w7, .ref w8, .ref w9, .ref w10])), (h1, .inr (0, [.int 0, .int 0, .int 0, .int 0, .int 0, .int 0, .int 0, .int 0, .int 0, .int 0, .ref v0, .ref v1, .ref v2, .ref v3, .ref v4, .ref v5, .ref v6, .ref v7, .ref v8, .ref v9]))] H := hP
  have hD : va_D A [(h0, .inr (11, [.ref w0, .ref h1, .ref w2, .ref w3, .ref w4, .ref w5, .ref w6, .ref w7, .ref w8, .ref w9, .ref w10])), (h1, .inr (0, [.int 0, .int 0, .int 0, .int 0, .int 0, .int 0, .int 0, .int 0, .int 0, .int 0, .ref v0, .ref v1, .ref v2, .ref v3, .ref v4, .ref v5, .ref v6, .ref v7, .ref v8, .ref v9]))] := hD
  refine W.eq (g2 := F0 m 8 ls [.int 0]) rfl ?_
  refine lv_if_eq (tgt := 21) hx hb dX11_least_8 (by decide) (fun _ => ?_) (fun h => absurd h (by decide))
  refine lv_bipush (v := -2) hx hb dX11_least_21 (by decide) ?_
  exact rt_i FX () rfl trivial (hP.sub [0, 1] rfl) (hD.sub [0, 1] (by decide) rfl) hS (Nat.le_of_ble_eq_true rfl) (Nat.le_of_ble_eq_true rfl) dX11_least_23
set_option maxRecDepth 100000 in
set_option maxHeartbeats 4000000 in
theorem c_X11_step (l : Launch) (g : GG) (h0 : Nat) (h1 : Nat) (w0 : Nat) (w2 : Nat) (w3 : Nat) (w4 : Nat) (w5 : Nat) (w6 : Nat) (w7 : Nat) (w8 : Nat) (w9 : Nat) (w10 : Nat) (v0 : Nat) (v1 : Nat) (v2 : Nat) (v3 : Nat) (v4 : Nat) (v5 : Nat) (v6 : Nat) (v7 : Nat) (v8 : Nat) (v9 : Nat) (p1 : Int32) (p2 : Int32) : Ct l g yX11_step cX11_step 3 (some .int) { frames := 2, cells := 0, slots := 0, locals := 45 } [.ref h0, .int p1, .int p2] [(h0, .inr (11, [.ref w0, .ref h1, .ref w2, .ref w3, .ref w4, .ref w5, .ref w6, .ref w7, .ref w8, .ref w9, .ref w10])), (h1, .inr (0, [.int 0, .int 0, .int 0, .int 0, .int 0, .int 0, .int 0, .int 0, .int 0, .int 0, .ref v0, .ref v1, .ref v2, .ref v3, .ref v4, .ref v5, .ref v6, .ref v7, .ref v8, .ref v9]))] (S := Unit) (fun _ => some (.int (-2))) (fun _ => True) (fun u => [(h0, .inr (11, [.ref w0, .ref h1, .ref w2, .ref w3, .ref w4, .ref w5, .ref w6, .ref w7, .ref w8, .ref w9, .ref w10])), (h1, .inr (0, [.int 0, .int 0, .int 0, .int 0, .int 0, .int 0, .int 0, .int 0, .int 0, .int 0, .ref v0, .ref v1, .ref v2, .ref v3, .ref v4, .ref v5, .ref v6, .ref v7, .ref v8, .ref v9]))]) := by
  refine Ct.of (by decide) (Nat.le_of_ble_eq_true rfl) ?_
  intro p e s m below meth c A ls FX hP hD hS hl
  obtain ⟨FC, hr, hlk, hKn, hA, hnm⟩ := id FX
  have FC : CallFix p m c cX11_step 3 s _ BIG RX11 := FC
  obtain ⟨hx, hb, hml, hown, hB⟩ := id FC
  have hl : lv_has ls 3 [(0, .ref h0), (1, .int p1), (2, .int p2)] := hl
  refine lv_aload_n hx hb dX11_step_0 rfl (lv_at hl 0 rfl) ?_
  refine lv_iload_n hx hb dX11_step_1 rfl (lv_at hl 1 rfl) ?_
  refine lv_iload_n hx hb dX11_step_2 rfl (lv_at hl 2 rfl) ?_
  refine lv_iconst (v := 0) hx hb dX11_step_3 (by decide) ?_
  refine lv_iconst (v := 0) hx hb dX11_step_4 (by decide) ?_
  refine call_V (As := [.int p1, .int p2, .int 0, .int 0]) (rest := []) (wr := []) FC hKn (c_X11_wordOfBest l g h0 h1 w0 w2 w3 w4 w5 w6 w7 w8 w9 w10 v0 v1 v2 v3 v4 v5 v6 v7 v8 v9 p1 p2 0 0) m_yX11_wordOfBest b_21 (ci := 11) rfl rfl rfl hP hD hS hA [0, 1] [] rfl (by decide) rfl (by decide) (by decide) rfl hl.1 rfl (Nat.le_of_ble_eq_true rfl) dX11_step_5 ⟨(Nat.le_of_ble_eq_true rfl), (Nat.le_of_ble_eq_true rfl)⟩ ⟨(Nat.le_of_ble_eq_true rfl), (Nat.le_of_ble_eq_true rfl)⟩ (fun u1 H locs _ hP hD hS => ?_)
  have hP : va_P g.1 vwCl [(h0, .inr (11, [.ref w0, .ref h1, .ref w2, .ref w3, .ref w4, .ref w5, .ref w6, .ref w7, .ref w8, .ref w9, .ref w10])), (h1, .inr (0, [.int 0, .int 0, .int 0, .int 0, .int 0, .int 0, .int 0, .int 0, .int 0, .int 0, .ref v0, .ref v1, .ref v2, .ref v3, .ref v4, .ref v5, .ref v6, .ref v7, .ref v8, .ref v9]))] H := hP
  have hD : va_D A [(h0, .inr (11, [.ref w0, .ref h1, .ref w2, .ref w3, .ref w4, .ref w5, .ref w6, .ref w7, .ref w8, .ref w9, .ref w10])), (h1, .inr (0, [.int 0, .int 0, .int 0, .int 0, .int 0, .int 0, .int 0, .int 0, .int 0, .int 0, .ref v0, .ref v1, .ref v2, .ref v3, .ref v4, .ref v5, .ref v6, .ref v7, .ref v8, .ref v9]))] := hD
  refine W.eq (g2 := F0 m 8 ls [.int (-2)]) rfl ?_
  exact rt_i FX () rfl trivial (hP.sub [0, 1] rfl) (hD.sub [0, 1] (by decide) rfl) hS (Nat.le_of_ble_eq_true rfl) (Nat.le_of_ble_eq_true rfl) dX11_step_8
set_option maxRecDepth 100000 in
set_option maxHeartbeats 4000000 in
theorem c_X11_truly (l : Launch) (g : GG) (h0 : Nat) (h1 : Nat) (w0 : Nat) (w2 : Nat) (w3 : Nat) (w4 : Nat) (w5 : Nat) (w6 : Nat) (w7 : Nat) (w8 : Nat) (w9 : Nat) (w10 : Nat) (v0 : Nat) (v1 : Nat) (v2 : Nat) (v3 : Nat) (v4 : Nat) (v5 : Nat) (v6 : Nat) (v7 : Nat) (v8 : Nat) (v9 : Nat) (p1 : Int32) : Ct l g yX11_truly cX11_truly 2 (some .int) { frames := 1, cells := 0, slots := 0, locals := 21 } [.ref h0, .int p1] [(h0, .inr (11, [.ref w0, .ref h1, .ref w2, .ref w3, .ref w4, .ref w5, .ref w6, .ref w7, .ref w8, .ref w9, .ref w10])), (h1, .inr (0, [.int 0, .int 0, .int 0, .int 0, .int 0, .int 0, .int 0, .int 0, .int 0, .int 0, .ref v0, .ref v1, .ref v2, .ref v3, .ref v4, .ref v5, .ref v6, .ref v7, .ref v8, .ref v9]))] (S := Unit) (fun _ => some (.int (-2))) (fun _ => True) (fun u => [(h0, .inr (11, [.ref w0, .ref h1, .ref w2, .ref w3, .ref w4, .ref w5, .ref w6, .ref w7, .ref w8, .ref w9, .ref w10])), (h1, .inr (0, [.int 0, .int 0, .int 0, .int 0, .int 0, .int 0, .int 0, .int 0, .int 0, .int 0, .ref v0, .ref v1, .ref v2, .ref v3, .ref v4, .ref v5, .ref v6, .ref v7, .ref v8, .ref v9]))]) := by
  refine Ct.of (by decide) (Nat.le_of_ble_eq_true rfl) ?_
  intro p e s m below meth c A ls FX hP hD hS hl
  obtain ⟨FC, hr, hlk, hKn, hA, hnm⟩ := id FX
  have FC : CallFix p m c cX11_truly 2 s _ BIG RX11 := FC
  obtain ⟨hx, hb, hml, hown, hB⟩ := id FC
  have hl : lv_has ls 2 [(0, .ref h0), (1, .int p1)] := hl
  refine lv_aload_n hx hb dX11_truly_0 rfl (lv_at hl 0 rfl) ?_
  refine g_get (C := RX11) (T := TX11) (N := 11) (ci := 11) (v := .ref h1) FC hKn hP i_X11 0 rfl rfl 1 (by decide) b_10 rfl dX11_truly_1 ?_
  refine lv_iload_n hx hb dX11_truly_4 rfl (lv_at hl 1 rfl) ?_
  refine call_VN (As := [.int p1]) (rest := []) (wr := [(h0, .inr (11, [.ref w0, .ref h1, .ref w2, .ref w3, .ref w4, .ref w5, .ref w6, .ref w7, .ref w8, .ref w9, .ref w10]))]) FC hKn (c_X0_hasHearer l g h1 v0 v1 v2 v3 v4 v5 v6 v7 v8 v9 p1) m_yX0_hasHearer b_12 (ci := 0) rfl rfl rfl hP hD hS hA [1] [0] rfl (by decide) rfl (by decide) (by decide) rfl hl.1 rfl (Nat.le_of_ble_eq_true rfl) dX11_truly_5 ⟨(Nat.le_of_ble_eq_true rfl), (Nat.le_of_ble_eq_true rfl)⟩ ⟨(Nat.le_of_ble_eq_true rfl), (Nat.le_of_ble_eq_true rfl)⟩ (fun u1 H locs _ hP hD hS => ?_)
  have hP : va_P g.1 vwCl [(h0, .inr (11, [.ref w0, .ref h1, .ref w2, .ref w3, .ref w4, .ref w5, .ref w6, .ref w7, .ref w8, .ref w9, .ref w10])), (h1, .inr (0, [.int 0, .int 0, .int 0, .int 0, .int 0, .int 0, .int 0, .int 0, .int 0, .int 0, .ref v0, .ref v1, .ref v2, .ref v3, .ref v4, .ref v5, .ref v6, .ref v7, .ref v8, .ref v9]))] H := hP
  have hD : va_D A [(h0, .inr (11, [.ref w0, .ref h1, .ref w2, .ref w3, .ref w4, .ref w5, .ref w6, .ref w7, .ref w8, .ref w9, .ref w10])), (h1, .inr (0, [.int 0, .int 0, .int 0, .int 0, .int 0, .int 0, .int 0, .int 0, .int 0, .int 0, .ref v0, .ref v1, .ref v2, .ref v3, .ref v4, .ref v5, .ref v6, .ref v7, .ref v8, .ref v9]))] := hD
  refine W.eq (g2 := F0 m 8 ls [.int 0]) rfl ?_
  refine lv_if_eq (tgt := 21) hx hb dX11_truly_8 (by decide) (fun _ => ?_) (fun h => absurd h (by decide))
  refine lv_bipush (v := -2) hx hb dX11_truly_21 (by decide) ?_
  exact rt_i FX () rfl trivial (hP.sub [0, 1] rfl) (hD.sub [0, 1] (by decide) rfl) hS (Nat.le_of_ble_eq_true rfl) (Nat.le_of_ble_eq_true rfl) dX11_truly_23
set_option maxRecDepth 100000 in
set_option maxHeartbeats 4000000 in
theorem c_X11_honest (l : Launch) (g : GG) (h0 : Nat) (h1 : Nat) (w0 : Nat) (w2 : Nat) (w3 : Nat) (w4 : Nat) (w5 : Nat) (w6 : Nat) (w7 : Nat) (w8 : Nat) (w9 : Nat) (w10 : Nat) (v0 : Nat) (v1 : Nat) (v2 : Nat) (v3 : Nat) (v4 : Nat) (v5 : Nat) (v6 : Nat) (v7 : Nat) (v8 : Nat) (v9 : Nat) (p1 : Int32) (p2 : Int32) : Ct l g yX11_honest cX11_honest 3 (some .int) { frames := 2, cells := 0, slots := 0, locals := 45 } [.ref h0, .int p1, .int p2] [(h0, .inr (11, [.ref w0, .ref h1, .ref w2, .ref w3, .ref w4, .ref w5, .ref w6, .ref w7, .ref w8, .ref w9, .ref w10])), (h1, .inr (0, [.int 0, .int 0, .int 0, .int 0, .int 0, .int 0, .int 0, .int 0, .int 0, .int 0, .ref v0, .ref v1, .ref v2, .ref v3, .ref v4, .ref v5, .ref v6, .ref v7, .ref v8, .ref v9]))] (S := Unit) (fun _ => some (.int (-2))) (fun _ => True) (fun u => [(h0, .inr (11, [.ref w0, .ref h1, .ref w2, .ref w3, .ref w4, .ref w5, .ref w6, .ref w7, .ref w8, .ref w9, .ref w10])), (h1, .inr (0, [.int 0, .int 0, .int 0, .int 0, .int 0, .int 0, .int 0, .int 0, .int 0, .int 0, .ref v0, .ref v1, .ref v2, .ref v3, .ref v4, .ref v5, .ref v6, .ref v7, .ref v8, .ref v9]))]) := by
  refine Ct.of (by decide) (Nat.le_of_ble_eq_true rfl) ?_
  intro p e s m below meth c A ls FX hP hD hS hl
  obtain ⟨FC, hr, hlk, hKn, hA, hnm⟩ := id FX
  have FC : CallFix p m c cX11_honest 3 s _ BIG RX11 := FC
  obtain ⟨hx, hb, hml, hown, hB⟩ := id FC
  have hl : lv_has ls 3 [(0, .ref h0), (1, .int p1), (2, .int p2)] := hl
  refine lv_aload_n hx hb dX11_honest_0 rfl (lv_at hl 0 rfl) ?_
  refine lv_iload_n hx hb dX11_honest_1 rfl (lv_at hl 1 rfl) ?_
  refine lv_iload_n hx hb dX11_honest_2 rfl (lv_at hl 2 rfl) ?_
  refine lv_iconst (v := 0) hx hb dX11_honest_3 (by decide) ?_
  refine lv_iconst (v := 1) hx hb dX11_honest_4 (by decide) ?_
  refine call_V (As := [.int p1, .int p2, .int 0, .int 1]) (rest := []) (wr := []) FC hKn (c_X11_wordOfBest l g h0 h1 w0 w2 w3 w4 w5 w6 w7 w8 w9 w10 v0 v1 v2 v3 v4 v5 v6 v7 v8 v9 p1 p2 0 1) m_yX11_wordOfBest b_21 (ci := 11) rfl rfl rfl hP hD hS hA [0, 1] [] rfl (by decide) rfl (by decide) (by decide) rfl hl.1 rfl (Nat.le_of_ble_eq_true rfl) dX11_honest_5 ⟨(Nat.le_of_ble_eq_true rfl), (Nat.le_of_ble_eq_true rfl)⟩ ⟨(Nat.le_of_ble_eq_true rfl), (Nat.le_of_ble_eq_true rfl)⟩ (fun u1 H locs _ hP hD hS => ?_)
  have hP : va_P g.1 vwCl [(h0, .inr (11, [.ref w0, .ref h1, .ref w2, .ref w3, .ref w4, .ref w5, .ref w6, .ref w7, .ref w8, .ref w9, .ref w10])), (h1, .inr (0, [.int 0, .int 0, .int 0, .int 0, .int 0, .int 0, .int 0, .int 0, .int 0, .int 0, .ref v0, .ref v1, .ref v2, .ref v3, .ref v4, .ref v5, .ref v6, .ref v7, .ref v8, .ref v9]))] H := hP
  have hD : va_D A [(h0, .inr (11, [.ref w0, .ref h1, .ref w2, .ref w3, .ref w4, .ref w5, .ref w6, .ref w7, .ref w8, .ref w9, .ref w10])), (h1, .inr (0, [.int 0, .int 0, .int 0, .int 0, .int 0, .int 0, .int 0, .int 0, .int 0, .int 0, .ref v0, .ref v1, .ref v2, .ref v3, .ref v4, .ref v5, .ref v6, .ref v7, .ref v8, .ref v9]))] := hD
  refine W.eq (g2 := F0 m 8 ls [.int (-2)]) rfl ?_
  exact rt_i FX () rfl trivial (hP.sub [0, 1] rfl) (hD.sub [0, 1] (by decide) rfl) hS (Nat.le_of_ble_eq_true rfl) (Nat.le_of_ble_eq_true rfl) dX11_honest_8
set_option maxRecDepth 100000 in
set_option maxHeartbeats 4000000 in
theorem c_X11_gentlest (l : Launch) (g : GG) (h0 : Nat) (h1 : Nat) (w0 : Nat) (w2 : Nat) (w3 : Nat) (w4 : Nat) (w5 : Nat) (w6 : Nat) (w7 : Nat) (w8 : Nat) (w9 : Nat) (w10 : Nat) (v0 : Nat) (v1 : Nat) (v2 : Nat) (v3 : Nat) (v4 : Nat) (v5 : Nat) (v6 : Nat) (v7 : Nat) (v8 : Nat) (v9 : Nat) (p1 : Int32) : Ct l g yX11_gentlest cX11_gentlest 2 (some .int) { frames := 1, cells := 0, slots := 0, locals := 21 } [.ref h0, .int p1] [(h0, .inr (11, [.ref w0, .ref h1, .ref w2, .ref w3, .ref w4, .ref w5, .ref w6, .ref w7, .ref w8, .ref w9, .ref w10])), (h1, .inr (0, [.int 0, .int 0, .int 0, .int 0, .int 0, .int 0, .int 0, .int 0, .int 0, .int 0, .ref v0, .ref v1, .ref v2, .ref v3, .ref v4, .ref v5, .ref v6, .ref v7, .ref v8, .ref v9]))] (S := Unit) (fun _ => some (.int (-2))) (fun _ => True) (fun u => [(h0, .inr (11, [.ref w0, .ref h1, .ref w2, .ref w3, .ref w4, .ref w5, .ref w6, .ref w7, .ref w8, .ref w9, .ref w10])), (h1, .inr (0, [.int 0, .int 0, .int 0, .int 0, .int 0, .int 0, .int 0, .int 0, .int 0, .int 0, .ref v0, .ref v1, .ref v2, .ref v3, .ref v4, .ref v5, .ref v6, .ref v7, .ref v8, .ref v9]))]) := by
  refine Ct.of (by decide) (Nat.le_of_ble_eq_true rfl) ?_
  intro p e s m below meth c A ls FX hP hD hS hl
  obtain ⟨FC, hr, hlk, hKn, hA, hnm⟩ := id FX
  have FC : CallFix p m c cX11_gentlest 2 s _ BIG RX11 := FC
  obtain ⟨hx, hb, hml, hown, hB⟩ := id FC
  have hl : lv_has ls 2 [(0, .ref h0), (1, .int p1)] := hl
  refine lv_aload_n hx hb dX11_gentlest_0 rfl (lv_at hl 0 rfl) ?_
  refine g_get (C := RX11) (T := TX11) (N := 11) (ci := 11) (v := .ref h1) FC hKn hP i_X11 0 rfl rfl 1 (by decide) b_10 rfl dX11_gentlest_1 ?_
  refine lv_iload_n hx hb dX11_gentlest_4 rfl (lv_at hl 1 rfl) ?_
  refine call_VN (As := [.int p1]) (rest := []) (wr := [(h0, .inr (11, [.ref w0, .ref h1, .ref w2, .ref w3, .ref w4, .ref w5, .ref w6, .ref w7, .ref w8, .ref w9, .ref w10]))]) FC hKn (c_X0_hasHearer l g h1 v0 v1 v2 v3 v4 v5 v6 v7 v8 v9 p1) m_yX0_hasHearer b_12 (ci := 0) rfl rfl rfl hP hD hS hA [1] [0] rfl (by decide) rfl (by decide) (by decide) rfl hl.1 rfl (Nat.le_of_ble_eq_true rfl) dX11_gentlest_5 ⟨(Nat.le_of_ble_eq_true rfl), (Nat.le_of_ble_eq_true rfl)⟩ ⟨(Nat.le_of_ble_eq_true rfl), (Nat.le_of_ble_eq_true rfl)⟩ (fun u1 H locs _ hP hD hS => ?_)
  have hP : va_P g.1 vwCl [(h0, .inr (11, [.ref w0, .ref h1, .ref w2, .ref w3, .ref w4, .ref w5, .ref w6, .ref w7, .ref w8, .ref w9, .ref w10])), (h1, .inr (0, [.int 0, .int 0, .int 0, .int 0, .int 0, .int 0, .int 0, .int 0, .int 0, .int 0, .ref v0, .ref v1, .ref v2, .ref v3, .ref v4, .ref v5, .ref v6, .ref v7, .ref v8, .ref v9]))] H := hP
  have hD : va_D A [(h0, .inr (11, [.ref w0, .ref h1, .ref w2, .ref w3, .ref w4, .ref w5, .ref w6, .ref w7, .ref w8, .ref w9, .ref w10])), (h1, .inr (0, [.int 0, .int 0, .int 0, .int 0, .int 0, .int 0, .int 0, .int 0, .int 0, .int 0, .ref v0, .ref v1, .ref v2, .ref v3, .ref v4, .ref v5, .ref v6, .ref v7, .ref v8, .ref v9]))] := hD
  refine W.eq (g2 := F0 m 8 ls [.int 0]) rfl ?_
  refine lv_if_eq (tgt := 21) hx hb dX11_gentlest_8 (by decide) (fun _ => ?_) (fun h => absurd h (by decide))
  refine lv_bipush (v := -2) hx hb dX11_gentlest_21 (by decide) ?_
  exact rt_i FX () rfl trivial (hP.sub [0, 1] rfl) (hD.sub [0, 1] (by decide) rfl) hS (Nat.le_of_ble_eq_true rfl) (Nat.le_of_ble_eq_true rfl) dX11_gentlest_23
set_option maxRecDepth 100000 in
set_option maxHeartbeats 4000000 in
theorem c_X11_gently (l : Launch) (g : GG) (h0 : Nat) (h1 : Nat) (w0 : Nat) (w2 : Nat) (w3 : Nat) (w4 : Nat) (w5 : Nat) (w6 : Nat) (w7 : Nat) (w8 : Nat) (w9 : Nat) (w10 : Nat) (v0 : Nat) (v1 : Nat) (v2 : Nat) (v3 : Nat) (v4 : Nat) (v5 : Nat) (v6 : Nat) (v7 : Nat) (v8 : Nat) (v9 : Nat) (p1 : Int32) (p2 : Int32) : Ct l g yX11_gently cX11_gently 3 (some .int) { frames := 2, cells := 0, slots := 0, locals := 45 } [.ref h0, .int p1, .int p2] [(h0, .inr (11, [.ref w0, .ref h1, .ref w2, .ref w3, .ref w4, .ref w5, .ref w6, .ref w7, .ref w8, .ref w9, .ref w10])), (h1, .inr (0, [.int 0, .int 0, .int 0, .int 0, .int 0, .int 0, .int 0, .int 0, .int 0, .int 0, .ref v0, .ref v1, .ref v2, .ref v3, .ref v4, .ref v5, .ref v6, .ref v7, .ref v8, .ref v9]))] (S := Unit) (fun _ => some (.int (-2))) (fun _ => True) (fun u => [(h0, .inr (11, [.ref w0, .ref h1, .ref w2, .ref w3, .ref w4, .ref w5, .ref w6, .ref w7, .ref w8, .ref w9, .ref w10])), (h1, .inr (0, [.int 0, .int 0, .int 0, .int 0, .int 0, .int 0, .int 0, .int 0, .int 0, .int 0, .ref v0, .ref v1, .ref v2, .ref v3, .ref v4, .ref v5, .ref v6, .ref v7, .ref v8, .ref v9]))]) := by
  refine Ct.of (by decide) (Nat.le_of_ble_eq_true rfl) ?_
  intro p e s m below meth c A ls FX hP hD hS hl
  obtain ⟨FC, hr, hlk, hKn, hA, hnm⟩ := id FX
  have FC : CallFix p m c cX11_gently 3 s _ BIG RX11 := FC
  obtain ⟨hx, hb, hml, hown, hB⟩ := id FC
  have hl : lv_has ls 3 [(0, .ref h0), (1, .int p1), (2, .int p2)] := hl
  refine lv_aload_n hx hb dX11_gently_0 rfl (lv_at hl 0 rfl) ?_
  refine lv_iload_n hx hb dX11_gently_1 rfl (lv_at hl 1 rfl) ?_
  refine lv_iload_n hx hb dX11_gently_2 rfl (lv_at hl 2 rfl) ?_
  refine lv_iconst (v := 1) hx hb dX11_gently_3 (by decide) ?_
  refine lv_iconst (v := 0) hx hb dX11_gently_4 (by decide) ?_
  refine call_V (As := [.int p1, .int p2, .int 1, .int 0]) (rest := []) (wr := []) FC hKn (c_X11_wordOfBest l g h0 h1 w0 w2 w3 w4 w5 w6 w7 w8 w9 w10 v0 v1 v2 v3 v4 v5 v6 v7 v8 v9 p1 p2 1 0) m_yX11_wordOfBest b_21 (ci := 11) rfl rfl rfl hP hD hS hA [0, 1] [] rfl (by decide) rfl (by decide) (by decide) rfl hl.1 rfl (Nat.le_of_ble_eq_true rfl) dX11_gently_5 ⟨(Nat.le_of_ble_eq_true rfl), (Nat.le_of_ble_eq_true rfl)⟩ ⟨(Nat.le_of_ble_eq_true rfl), (Nat.le_of_ble_eq_true rfl)⟩ (fun u1 H locs _ hP hD hS => ?_)
  have hP : va_P g.1 vwCl [(h0, .inr (11, [.ref w0, .ref h1, .ref w2, .ref w3, .ref w4, .ref w5, .ref w6, .ref w7, .ref w8, .ref w9, .ref w10])), (h1, .inr (0, [.int 0, .int 0, .int 0, .int 0, .int 0, .int 0, .int 0, .int 0, .int 0, .int 0, .ref v0, .ref v1, .ref v2, .ref v3, .ref v4, .ref v5, .ref v6, .ref v7, .ref v8, .ref v9]))] H := hP
  have hD : va_D A [(h0, .inr (11, [.ref w0, .ref h1, .ref w2, .ref w3, .ref w4, .ref w5, .ref w6, .ref w7, .ref w8, .ref w9, .ref w10])), (h1, .inr (0, [.int 0, .int 0, .int 0, .int 0, .int 0, .int 0, .int 0, .int 0, .int 0, .int 0, .ref v0, .ref v1, .ref v2, .ref v3, .ref v4, .ref v5, .ref v6, .ref v7, .ref v8, .ref v9]))] := hD
  refine W.eq (g2 := F0 m 8 ls [.int (-2)]) rfl ?_
  exact rt_i FX () rfl trivial (hP.sub [0, 1] rfl) (hD.sub [0, 1] (by decide) rfl) hS (Nat.le_of_ble_eq_true rfl) (Nat.le_of_ble_eq_true rfl) dX11_gently_8
set_option maxRecDepth 100000 in
set_option maxHeartbeats 4000000 in
theorem c_X11_tender (l : Launch) (g : GG) (h0 : Nat) (h1 : Nat) (w0 : Nat) (w2 : Nat) (w3 : Nat) (w4 : Nat) (w5 : Nat) (w6 : Nat) (w7 : Nat) (w8 : Nat) (w9 : Nat) (w10 : Nat) (v0 : Nat) (v1 : Nat) (v2 : Nat) (v3 : Nat) (v4 : Nat) (v5 : Nat) (v6 : Nat) (v7 : Nat) (v8 : Nat) (v9 : Nat) (p1 : Int32) : Ct l g yX11_tender cX11_tender 2 (some .int) { frames := 1, cells := 0, slots := 0, locals := 21 } [.ref h0, .int p1] [(h0, .inr (11, [.ref w0, .ref h1, .ref w2, .ref w3, .ref w4, .ref w5, .ref w6, .ref w7, .ref w8, .ref w9, .ref w10])), (h1, .inr (0, [.int 0, .int 0, .int 0, .int 0, .int 0, .int 0, .int 0, .int 0, .int 0, .int 0, .ref v0, .ref v1, .ref v2, .ref v3, .ref v4, .ref v5, .ref v6, .ref v7, .ref v8, .ref v9]))] (S := Unit) (fun _ => some (.int (-2))) (fun _ => True) (fun u => [(h0, .inr (11, [.ref w0, .ref h1, .ref w2, .ref w3, .ref w4, .ref w5, .ref w6, .ref w7, .ref w8, .ref w9, .ref w10])), (h1, .inr (0, [.int 0, .int 0, .int 0, .int 0, .int 0, .int 0, .int 0, .int 0, .int 0, .int 0, .ref v0, .ref v1, .ref v2, .ref v3, .ref v4, .ref v5, .ref v6, .ref v7, .ref v8, .ref v9]))]) := by
  refine Ct.of (by decide) (Nat.le_of_ble_eq_true rfl) ?_
  intro p e s m below meth c A ls FX hP hD hS hl
  obtain ⟨FC, hr, hlk, hKn, hA, hnm⟩ := id FX
  have FC : CallFix p m c cX11_tender 2 s _ BIG RX11 := FC
  obtain ⟨hx, hb, hml, hown, hB⟩ := id FC
  have hl : lv_has ls 2 [(0, .ref h0), (1, .int p1)] := hl
  refine lv_aload_n hx hb dX11_tender_0 rfl (lv_at hl 0 rfl) ?_
  refine g_get (C := RX11) (T := TX11) (N := 11) (ci := 11) (v := .ref h1) FC hKn hP i_X11 0 rfl rfl 1 (by decide) b_10 rfl dX11_tender_1 ?_
  refine lv_iload_n hx hb dX11_tender_4 rfl (lv_at hl 1 rfl) ?_
  refine call_VN (As := [.int p1]) (rest := []) (wr := [(h0, .inr (11, [.ref w0, .ref h1, .ref w2, .ref w3, .ref w4, .ref w5, .ref w6, .ref w7, .ref w8, .ref w9, .ref w10]))]) FC hKn (c_X0_hasHearer l g h1 v0 v1 v2 v3 v4 v5 v6 v7 v8 v9 p1) m_yX0_hasHearer b_12 (ci := 0) rfl rfl rfl hP hD hS hA [1] [0] rfl (by decide) rfl (by decide) (by decide) rfl hl.1 rfl (Nat.le_of_ble_eq_true rfl) dX11_tender_5 ⟨(Nat.le_of_ble_eq_true rfl), (Nat.le_of_ble_eq_true rfl)⟩ ⟨(Nat.le_of_ble_eq_true rfl), (Nat.le_of_ble_eq_true rfl)⟩ (fun u1 H locs _ hP hD hS => ?_)
  have hP : va_P g.1 vwCl [(h0, .inr (11, [.ref w0, .ref h1, .ref w2, .ref w3, .ref w4, .ref w5, .ref w6, .ref w7, .ref w8, .ref w9, .ref w10])), (h1, .inr (0, [.int 0, .int 0, .int 0, .int 0, .int 0, .int 0, .int 0, .int 0, .int 0, .int 0, .ref v0, .ref v1, .ref v2, .ref v3, .ref v4, .ref v5, .ref v6, .ref v7, .ref v8, .ref v9]))] H := hP
  have hD : va_D A [(h0, .inr (11, [.ref w0, .ref h1, .ref w2, .ref w3, .ref w4, .ref w5, .ref w6, .ref w7, .ref w8, .ref w9, .ref w10])), (h1, .inr (0, [.int 0, .int 0, .int 0, .int 0, .int 0, .int 0, .int 0, .int 0, .int 0, .int 0, .ref v0, .ref v1, .ref v2, .ref v3, .ref v4, .ref v5, .ref v6, .ref v7, .ref v8, .ref v9]))] := hD
  refine W.eq (g2 := F0 m 8 ls [.int 0]) rfl ?_
  refine lv_if_eq (tgt := 21) hx hb dX11_tender_8 (by decide) (fun _ => ?_) (fun h => absurd h (by decide))
  refine lv_bipush (v := -2) hx hb dX11_tender_21 (by decide) ?_
  exact rt_i FX () rfl trivial (hP.sub [0, 1] rfl) (hD.sub [0, 1] (by decide) rfl) hS (Nat.le_of_ble_eq_true rfl) (Nat.le_of_ble_eq_true rfl) dX11_tender_23
set_option maxRecDepth 100000 in
set_option maxHeartbeats 4000000 in
theorem c_X11_tenderly (l : Launch) (g : GG) (h0 : Nat) (h1 : Nat) (w0 : Nat) (w2 : Nat) (w3 : Nat) (w4 : Nat) (w5 : Nat) (w6 : Nat) (w7 : Nat) (w8 : Nat) (w9 : Nat) (w10 : Nat) (v0 : Nat) (v1 : Nat) (v2 : Nat) (v3 : Nat) (v4 : Nat) (v5 : Nat) (v6 : Nat) (v7 : Nat) (v8 : Nat) (v9 : Nat) (p1 : Int32) (p2 : Int32) : Ct l g yX11_tenderly cX11_tenderly 3 (some .int) { frames := 2, cells := 0, slots := 0, locals := 45 } [.ref h0, .int p1, .int p2] [(h0, .inr (11, [.ref w0, .ref h1, .ref w2, .ref w3, .ref w4, .ref w5, .ref w6, .ref w7, .ref w8, .ref w9, .ref w10])), (h1, .inr (0, [.int 0, .int 0, .int 0, .int 0, .int 0, .int 0, .int 0, .int 0, .int 0, .int 0, .ref v0, .ref v1, .ref v2, .ref v3, .ref v4, .ref v5, .ref v6, .ref v7, .ref v8, .ref v9]))] (S := Unit) (fun _ => some (.int (-2))) (fun _ => True) (fun u => [(h0, .inr (11, [.ref w0, .ref h1, .ref w2, .ref w3, .ref w4, .ref w5, .ref w6, .ref w7, .ref w8, .ref w9, .ref w10])), (h1, .inr (0, [.int 0, .int 0, .int 0, .int 0, .int 0, .int 0, .int 0, .int 0, .int 0, .int 0, .ref v0, .ref v1, .ref v2, .ref v3, .ref v4, .ref v5, .ref v6, .ref v7, .ref v8, .ref v9]))]) := by
  refine Ct.of (by decide) (Nat.le_of_ble_eq_true rfl) ?_
  intro p e s m below meth c A ls FX hP hD hS hl
  obtain ⟨FC, hr, hlk, hKn, hA, hnm⟩ := id FX
  have FC : CallFix p m c cX11_tenderly 3 s _ BIG RX11 := FC
  obtain ⟨hx, hb, hml, hown, hB⟩ := id FC
  have hl : lv_has ls 3 [(0, .ref h0), (1, .int p1), (2, .int p2)] := hl
  refine lv_aload_n hx hb dX11_tenderly_0 rfl (lv_at hl 0 rfl) ?_
  refine lv_iload_n hx hb dX11_tenderly_1 rfl (lv_at hl 1 rfl) ?_
  refine lv_iload_n hx hb dX11_tenderly_2 rfl (lv_at hl 2 rfl) ?_
  refine lv_iconst (v := 1) hx hb dX11_tenderly_3 (by decide) ?_
  refine lv_iconst (v := 1) hx hb dX11_tenderly_4 (by decide) ?_
  refine call_V (As := [.int p1, .int p2, .int 1, .int 1]) (rest := []) (wr := []) FC hKn (c_X11_wordOfBest l g h0 h1 w0 w2 w3 w4 w5 w6 w7 w8 w9 w10 v0 v1 v2 v3 v4 v5 v6 v7 v8 v9 p1 p2 1 1) m_yX11_wordOfBest b_21 (ci := 11) rfl rfl rfl hP hD hS hA [0, 1] [] rfl (by decide) rfl (by decide) (by decide) rfl hl.1 rfl (Nat.le_of_ble_eq_true rfl) dX11_tenderly_5 ⟨(Nat.le_of_ble_eq_true rfl), (Nat.le_of_ble_eq_true rfl)⟩ ⟨(Nat.le_of_ble_eq_true rfl), (Nat.le_of_ble_eq_true rfl)⟩ (fun u1 H locs _ hP hD hS => ?_)
  have hP : va_P g.1 vwCl [(h0, .inr (11, [.ref w0, .ref h1, .ref w2, .ref w3, .ref w4, .ref w5, .ref w6, .ref w7, .ref w8, .ref w9, .ref w10])), (h1, .inr (0, [.int 0, .int 0, .int 0, .int 0, .int 0, .int 0, .int 0, .int 0, .int 0, .int 0, .ref v0, .ref v1, .ref v2, .ref v3, .ref v4, .ref v5, .ref v6, .ref v7, .ref v8, .ref v9]))] H := hP
  have hD : va_D A [(h0, .inr (11, [.ref w0, .ref h1, .ref w2, .ref w3, .ref w4, .ref w5, .ref w6, .ref w7, .ref w8, .ref w9, .ref w10])), (h1, .inr (0, [.int 0, .int 0, .int 0, .int 0, .int 0, .int 0, .int 0, .int 0, .int 0, .int 0, .ref v0, .ref v1, .ref v2, .ref v3, .ref v4, .ref v5, .ref v6, .ref v7, .ref v8, .ref v9]))] := hD
  refine W.eq (g2 := F0 m 8 ls [.int (-2)]) rfl ?_
  exact rt_i FX () rfl trivial (hP.sub [0, 1] rfl) (hD.sub [0, 1] (by decide) rfl) hS (Nat.le_of_ble_eq_true rfl) (Nat.le_of_ble_eq_true rfl) dX11_tenderly_8
set_option maxRecDepth 100000 in
set_option maxHeartbeats 4000000 in
theorem c_X11_hope (l : Launch) (g : GG) (h0 : Nat) (h1 : Nat) (w0 : Nat) (w2 : Nat) (w3 : Nat) (w4 : Nat) (w5 : Nat) (w6 : Nat) (w7 : Nat) (w8 : Nat) (w9 : Nat) (w10 : Nat) (v0 : Nat) (v1 : Nat) (v2 : Nat) (v3 : Nat) (v4 : Nat) (v5 : Nat) (v6 : Nat) (v7 : Nat) (v8 : Nat) (v9 : Nat) (p1 : Int32) (p2 : Int32) (p3 : Int32) (p4 : Int32) : Ct l g yX11_hope cX11_hope 6 (some .int) { frames := 1, cells := 0, slots := 0, locals := 21 } [.ref h0, .int p1, .int p2, .int p3, .int p4] [(h0, .inr (11, [.ref w0, .ref h1, .ref w2, .ref w3, .ref w4, .ref w5, .ref w6, .ref w7, .ref w8, .ref w9, .ref w10])), (h1, .inr (0, [.int 0, .int 0, .int 0, .int 0, .int 0, .int 0, .int 0, .int 0, .int 0, .int 0, .ref v0, .ref v1, .ref v2, .ref v3, .ref v4, .ref v5, .ref v6, .ref v7, .ref v8, .ref v9]))] (S := Unit) (fun _ => some (.int (-2))) (fun _ => True) (fun u => [(h0, .inr (11, [.ref w0, .ref h1, .ref w2, .ref w3, .ref w4, .ref w5, .ref w6, .ref w7, .ref w8, .ref w9, .ref w10])), (h1, .inr (0, [.int 0, .int 0, .int 0, .int 0, .int 0, .int 0, .int 0, .int 0, .int 0, .int 0, .ref v0, .ref v1, .ref v2, .ref v3, .ref v4, .ref v5, .ref v6, .ref v7, .ref v8, .ref v9]))]) := by
  refine Ct.of (by decide) (Nat.le_of_ble_eq_true rfl) ?_
  intro p e s m below meth c A ls FX hP hD hS hl
  obtain ⟨FC, hr, hlk, hKn, hA, hnm⟩ := id FX
  have FC : CallFix p m c cX11_hope 6 s _ BIG RX11 := FC
  obtain ⟨hx, hb, hml, hown, hB⟩ := id FC
  have hl : lv_has ls 6 [(0, .ref h0), (1, .int p1), (2, .int p2), (3, .int p3), (4, .int p4)] := hl
  refine lv_aload_n hx hb dX11_hope_0 rfl (lv_at hl 0 rfl) ?_
  refine g_get (C := RX11) (T := TX11) (N := 11) (ci := 11) (v := .ref h1) FC hKn hP i_X11 0 rfl rfl 1 (by decide) b_10 rfl dX11_hope_1 ?_
  refine lv_iload_n hx hb dX11_hope_4 rfl (lv_at hl 2 rfl) ?_
  refine call_VN (As := [.int p2]) (rest := []) (wr := [(h0, .inr (11, [.ref w0, .ref h1, .ref w2, .ref w3, .ref w4, .ref w5, .ref w6, .ref w7, .ref w8, .ref w9, .ref w10]))]) FC hKn (c_X0_hasHearer l g h1 v0 v1 v2 v3 v4 v5 v6 v7 v8 v9 p2) m_yX0_hasHearer b_12 (ci := 0) rfl rfl rfl hP hD hS hA [1] [0] rfl (by decide) rfl (by decide) (by decide) rfl hl.1 rfl (Nat.le_of_ble_eq_true rfl) dX11_hope_5 ⟨(Nat.le_of_ble_eq_true rfl), (Nat.le_of_ble_eq_true rfl)⟩ ⟨(Nat.le_of_ble_eq_true rfl), (Nat.le_of_ble_eq_true rfl)⟩ (fun u1 H locs _ hP hD hS => ?_)
  have hP : va_P g.1 vwCl [(h0, .inr (11, [.ref w0, .ref h1, .ref w2, .ref w3, .ref w4, .ref w5, .ref w6, .ref w7, .ref w8, .ref w9, .ref w10])), (h1, .inr (0, [.int 0, .int 0, .int 0, .int 0, .int 0, .int 0, .int 0, .int 0, .int 0, .int 0, .ref v0, .ref v1, .ref v2, .ref v3, .ref v4, .ref v5, .ref v6, .ref v7, .ref v8, .ref v9]))] H := hP
  have hD : va_D A [(h0, .inr (11, [.ref w0, .ref h1, .ref w2, .ref w3, .ref w4, .ref w5, .ref w6, .ref w7, .ref w8, .ref w9, .ref w10])), (h1, .inr (0, [.int 0, .int 0, .int 0, .int 0, .int 0, .int 0, .int 0, .int 0, .int 0, .int 0, .ref v0, .ref v1, .ref v2, .ref v3, .ref v4, .ref v5, .ref v6, .ref v7, .ref v8, .ref v9]))] := hD
  refine W.eq (g2 := F0 m 8 ls [.int 0]) rfl ?_
  refine lv_if_eq (tgt := 33) hx hb dX11_hope_8 (by decide) (fun _ => ?_) (fun h => absurd h (by decide))
  refine lv_bipush (v := -2) hx hb dX11_hope_33 (by decide) ?_
  exact rt_i FX () rfl trivial (hP.sub [0, 1] rfl) (hD.sub [0, 1] (by decide) rfl) hS (Nat.le_of_ble_eq_true rfl) (Nat.le_of_ble_eq_true rfl) dX11_hope_35
set_option maxRecDepth 100000 in
set_option maxHeartbeats 4000000 in
theorem c_X11_fewest (l : Launch) (g : GG) (h0 : Nat) (h1 : Nat) (w0 : Nat) (w2 : Nat) (w3 : Nat) (w4 : Nat) (w5 : Nat) (w6 : Nat) (w7 : Nat) (w8 : Nat) (w9 : Nat) (w10 : Nat) (v0 : Nat) (v1 : Nat) (v2 : Nat) (v3 : Nat) (v4 : Nat) (v5 : Nat) (v6 : Nat) (v7 : Nat) (v8 : Nat) (v9 : Nat) : Ct l g yX11_fewest cX11_fewest 2 (some .int) { frames := 1, cells := 0, slots := 0, locals := 20 } [.ref h0] [(h0, .inr (11, [.ref w0, .ref h1, .ref w2, .ref w3, .ref w4, .ref w5, .ref w6, .ref w7, .ref w8, .ref w9, .ref w10])), (h1, .inr (0, [.int 0, .int 0, .int 0, .int 0, .int 0, .int 0, .int 0, .int 0, .int 0, .int 0, .ref v0, .ref v1, .ref v2, .ref v3, .ref v4, .ref v5, .ref v6, .ref v7, .ref v8, .ref v9]))] (S := Unit) (fun _ => some (.int (-2))) (fun _ => True) (fun u => [(h0, .inr (11, [.ref w0, .ref h1, .ref w2, .ref w3, .ref w4, .ref w5, .ref w6, .ref w7, .ref w8, .ref w9, .ref w10])), (h1, .inr (0, [.int 0, .int 0, .int 0, .int 0, .int 0, .int 0, .int 0, .int 0, .int 0, .int 0, .ref v0, .ref v1, .ref v2, .ref v3, .ref v4, .ref v5, .ref v6, .ref v7, .ref v8, .ref v9]))]) := by
  refine Ct.of (by decide) (Nat.le_of_ble_eq_true rfl) ?_
  intro p e s m below meth c A ls FX hP hD hS hl
  obtain ⟨FC, hr, hlk, hKn, hA, hnm⟩ := id FX
  have FC : CallFix p m c cX11_fewest 2 s _ BIG RX11 := FC
  obtain ⟨hx, hb, hml, hown, hB⟩ := id FC
  have hl : lv_has ls 2 [(0, .ref h0)] := hl
  refine lv_aload_n hx hb dX11_fewest_0 rfl (lv_at hl 0 rfl) ?_
  refine g_get (C := RX11) (T := TX11) (N := 11) (ci := 11) (v := .ref h1) FC hKn hP i_X11 0 rfl rfl 1 (by decide) b_10 rfl dX11_fewest_1 ?_
  refine call_VN (As := []) (rest := []) (wr := [(h0, .inr (11, [.ref w0, .ref h1, .ref w2, .ref w3, .ref w4, .ref w5, .ref w6, .ref w7, .ref w8, .ref w9, .ref w10]))]) FC hKn (c_X0_stands l g h1 v0 v1 v2 v3 v4 v5 v6 v7 v8 v9) m_yX0_stands b_11 (ci := 0) rfl rfl rfl hP hD hS hA [1] [0] rfl (by decide) rfl (by decide) (by decide) rfl hl.1 rfl (Nat.le_of_ble_eq_true rfl) dX11_fewest_4 ⟨(Nat.le_of_ble_eq_true rfl), (Nat.le_of_ble_eq_true rfl)⟩ ⟨(Nat.le_of_ble_eq_true rfl), (Nat.le_of_ble_eq_true rfl)⟩ (fun u1 H locs _ hP hD hS => ?_)
  have hP : va_P g.1 vwCl [(h0, .inr (11, [.ref w0, .ref h1, .ref w2, .ref w3, .ref w4, .ref w5, .ref w6, .ref w7, .ref w8, .ref w9, .ref w10])), (h1, .inr (0, [.int 0, .int 0, .int 0, .int 0, .int 0, .int 0, .int 0, .int 0, .int 0, .int 0, .ref v0, .ref v1, .ref v2, .ref v3, .ref v4, .ref v5, .ref v6, .ref v7, .ref v8, .ref v9]))] H := hP
  have hD : va_D A [(h0, .inr (11, [.ref w0, .ref h1, .ref w2, .ref w3, .ref w4, .ref w5, .ref w6, .ref w7, .ref w8, .ref w9, .ref w10])), (h1, .inr (0, [.int 0, .int 0, .int 0, .int 0, .int 0, .int 0, .int 0, .int 0, .int 0, .int 0, .ref v0, .ref v1, .ref v2, .ref v3, .ref v4, .ref v5, .ref v6, .ref v7, .ref v8, .ref v9]))] := hD
  refine W.eq (g2 := F0 m 7 ls [.int 0]) rfl ?_
  refine lv_if_ne (tgt := 13) hx hb dX11_fewest_7 (by decide) (fun h => absurd h (by decide)) (fun _ => ?_)
  refine lv_bipush (v := -2) hx hb dX11_fewest_10 (by decide) ?_
  exact rt_i FX () rfl trivial (hP.sub [0, 1] rfl) (hD.sub [0, 1] (by decide) rfl) hS (Nat.le_of_ble_eq_true rfl) (Nat.le_of_ble_eq_true rfl) dX11_fewest_12
set_option maxRecDepth 100000 in
set_option maxHeartbeats 4000000 in
theorem c_X11_once (l : Launch) (g : GG) (h0 : Nat) (h1 : Nat) (w0 : Nat) (w2 : Nat) (w3 : Nat) (w4 : Nat) (w5 : Nat) (w6 : Nat) (w7 : Nat) (w8 : Nat) (w9 : Nat) (w10 : Nat) (v0 : Nat) (v1 : Nat) (v2 : Nat) (v3 : Nat) (v4 : Nat) (v5 : Nat) (v6 : Nat) (v7 : Nat) (v8 : Nat) (v9 : Nat) (p1 : Int32) : Ct l g yX11_once cX11_once 2 (some .int) { frames := 1, cells := 0, slots := 0, locals := 21 } [.ref h0, .int p1] [(h0, .inr (11, [.ref w0, .ref h1, .ref w2, .ref w3, .ref w4, .ref w5, .ref w6, .ref w7, .ref w8, .ref w9, .ref w10])), (h1, .inr (0, [.int 0, .int 0, .int 0, .int 0, .int 0, .int 0, .int 0, .int 0, .int 0, .int 0, .ref v0, .ref v1, .ref v2, .ref v3, .ref v4, .ref v5, .ref v6, .ref v7, .ref v8, .ref v9]))] (S := Unit) (fun _ => some (.int (-2))) (fun _ => True) (fun u => [(h0, .inr (11, [.ref w0, .ref h1, .ref w2, .ref w3, .ref w4, .ref w5, .ref w6, .ref w7, .ref w8, .ref w9, .ref w10])), (h1, .inr (0, [.int 0, .int 0, .int 0, .int 0, .int 0, .int 0, .int 0, .int 0, .int 0, .int 0, .ref v0, .ref v1, .ref v2, .ref v3, .ref v4, .ref v5, .ref v6, .ref v7, .ref v8, .ref v9]))]) := by
  refine Ct.of (by decide) (Nat.le_of_ble_eq_true rfl) ?_
  intro p e s m below meth c A ls FX hP hD hS hl
  obtain ⟨FC, hr, hlk, hKn, hA, hnm⟩ := id FX
  have FC : CallFix p m c cX11_once 2 s _ BIG RX11 := FC
  obtain ⟨hx, hb, hml, hown, hB⟩ := id FC
  have hl : lv_has ls 2 [(0, .ref h0), (1, .int p1)] := hl
  refine lv_aload_n hx hb dX11_once_0 rfl (lv_at hl 0 rfl) ?_
  refine g_get (C := RX11) (T := TX11) (N := 11) (ci := 11) (v := .ref h1) FC hKn hP i_X11 0 rfl rfl 1 (by decide) b_10 rfl dX11_once_1 ?_
  refine lv_iload_n hx hb dX11_once_4 rfl (lv_at hl 1 rfl) ?_
  refine call_VN (As := [.int p1]) (rest := []) (wr := [(h0, .inr (11, [.ref w0, .ref h1, .ref w2, .ref w3, .ref w4, .ref w5, .ref w6, .ref w7, .ref w8, .ref w9, .ref w10]))]) FC hKn (c_X0_hasHearer l g h1 v0 v1 v2 v3 v4 v5 v6 v7 v8 v9 p1) m_yX0_hasHearer b_12 (ci := 0) rfl rfl rfl hP hD hS hA [1] [0] rfl (by decide) rfl (by decide) (by decide) rfl hl.1 rfl (Nat.le_of_ble_eq_true rfl) dX11_once_5 ⟨(Nat.le_of_ble_eq_true rfl), (Nat.le_of_ble_eq_true rfl)⟩ ⟨(Nat.le_of_ble_eq_true rfl), (Nat.le_of_ble_eq_true rfl)⟩ (fun u1 H locs _ hP hD hS => ?_)
  have hP : va_P g.1 vwCl [(h0, .inr (11, [.ref w0, .ref h1, .ref w2, .ref w3, .ref w4, .ref w5, .ref w6, .ref w7, .ref w8, .ref w9, .ref w10])), (h1, .inr (0, [.int 0, .int 0, .int 0, .int 0, .int 0, .int 0, .int 0, .int 0, .int 0, .int 0, .ref v0, .ref v1, .ref v2, .ref v3, .ref v4, .ref v5, .ref v6, .ref v7, .ref v8, .ref v9]))] H := hP
  have hD : va_D A [(h0, .inr (11, [.ref w0, .ref h1, .ref w2, .ref w3, .ref w4, .ref w5, .ref w6, .ref w7, .ref w8, .ref w9, .ref w10])), (h1, .inr (0, [.int 0, .int 0, .int 0, .int 0, .int 0, .int 0, .int 0, .int 0, .int 0, .int 0, .ref v0, .ref v1, .ref v2, .ref v3, .ref v4, .ref v5, .ref v6, .ref v7, .ref v8, .ref v9]))] := hD
  refine W.eq (g2 := F0 m 8 ls [.int 0]) rfl ?_
  refine lv_if_eq (tgt := 22) hx hb dX11_once_8 (by decide) (fun _ => ?_) (fun h => absurd h (by decide))
  refine lv_bipush (v := -2) hx hb dX11_once_22 (by decide) ?_
  exact rt_i FX () rfl trivial (hP.sub [0, 1] rfl) (hD.sub [0, 1] (by decide) rfl) hS (Nat.le_of_ble_eq_true rfl) (Nat.le_of_ble_eq_true rfl) dX11_once_24
set_option maxRecDepth 100000 in
set_option maxHeartbeats 4000000 in
theorem c_X11_late (l : Launch) (g : GG) (h0 : Nat) (h1 : Nat) (w0 : Nat) (w2 : Nat) (w3 : Nat) (w4 : Nat) (w5 : Nat) (w6 : Nat) (w7 : Nat) (w8 : Nat) (w9 : Nat) (w10 : Nat) (v0 : Nat) (v1 : Nat) (v2 : Nat) (v3 : Nat) (v4 : Nat) (v5 : Nat) (v6 : Nat) (v7 : Nat) (v8 : Nat) (v9 : Nat) (p1 : Int32) (p2 : Int32) : Ct l g yX11_late cX11_late 5 (some .int) { frames := 1, cells := 0, slots := 0, locals := 21 } [.ref h0, .int p1, .int p2] [(h0, .inr (11, [.ref w0, .ref h1, .ref w2, .ref w3, .ref w4, .ref w5, .ref w6, .ref w7, .ref w8, .ref w9, .ref w10])), (h1, .inr (0, [.int 0, .int 0, .int 0, .int 0, .int 0, .int 0, .int 0, .int 0, .int 0, .int 0, .ref v0, .ref v1, .ref v2, .ref v3, .ref v4, .ref v5, .ref v6, .ref v7, .ref v8, .ref v9]))] (S := Unit) (fun _ => some (.int (-2))) (fun _ => True) (fun u => [(h0, .inr (11, [.ref w0, .ref h1, .ref w2, .ref w3, .ref w4, .ref w5, .ref w6, .ref w7, .ref w8, .ref w9, .ref w10])), (h1, .inr (0, [.int 0, .int 0, .int 0, .int 0, .int 0, .int 0, .int 0, .int 0, .int 0, .int 0, .ref v0, .ref v1, .ref v2, .ref v3, .ref v4, .ref v5, .ref v6, .ref v7, .ref v8, .ref v9]))]) := by
  refine Ct.of (by decide) (Nat.le_of_ble_eq_true rfl) ?_
  intro p e s m below meth c A ls FX hP hD hS hl
  obtain ⟨FC, hr, hlk, hKn, hA, hnm⟩ := id FX
  have FC : CallFix p m c cX11_late 5 s _ BIG RX11 := FC
  obtain ⟨hx, hb, hml, hown, hB⟩ := id FC
  have hl : lv_has ls 5 [(0, .ref h0), (1, .int p1), (2, .int p2)] := hl
  refine lv_aload_n hx hb dX11_late_0 rfl (lv_at hl 0 rfl) ?_
  refine g_get (C := RX11) (T := TX11) (N := 11) (ci := 11) (v := .ref h1) FC hKn hP i_X11 0 rfl rfl 1 (by decide) b_10 rfl dX11_late_1 ?_
  refine lv_iload_n hx hb dX11_late_4 rfl (lv_at hl 1 rfl) ?_
  refine call_VN (As := [.int p1]) (rest := []) (wr := [(h0, .inr (11, [.ref w0, .ref h1, .ref w2, .ref w3, .ref w4, .ref w5, .ref w6, .ref w7, .ref w8, .ref w9, .ref w10]))]) FC hKn (c_X0_hasHearer l g h1 v0 v1 v2 v3 v4 v5 v6 v7 v8 v9 p1) m_yX0_hasHearer b_12 (ci := 0) rfl rfl rfl hP hD hS hA [1] [0] rfl (by decide) rfl (by decide) (by decide) rfl hl.1 rfl (Nat.le_of_ble_eq_true rfl) dX11_late_5 ⟨(Nat.le_of_ble_eq_true rfl), (Nat.le_of_ble_eq_true rfl)⟩ ⟨(Nat.le_of_ble_eq_true rfl), (Nat.le_of_ble_eq_true rfl)⟩ (fun u1 H locs _ hP hD hS => ?_)
  have hP : va_P g.1 vwCl [(h0, .inr (11, [.ref w0, .ref h1, .ref w2, .ref w3, .ref w4, .ref w5, .ref w6, .ref w7, .ref w8, .ref w9, .ref w10])), (h1, .inr (0, [.int 0, .int 0, .int 0, .int 0, .int 0, .int 0, .int 0, .int 0, .int 0, .int 0, .ref v0, .ref v1, .ref v2, .ref v3, .ref v4, .ref v5, .ref v6, .ref v7, .ref v8, .ref v9]))] H := hP
  have hD : va_D A [(h0, .inr (11, [.ref w0, .ref h1, .ref w2, .ref w3, .ref w4, .ref w5, .ref w6, .ref w7, .ref w8, .ref w9, .ref w10])), (h1, .inr (0, [.int 0, .int 0, .int 0, .int 0, .int 0, .int 0, .int 0, .int 0, .int 0, .int 0, .ref v0, .ref v1, .ref v2, .ref v3, .ref v4, .ref v5, .ref v6, .ref v7, .ref v8, .ref v9]))] := hD
  refine W.eq (g2 := F0 m 8 ls [.int 0]) rfl ?_
  refine lv_if_eq (tgt := 15) hx hb dX11_late_8 (by decide) (fun _ => ?_) (fun h => absurd h (by decide))
  refine lv_bipush (v := -2) hx hb dX11_late_15 (by decide) ?_
  exact rt_i FX () rfl trivial (hP.sub [0, 1] rfl) (hD.sub [0, 1] (by decide) rfl) hS (Nat.le_of_ble_eq_true rfl) (Nat.le_of_ble_eq_true rfl) dX11_late_17
set_option maxRecDepth 100000 in
set_option maxHeartbeats 4000000 in
theorem c_X11_calm (l : Launch) (g : GG) (h0 : Nat) (h1 : Nat) (w0 : Nat) (w2 : Nat) (w3 : Nat) (w4 : Nat) (w5 : Nat) (w6 : Nat) (w7 : Nat) (w8 : Nat) (w9 : Nat) (w10 : Nat) (v0 : Nat) (v1 : Nat) (v2 : Nat) (v3 : Nat) (v4 : Nat) (v5 : Nat) (v6 : Nat) (v7 : Nat) (v8 : Nat) (v9 : Nat) (p1 : Int32) (p2 : Int32) : Ct l g yX11_calm cX11_calm 5 (some .int) { frames := 1, cells := 0, slots := 0, locals := 21 } [.ref h0, .int p1, .int p2] [(h0, .inr (11, [.ref w0, .ref h1, .ref w2, .ref w3, .ref w4, .ref w5, .ref w6, .ref w7, .ref w8, .ref w9, .ref w10])), (h1, .inr (0, [.int 0, .int 0, .int 0, .int 0, .int 0, .int 0, .int 0, .int 0, .int 0, .int 0, .ref v0, .ref v1, .ref v2, .ref v3, .ref v4, .ref v5, .ref v6, .ref v7, .ref v8, .ref v9]))] (S := Unit) (fun _ => some (.int (-2))) (fun _ => True) (fun u => [(h0, .inr (11, [.ref w0, .ref h1, .ref w2, .ref w3, .ref w4, .ref w5, .ref w6, .ref w7, .ref w8, .ref w9, .ref w10])), (h1, .inr (0, [.int 0, .int 0, .int 0, .int 0, .int 0, .int 0, .int 0, .int 0, .int 0, .int 0, .ref v0, .ref v1, .ref v2, .ref v3, .ref v4, .ref v5, .ref v6, .ref v7, .ref v8, .ref v9]))]) := by
  refine Ct.of (by decide) (Nat.le_of_ble_eq_true rfl) ?_
  intro p e s m below meth c A ls FX hP hD hS hl
  obtain ⟨FC, hr, hlk, hKn, hA, hnm⟩ := id FX
  have FC : CallFix p m c cX11_calm 5 s _ BIG RX11 := FC
  obtain ⟨hx, hb, hml, hown, hB⟩ := id FC
  have hl : lv_has ls 5 [(0, .ref h0), (1, .int p1), (2, .int p2)] := hl
  refine lv_aload_n hx hb dX11_calm_0 rfl (lv_at hl 0 rfl) ?_
  refine g_get (C := RX11) (T := TX11) (N := 11) (ci := 11) (v := .ref h1) FC hKn hP i_X11 0 rfl rfl 1 (by decide) b_10 rfl dX11_calm_1 ?_
  refine lv_iload_n hx hb dX11_calm_4 rfl (lv_at hl 1 rfl) ?_
  refine call_VN (As := [.int p1]) (rest := []) (wr := [(h0, .inr (11, [.ref w0, .ref h1, .ref w2, .ref w3, .ref w4, .ref w5, .ref w6, .ref w7, .ref w8, .ref w9, .ref w10]))]) FC hKn (c_X0_hasHearer l g h1 v0 v1 v2 v3 v4 v5 v6 v7 v8 v9 p1) m_yX0_hasHearer b_12 (ci := 0) rfl rfl rfl hP hD hS hA [1] [0] rfl (by decide) rfl (by decide) (by decide) rfl hl.1 rfl (Nat.le_of_ble_eq_true rfl) dX11_calm_5 ⟨(Nat.le_of_ble_eq_true rfl), (Nat.le_of_ble_eq_true rfl)⟩ ⟨(Nat.le_of_ble_eq_true rfl), (Nat.le_of_ble_eq_true rfl)⟩ (fun u1 H locs _ hP hD hS => ?_)
  have hP : va_P g.1 vwCl [(h0, .inr (11, [.ref w0, .ref h1, .ref w2, .ref w3, .ref w4, .ref w5, .ref w6, .ref w7, .ref w8, .ref w9, .ref w10])), (h1, .inr (0, [.int 0, .int 0, .int 0, .int 0, .int 0, .int 0, .int 0, .int 0, .int 0, .int 0, .ref v0, .ref v1, .ref v2, .ref v3, .ref v4, .ref v5, .ref v6, .ref v7, .ref v8, .ref v9]))] H := hP
  have hD : va_D A [(h0, .inr (11, [.ref w0, .ref h1, .ref w2, .ref w3, .ref w4, .ref w5, .ref w6, .ref w7, .ref w8, .ref w9, .ref w10])), (h1, .inr (0, [.int 0, .int 0, .int 0, .int 0, .int 0, .int 0, .int 0, .int 0, .int 0, .int 0, .ref v0, .ref v1, .ref v2, .ref v3, .ref v4, .ref v5, .ref v6, .ref v7, .ref v8, .ref v9]))] := hD
  refine W.eq (g2 := F0 m 8 ls [.int 0]) rfl ?_
  refine lv_if_eq (tgt := 22) hx hb dX11_calm_8 (by decide) (fun _ => ?_) (fun h => absurd h (by decide))
  refine lv_bipush (v := -2) hx hb dX11_calm_22 (by decide) ?_
  exact rt_i FX () rfl trivial (hP.sub [0, 1] rfl) (hD.sub [0, 1] (by decide) rfl) hS (Nat.le_of_ble_eq_true rfl) (Nat.le_of_ble_eq_true rfl) dX11_calm_24
set_option maxRecDepth 100000 in
set_option maxHeartbeats 4000000 in
theorem c_X11_shock (l : Launch) (g : GG) (h0 : Nat) (h1 : Nat) (w0 : Nat) (w2 : Nat) (w3 : Nat) (w4 : Nat) (w5 : Nat) (w6 : Nat) (w7 : Nat) (w8 : Nat) (w9 : Nat) (w10 : Nat) (v0 : Nat) (v1 : Nat) (v2 : Nat) (v3 : Nat) (v4 : Nat) (v5 : Nat) (v6 : Nat) (v7 : Nat) (v8 : Nat) (v9 : Nat) (p1 : Int32) : Ct l g yX11_shock cX11_shock 6 (some .int) { frames := 1, cells := 0, slots := 0, locals := 21 } [.ref h0, .int p1] [(h0, .inr (11, [.ref w0, .ref h1, .ref w2, .ref w3, .ref w4, .ref w5, .ref w6, .ref w7, .ref w8, .ref w9, .ref w10])), (h1, .inr (0, [.int 0, .int 0, .int 0, .int 0, .int 0, .int 0, .int 0, .int 0, .int 0, .int 0, .ref v0, .ref v1, .ref v2, .ref v3, .ref v4, .ref v5, .ref v6, .ref v7, .ref v8, .ref v9]))] (S := Unit) (fun _ => some (.int (-2))) (fun _ => True) (fun u => [(h0, .inr (11, [.ref w0, .ref h1, .ref w2, .ref w3, .ref w4, .ref w5, .ref w6, .ref w7, .ref w8, .ref w9, .ref w10])), (h1, .inr (0, [.int 0, .int 0, .int 0, .int 0, .int 0, .int 0, .int 0, .int 0, .int 0, .int 0, .ref v0, .ref v1, .ref v2, .ref v3, .ref v4, .ref v5, .ref v6, .ref v7, .ref v8, .ref v9]))]) := by
  refine Ct.of (by decide) (Nat.le_of_ble_eq_true rfl) ?_
  intro p e s m below meth c A ls FX hP hD hS hl
  obtain ⟨FC, hr, hlk, hKn, hA, hnm⟩ := id FX
  have FC : CallFix p m c cX11_shock 6 s _ BIG RX11 := FC
  obtain ⟨hx, hb, hml, hown, hB⟩ := id FC
  have hl : lv_has ls 6 [(0, .ref h0), (1, .int p1)] := hl
  refine lv_aload_n hx hb dX11_shock_0 rfl (lv_at hl 0 rfl) ?_
  refine g_get (C := RX11) (T := TX11) (N := 11) (ci := 11) (v := .ref h1) FC hKn hP i_X11 0 rfl rfl 1 (by decide) b_10 rfl dX11_shock_1 ?_
  refine lv_iload_n hx hb dX11_shock_4 rfl (lv_at hl 1 rfl) ?_
  refine call_VN (As := [.int p1]) (rest := []) (wr := [(h0, .inr (11, [.ref w0, .ref h1, .ref w2, .ref w3, .ref w4, .ref w5, .ref w6, .ref w7, .ref w8, .ref w9, .ref w10]))]) FC hKn (c_X0_hasHearer l g h1 v0 v1 v2 v3 v4 v5 v6 v7 v8 v9 p1) m_yX0_hasHearer b_12 (ci := 0) rfl rfl rfl hP hD hS hA [1] [0] rfl (by decide) rfl (by decide) (by decide) rfl hl.1 rfl (Nat.le_of_ble_eq_true rfl) dX11_shock_5 ⟨(Nat.le_of_ble_eq_true rfl), (Nat.le_of_ble_eq_true rfl)⟩ ⟨(Nat.le_of_ble_eq_true rfl), (Nat.le_of_ble_eq_true rfl)⟩ (fun u1 H locs _ hP hD hS => ?_)
  have hP : va_P g.1 vwCl [(h0, .inr (11, [.ref w0, .ref h1, .ref w2, .ref w3, .ref w4, .ref w5, .ref w6, .ref w7, .ref w8, .ref w9, .ref w10])), (h1, .inr (0, [.int 0, .int 0, .int 0, .int 0, .int 0, .int 0, .int 0, .int 0, .int 0, .int 0, .ref v0, .ref v1, .ref v2, .ref v3, .ref v4, .ref v5, .ref v6, .ref v7, .ref v8, .ref v9]))] H := hP
  have hD : va_D A [(h0, .inr (11, [.ref w0, .ref h1, .ref w2, .ref w3, .ref w4, .ref w5, .ref w6, .ref w7, .ref w8, .ref w9, .ref w10])), (h1, .inr (0, [.int 0, .int 0, .int 0, .int 0, .int 0, .int 0, .int 0, .int 0, .int 0, .int 0, .ref v0, .ref v1, .ref v2, .ref v3, .ref v4, .ref v5, .ref v6, .ref v7, .ref v8, .ref v9]))] := hD
  refine W.eq (g2 := F0 m 8 ls [.int 0]) rfl ?_
  refine lv_if_ne (tgt := 14) hx hb dX11_shock_8 (by decide) (fun h => absurd h (by decide)) (fun _ => ?_)
  refine lv_bipush (v := -2) hx hb dX11_shock_11 (by decide) ?_
  exact rt_i FX () rfl trivial (hP.sub [0, 1] rfl) (hD.sub [0, 1] (by decide) rfl) hS (Nat.le_of_ble_eq_true rfl) (Nat.le_of_ble_eq_true rfl) dX11_shock_13
set_option maxRecDepth 100000 in
set_option maxHeartbeats 4000000 in
theorem c_X11_unsaid (l : Launch) (g : GG) (h0 : Nat) (h1 : Nat) (w0 : Nat) (w2 : Nat) (w3 : Nat) (w4 : Nat) (w5 : Nat) (w6 : Nat) (w7 : Nat) (w8 : Nat) (w9 : Nat) (w10 : Nat) (v0 : Nat) (v1 : Nat) (v2 : Nat) (v3 : Nat) (v4 : Nat) (v5 : Nat) (v6 : Nat) (v7 : Nat) (v8 : Nat) (v9 : Nat) : Ct l g yX11_unsaid cX11_unsaid 3 (some .int) { frames := 1, cells := 0, slots := 0, locals := 20 } [.ref h0] [(h0, .inr (11, [.ref w0, .ref h1, .ref w2, .ref w3, .ref w4, .ref w5, .ref w6, .ref w7, .ref w8, .ref w9, .ref w10])), (h1, .inr (0, [.int 0, .int 0, .int 0, .int 0, .int 0, .int 0, .int 0, .int 0, .int 0, .int 0, .ref v0, .ref v1, .ref v2, .ref v3, .ref v4, .ref v5, .ref v6, .ref v7, .ref v8, .ref v9]))] (S := Unit) (fun _ => some (.int (-2))) (fun _ => True) (fun u => [(h0, .inr (11, [.ref w0, .ref h1, .ref w2, .ref w3, .ref w4, .ref w5, .ref w6, .ref w7, .ref w8, .ref w9, .ref w10])), (h1, .inr (0, [.int 0, .int 0, .int 0, .int 0, .int 0, .int 0, .int 0, .int 0, .int 0, .int 0, .ref v0, .ref v1, .ref v2, .ref v3, .ref v4, .ref v5, .ref v6, .ref v7, .ref v8, .ref v9]))]) := by
  refine Ct.of (by decide) (Nat.le_of_ble_eq_true rfl) ?_
  intro p e s m below meth c A ls FX hP hD hS hl
  obtain ⟨FC, hr, hlk, hKn, hA, hnm⟩ := id FX
  have FC : CallFix p m c cX11_unsaid 3 s _ BIG RX11 := FC
  obtain ⟨hx, hb, hml, hown, hB⟩ := id FC
  have hl : lv_has ls 3 [(0, .ref h0)] := hl
  refine lv_aload_n hx hb dX11_unsaid_0 rfl (lv_at hl 0 rfl) ?_
  refine g_get (C := RX11) (T := TX11) (N := 11) (ci := 11) (v := .ref h1) FC hKn hP i_X11 0 rfl rfl 1 (by decide) b_10 rfl dX11_unsaid_1 ?_
  refine call_VN (As := []) (rest := []) (wr := [(h0, .inr (11, [.ref w0, .ref h1, .ref w2, .ref w3, .ref w4, .ref w5, .ref w6, .ref w7, .ref w8, .ref w9, .ref w10]))]) FC hKn (c_X0_stands l g h1 v0 v1 v2 v3 v4 v5 v6 v7 v8 v9) m_yX0_stands b_11 (ci := 0) rfl rfl rfl hP hD hS hA [1] [0] rfl (by decide) rfl (by decide) (by decide) rfl hl.1 rfl (Nat.le_of_ble_eq_true rfl) dX11_unsaid_4 ⟨(Nat.le_of_ble_eq_true rfl), (Nat.le_of_ble_eq_true rfl)⟩ ⟨(Nat.le_of_ble_eq_true rfl), (Nat.le_of_ble_eq_true rfl)⟩ (fun u1 H locs _ hP hD hS => ?_)
  have hP : va_P g.1 vwCl [(h0, .inr (11, [.ref w0, .ref h1, .ref w2, .ref w3, .ref w4, .ref w5, .ref w6, .ref w7, .ref w8, .ref w9, .ref w10])), (h1, .inr (0, [.int 0, .int 0, .int 0, .int 0, .int 0, .int 0, .int 0, .int 0, .int 0, .int 0, .ref v0, .ref v1, .ref v2, .ref v3, .ref v4, .ref v5, .ref v6, .ref v7, .ref v8, .ref v9]))] H := hP
  have hD : va_D A [(h0, .inr (11, [.ref w0, .ref h1, .ref w2, .ref w3, .ref w4, .ref w5, .ref w6, .ref w7, .ref w8, .ref w9, .ref w10])), (h1, .inr (0, [.int 0, .int 0, .int 0, .int 0, .int 0, .int 0, .int 0, .int 0, .int 0, .int 0, .ref v0, .ref v1, .ref v2, .ref v3, .ref v4, .ref v5, .ref v6, .ref v7, .ref v8, .ref v9]))] := hD
  refine W.eq (g2 := F0 m 7 ls [.int 0]) rfl ?_
  refine lv_if_ne (tgt := 13) hx hb dX11_unsaid_7 (by decide) (fun h => absurd h (by decide)) (fun _ => ?_)
  refine lv_bipush (v := -2) hx hb dX11_unsaid_10 (by decide) ?_
  exact rt_i FX () rfl trivial (hP.sub [0, 1] rfl) (hD.sub [0, 1] (by decide) rfl) hS (Nat.le_of_ble_eq_true rfl) (Nat.le_of_ble_eq_true rfl) dX11_unsaid_12
set_option maxRecDepth 100000 in
set_option maxHeartbeats 4000000 in
theorem c_X11_idle (l : Launch) (g : GG) (h0 : Nat) (h1 : Nat) (w0 : Nat) (w2 : Nat) (w3 : Nat) (w4 : Nat) (w5 : Nat) (w6 : Nat) (w7 : Nat) (w8 : Nat) (w9 : Nat) (w10 : Nat) (v0 : Nat) (v1 : Nat) (v2 : Nat) (v3 : Nat) (v4 : Nat) (v5 : Nat) (v6 : Nat) (v7 : Nat) (v8 : Nat) (v9 : Nat) : Ct l g yX11_idle cX11_idle 3 (some .int) { frames := 1, cells := 0, slots := 0, locals := 20 } [.ref h0] [(h0, .inr (11, [.ref w0, .ref h1, .ref w2, .ref w3, .ref w4, .ref w5, .ref w6, .ref w7, .ref w8, .ref w9, .ref w10])), (h1, .inr (0, [.int 0, .int 0, .int 0, .int 0, .int 0, .int 0, .int 0, .int 0, .int 0, .int 0, .ref v0, .ref v1, .ref v2, .ref v3, .ref v4, .ref v5, .ref v6, .ref v7, .ref v8, .ref v9]))] (S := Unit) (fun _ => some (.int (-2))) (fun _ => True) (fun u => [(h0, .inr (11, [.ref w0, .ref h1, .ref w2, .ref w3, .ref w4, .ref w5, .ref w6, .ref w7, .ref w8, .ref w9, .ref w10])), (h1, .inr (0, [.int 0, .int 0, .int 0, .int 0, .int 0, .int 0, .int 0, .int 0, .int 0, .int 0, .ref v0, .ref v1, .ref v2, .ref v3, .ref v4, .ref v5, .ref v6, .ref v7, .ref v8, .ref v9]))]) := by
  refine Ct.of (by decide) (Nat.le_of_ble_eq_true rfl) ?_
  intro p e s m below meth c A ls FX hP hD hS hl
  obtain ⟨FC, hr, hlk, hKn, hA, hnm⟩ := id FX
  have FC : CallFix p m c cX11_idle 3 s _ BIG RX11 := FC
  obtain ⟨hx, hb, hml, hown, hB⟩ := id FC
  have hl : lv_has ls 3 [(0, .ref h0)] := hl
  refine lv_aload_n hx hb dX11_idle_0 rfl (lv_at hl 0 rfl) ?_
  refine g_get (C := RX11) (T := TX11) (N := 11) (ci := 11) (v := .ref h1) FC hKn hP i_X11 0 rfl rfl 1 (by decide) b_10 rfl dX11_idle_1 ?_
  refine call_VN (As := []) (rest := []) (wr := [(h0, .inr (11, [.ref w0, .ref h1, .ref w2, .ref w3, .ref w4, .ref w5, .ref w6, .ref w7, .ref w8, .ref w9, .ref w10]))]) FC hKn (c_X0_stands l g h1 v0 v1 v2 v3 v4 v5 v6 v7 v8 v9) m_yX0_stands b_11 (ci := 0) rfl rfl rfl hP hD hS hA [1] [0] rfl (by decide) rfl (by decide) (by decide) rfl hl.1 rfl (Nat.le_of_ble_eq_true rfl) dX11_idle_4 ⟨(Nat.le_of_ble_eq_true rfl), (Nat.le_of_ble_eq_true rfl)⟩ ⟨(Nat.le_of_ble_eq_true rfl), (Nat.le_of_ble_eq_true rfl)⟩ (fun u1 H locs _ hP hD hS => ?_)
  have hP : va_P g.1 vwCl [(h0, .inr (11, [.ref w0, .ref h1, .ref w2, .ref w3, .ref w4, .ref w5, .ref w6, .ref w7, .ref w8, .ref w9, .ref w10])), (h1, .inr (0, [.int 0, .int 0, .int 0, .int 0, .int 0, .int 0, .int 0, .int 0, .int 0, .int 0, .ref v0, .ref v1, .ref v2, .ref v3, .ref v4, .ref v5, .ref v6, .ref v7, .ref v8, .ref v9]))] H := hP
  have hD : va_D A [(h0, .inr (11, [.ref w0, .ref h1, .ref w2, .ref w3, .ref w4, .ref w5, .ref w6, .ref w7, .ref w8, .ref w9, .ref w10])), (h1, .inr (0, [.int 0, .int 0, .int 0, .int 0, .int 0, .int 0, .int 0, .int 0, .int 0, .int 0, .ref v0, .ref v1, .ref v2, .ref v3, .ref v4, .ref v5, .ref v6, .ref v7, .ref v8, .ref v9]))] := hD
  refine W.eq (g2 := F0 m 7 ls [.int 0]) rfl ?_
  refine lv_if_ne (tgt := 13) hx hb dX11_idle_7 (by decide) (fun h => absurd h (by decide)) (fun _ => ?_)
  refine lv_bipush (v := -2) hx hb dX11_idle_10 (by decide) ?_
  exact rt_i FX () rfl trivial (hP.sub [0, 1] rfl) (hD.sub [0, 1] (by decide) rfl) hS (Nat.le_of_ble_eq_true rfl) (Nat.le_of_ble_eq_true rfl) dX11_idle_12
set_option maxRecDepth 100000 in
set_option maxHeartbeats 4000000 in
theorem c_X11_enough (l : Launch) (g : GG) (h0 : Nat) (h1 : Nat) (w0 : Nat) (w2 : Nat) (w3 : Nat) (w4 : Nat) (w5 : Nat) (w6 : Nat) (w7 : Nat) (w8 : Nat) (w9 : Nat) (w10 : Nat) (v0 : Nat) (v1 : Nat) (v2 : Nat) (v3 : Nat) (v4 : Nat) (v5 : Nat) (v6 : Nat) (v7 : Nat) (v8 : Nat) (v9 : Nat) (p1 : Int32) : Ct l g yX11_enough cX11_enough 4 (some .int) { frames := 1, cells := 0, slots := 0, locals := 21 } [.ref h0, .int p1] [(h0, .inr (11, [.ref w0, .ref h1, .ref w2, .ref w3, .ref w4, .ref w5, .ref w6, .ref w7, .ref w8, .ref w9, .ref w10])), (h1, .inr (0, [.int 0, .int 0, .int 0, .int 0, .int 0, .int 0, .int 0, .int 0, .int 0, .int 0, .ref v0, .ref v1, .ref v2, .ref v3, .ref v4, .ref v5, .ref v6, .ref v7, .ref v8, .ref v9]))] (S := Unit) (fun _ => some (.int (-2))) (fun _ => True) (fun u => [(h0, .inr (11, [.ref w0, .ref h1, .ref w2, .ref w3, .ref w4, .ref w5, .ref w6, .ref w7, .ref w8, .ref w9, .ref w10])), (h1, .inr (0, [.int 0, .int 0, .int 0, .int 0, .int 0, .int 0, .int 0, .int 0, .int 0, .int 0, .ref v0, .ref v1, .ref v2, .ref v3, .ref v4, .ref v5, .ref v6, .ref v7, .ref v8, .ref v9]))]) := by
  refine Ct.of (by decide) (Nat.le_of_ble_eq_true rfl) ?_
  intro p e s m below meth c A ls FX hP hD hS hl
  obtain ⟨FC, hr, hlk, hKn, hA, hnm⟩ := id FX
  have FC : CallFix p m c cX11_enough 4 s _ BIG RX11 := FC
  obtain ⟨hx, hb, hml, hown, hB⟩ := id FC
  have hl : lv_has ls 4 [(0, .ref h0), (1, .int p1)] := hl
  refine lv_aload_n hx hb dX11_enough_0 rfl (lv_at hl 0 rfl) ?_
  refine g_get (C := RX11) (T := TX11) (N := 11) (ci := 11) (v := .ref h1) FC hKn hP i_X11 0 rfl rfl 1 (by decide) b_10 rfl dX11_enough_1 ?_
  refine lv_iload_n hx hb dX11_enough_4 rfl (lv_at hl 1 rfl) ?_
  refine call_VN (As := [.int p1]) (rest := []) (wr := [(h0, .inr (11, [.ref w0, .ref h1, .ref w2, .ref w3, .ref w4, .ref w5, .ref w6, .ref w7, .ref w8, .ref w9, .ref w10]))]) FC hKn (c_X0_hasHearer l g h1 v0 v1 v2 v3 v4 v5 v6 v7 v8 v9 p1) m_yX0_hasHearer b_12 (ci := 0) rfl rfl rfl hP hD hS hA [1] [0] rfl (by decide) rfl (by decide) (by decide) rfl hl.1 rfl (Nat.le_of_ble_eq_true rfl) dX11_enough_5 ⟨(Nat.le_of_ble_eq_true rfl), (Nat.le_of_ble_eq_true rfl)⟩ ⟨(Nat.le_of_ble_eq_true rfl), (Nat.le_of_ble_eq_true rfl)⟩ (fun u1 H locs _ hP hD hS => ?_)
  have hP : va_P g.1 vwCl [(h0, .inr (11, [.ref w0, .ref h1, .ref w2, .ref w3, .ref w4, .ref w5, .ref w6, .ref w7, .ref w8, .ref w9, .ref w10])), (h1, .inr (0, [.int 0, .int 0, .int 0, .int 0, .int 0, .int 0, .int 0, .int 0, .int 0, .int 0, .ref v0, .ref v1, .ref v2, .ref v3, .ref v4, .ref v5, .ref v6, .ref v7, .ref v8, .ref v9]))] H := hP
  have hD : va_D A [(h0, .inr (11, [.ref w0, .ref h1, .ref w2, .ref w3, .ref w4, .ref w5, .ref w6, .ref w7, .ref w8, .ref w9, .ref w10])), (h1, .inr (0, [.int 0, .int 0, .int 0, .int 0, .int 0, .int 0, .int 0, .int 0, .int 0, .int 0, .ref v0, .ref v1, .ref v2, .ref v3, .ref v4, .ref v5, .ref v6, .ref v7, .ref v8, .ref v9]))] := hD
  refine W.eq (g2 := F0 m 8 ls [.int 0]) rfl ?_
  refine lv_if_ne (tgt := 14) hx hb dX11_enough_8 (by decide) (fun h => absurd h (by decide)) (fun _ => ?_)
  refine lv_bipush (v := -2) hx hb dX11_enough_11 (by decide) ?_
  exact rt_i FX () rfl trivial (hP.sub [0, 1] rfl) (hD.sub [0, 1] (by decide) rfl) hS (Nat.le_of_ble_eq_true rfl) (Nat.le_of_ble_eq_true rfl) dX11_enough_13
set_option maxRecDepth 100000 in
set_option maxHeartbeats 4000000 in
theorem c_X11_risk (l : Launch) (g : GG) (h0 : Nat) (h1 : Nat) (w0 : Nat) (w2 : Nat) (w3 : Nat) (w4 : Nat) (w5 : Nat) (w6 : Nat) (w7 : Nat) (w8 : Nat) (w9 : Nat) (w10 : Nat) (v0 : Nat) (v1 : Nat) (v2 : Nat) (v3 : Nat) (v4 : Nat) (v5 : Nat) (v6 : Nat) (v7 : Nat) (v8 : Nat) (v9 : Nat) (p1 : Int32) : Ct l g yX11_risk cX11_risk 2 (some .int) { frames := 1, cells := 0, slots := 0, locals := 21 } [.ref h0, .int p1] [(h0, .inr (11, [.ref w0, .ref h1, .ref w2, .ref w3, .ref w4, .ref w5, .ref w6, .ref w7, .ref w8, .ref w9, .ref w10])), (h1, .inr (0, [.int 0, .int 0, .int 0, .int 0, .int 0, .int 0, .int 0, .int 0, .int 0, .int 0, .ref v0, .ref v1, .ref v2, .ref v3, .ref v4, .ref v5, .ref v6, .ref v7, .ref v8, .ref v9]))] (S := Unit) (fun _ => some (.int (-2))) (fun _ => True) (fun u => [(h0, .inr (11, [.ref w0, .ref h1, .ref w2, .ref w3, .ref w4, .ref w5, .ref w6, .ref w7, .ref w8, .ref w9, .ref w10])), (h1, .inr (0, [.int 0, .int 0, .int 0, .int 0, .int 0, .int 0, .int 0, .int 0, .int 0, .int 0, .ref v0, .ref v1, .ref v2, .ref v3, .ref v4, .ref v5, .ref v6, .ref v7, .ref v8, .ref v9]))]) := by
  refine Ct.of (by decide) (Nat.le_of_ble_eq_true rfl) ?_
  intro p e s m below meth c A ls FX hP hD hS hl
  obtain ⟨FC, hr, hlk, hKn, hA, hnm⟩ := id FX
  have FC : CallFix p m c cX11_risk 2 s _ BIG RX11 := FC
  obtain ⟨hx, hb, hml, hown, hB⟩ := id FC
  have hl : lv_has ls 2 [(0, .ref h0), (1, .int p1)] := hl
  refine lv_aload_n hx hb dX11_risk_0 rfl (lv_at hl 0 rfl) ?_
  refine g_get (C := RX11) (T := TX11) (N := 11) (ci := 11) (v := .ref h1) FC hKn hP i_X11 0 rfl rfl 1 (by decide) b_10 rfl dX11_risk_1 ?_
  refine lv_iload_n hx hb dX11_risk_4 rfl (lv_at hl 1 rfl) ?_
  refine call_VN (As := [.int p1]) (rest := []) (wr := [(h0, .inr (11, [.ref w0, .ref h1, .ref w2, .ref w3, .ref w4, .ref w5, .ref w6, .ref w7, .ref w8, .ref w9, .ref w10]))]) FC hKn (c_X0_hasHearer l g h1 v0 v1 v2 v3 v4 v5 v6 v7 v8 v9 p1) m_yX0_hasHearer b_12 (ci := 0) rfl rfl rfl hP hD hS hA [1] [0] rfl (by decide) rfl (by decide) (by decide) rfl hl.1 rfl (Nat.le_of_ble_eq_true rfl) dX11_risk_5 ⟨(Nat.le_of_ble_eq_true rfl), (Nat.le_of_ble_eq_true rfl)⟩ ⟨(Nat.le_of_ble_eq_true rfl), (Nat.le_of_ble_eq_true rfl)⟩ (fun u1 H locs _ hP hD hS => ?_)
  have hP : va_P g.1 vwCl [(h0, .inr (11, [.ref w0, .ref h1, .ref w2, .ref w3, .ref w4, .ref w5, .ref w6, .ref w7, .ref w8, .ref w9, .ref w10])), (h1, .inr (0, [.int 0, .int 0, .int 0, .int 0, .int 0, .int 0, .int 0, .int 0, .int 0, .int 0, .ref v0, .ref v1, .ref v2, .ref v3, .ref v4, .ref v5, .ref v6, .ref v7, .ref v8, .ref v9]))] H := hP
  have hD : va_D A [(h0, .inr (11, [.ref w0, .ref h1, .ref w2, .ref w3, .ref w4, .ref w5, .ref w6, .ref w7, .ref w8, .ref w9, .ref w10])), (h1, .inr (0, [.int 0, .int 0, .int 0, .int 0, .int 0, .int 0, .int 0, .int 0, .int 0, .int 0, .ref v0, .ref v1, .ref v2, .ref v3, .ref v4, .ref v5, .ref v6, .ref v7, .ref v8, .ref v9]))] := hD
  refine W.eq (g2 := F0 m 8 ls [.int 0]) rfl ?_
  refine lv_if_ne (tgt := 14) hx hb dX11_risk_8 (by decide) (fun h => absurd h (by decide)) (fun _ => ?_)
  refine lv_bipush (v := -2) hx hb dX11_risk_11 (by decide) ?_
  exact rt_i FX () rfl trivial (hP.sub [0, 1] rfl) (hD.sub [0, 1] (by decide) rfl) hS (Nat.le_of_ble_eq_true rfl) (Nat.le_of_ble_eq_true rfl) dX11_risk_13
set_option maxRecDepth 100000 in
set_option maxHeartbeats 4000000 in
theorem c_X11_now (l : Launch) (g : GG) (h0 : Nat) (h1 : Nat) (w0 : Nat) (w2 : Nat) (w3 : Nat) (w4 : Nat) (w5 : Nat) (w6 : Nat) (w7 : Nat) (w8 : Nat) (w9 : Nat) (w10 : Nat) (v0 : Nat) (v1 : Nat) (v2 : Nat) (v3 : Nat) (v4 : Nat) (v5 : Nat) (v6 : Nat) (v7 : Nat) (v8 : Nat) (v9 : Nat) (p1 : Int32) (p2 : Int32) (p3 : Int32) : Ct l g yX11_now cX11_now 4 (some .int) { frames := 1, cells := 0, slots := 0, locals := 21 } [.ref h0, .int p1, .int p2, .int p3] [(h0, .inr (11, [.ref w0, .ref h1, .ref w2, .ref w3, .ref w4, .ref w5, .ref w6, .ref w7, .ref w8, .ref w9, .ref w10])), (h1, .inr (0, [.int 0, .int 0, .int 0, .int 0, .int 0, .int 0, .int 0, .int 0, .int 0, .int 0, .ref v0, .ref v1, .ref v2, .ref v3, .ref v4, .ref v5, .ref v6, .ref v7, .ref v8, .ref v9]))] (S := Unit) (fun _ => some (.int (-2))) (fun _ => True) (fun u => [(h0, .inr (11, [.ref w0, .ref h1, .ref w2, .ref w3, .ref w4, .ref w5, .ref w6, .ref w7, .ref w8, .ref w9, .ref w10])), (h1, .inr (0, [.int 0, .int 0, .int 0, .int 0, .int 0, .int 0, .int 0, .int 0, .int 0, .int 0, .ref v0, .ref v1, .ref v2, .ref v3, .ref v4, .ref v5, .ref v6, .ref v7, .ref v8, .ref v9]))]) := by
  refine Ct.of (by decide) (Nat.le_of_ble_eq_true rfl) ?_
  intro p e s m below meth c A ls FX hP hD hS hl
  obtain ⟨FC, hr, hlk, hKn, hA, hnm⟩ := id FX
  have FC : CallFix p m c cX11_now 4 s _ BIG RX11 := FC
  obtain ⟨hx, hb, hml, hown, hB⟩ := id FC
  have hl : lv_has ls 4 [(0, .ref h0), (1, .int p1), (2, .int p2), (3, .int p3)] := hl
  refine lv_aload_n hx hb dX11_now_0 rfl (lv_at hl 0 rfl) ?_
  refine g_get (C := RX11) (T := TX11) (N := 11) (ci := 11) (v := .ref h1) FC hKn hP i_X11 0 rfl rfl 1 (by decide) b_10 rfl dX11_now_1 ?_
  refine lv_iload_n hx hb dX11_now_4 rfl (lv_at hl 1 rfl) ?_
  refine call_VN (As := [.int p1]) (rest := []) (wr := [(h0, .inr (11, [.ref w0, .ref h1, .ref w2, .ref w3, .ref w4, .ref w5, .ref w6, .ref w7, .ref w8, .ref w9, .ref w10]))]) FC hKn (c_X0_hasHearer l g h1 v0 v1 v2 v3 v4 v5 v6 v7 v8 v9 p1) m_yX0_hasHearer b_12 (ci := 0) rfl rfl rfl hP hD hS hA [1] [0] rfl (by decide) rfl (by decide) (by decide) rfl hl.1 rfl (Nat.le_of_ble_eq_true rfl) dX11_now_5 ⟨(Nat.le_of_ble_eq_true rfl), (Nat.le_of_ble_eq_true rfl)⟩ ⟨(Nat.le_of_ble_eq_true rfl), (Nat.le_of_ble_eq_true rfl)⟩ (fun u1 H locs _ hP hD hS => ?_)
  have hP : va_P g.1 vwCl [(h0, .inr (11, [.ref w0, .ref h1, .ref w2, .ref w3, .ref w4, .ref w5, .ref w6, .ref w7, .ref w8, .ref w9, .ref w10])), (h1, .inr (0, [.int 0, .int 0, .int 0, .int 0, .int 0, .int 0, .int 0, .int 0, .int 0, .int 0, .ref v0, .ref v1, .ref v2, .ref v3, .ref v4, .ref v5, .ref v6, .ref v7, .ref v8, .ref v9]))] H := hP
  have hD : va_D A [(h0, .inr (11, [.ref w0, .ref h1, .ref w2, .ref w3, .ref w4, .ref w5, .ref w6, .ref w7, .ref w8, .ref w9, .ref w10])), (h1, .inr (0, [.int 0, .int 0, .int 0, .int 0, .int 0, .int 0, .int 0, .int 0, .int 0, .int 0, .ref v0, .ref v1, .ref v2, .ref v3, .ref v4, .ref v5, .ref v6, .ref v7, .ref v8, .ref v9]))] := hD
  refine W.eq (g2 := F0 m 8 ls [.int 0]) rfl ?_
  refine lv_if_eq (tgt := 33) hx hb dX11_now_8 (by decide) (fun _ => ?_) (fun h => absurd h (by decide))
  refine lv_bipush (v := -2) hx hb dX11_now_33 (by decide) ?_
  exact rt_i FX () rfl trivial (hP.sub [0, 1] rfl) (hD.sub [0, 1] (by decide) rfl) hS (Nat.le_of_ble_eq_true rfl) (Nat.le_of_ble_eq_true rfl) dX11_now_35
set_option maxRecDepth 100000 in
set_option maxHeartbeats 4000000 in
theorem c_X11_soon (l : Launch) (g : GG) (h0 : Nat) (h1 : Nat) (w0 : Nat) (w2 : Nat) (w3 : Nat) (w4 : Nat) (w5 : Nat) (w6 : Nat) (w7 : Nat) (w8 : Nat) (w9 : Nat) (w10 : Nat) (v0 : Nat) (v1 : Nat) (v2 : Nat) (v3 : Nat) (v4 : Nat) (v5 : Nat) (v6 : Nat) (v7 : Nat) (v8 : Nat) (v9 : Nat) (p1 : Int32) (p2 : Int32) : Ct l g yX11_soon cX11_soon 8 (some .int) { frames := 1, cells := 0, slots := 0, locals := 21 } [.ref h0, .int p1, .int p2] [(h0, .inr (11, [.ref w0, .ref h1, .ref w2, .ref w3, .ref w4, .ref w5, .ref w6, .ref w7, .ref w8, .ref w9, .ref w10])), (h1, .inr (0, [.int 0, .int 0, .int 0, .int 0, .int 0, .int 0, .int 0, .int 0, .int 0, .int 0, .ref v0, .ref v1, .ref v2, .ref v3, .ref v4, .ref v5, .ref v6, .ref v7, .ref v8, .ref v9]))] (S := Unit) (fun _ => some (.int (-2))) (fun _ => True) (fun u => [(h0, .inr (11, [.ref w0, .ref h1, .ref w2, .ref w3, .ref w4, .ref w5, .ref w6, .ref w7, .ref w8, .ref w9, .ref w10])), (h1, .inr (0, [.int 0, .int 0, .int 0, .int 0, .int 0, .int 0, .int 0, .int 0, .int 0, .int 0, .ref v0, .ref v1, .ref v2, .ref v3, .ref v4, .ref v5, .ref v6, .ref v7, .ref v8, .ref v9]))]) := by
  refine Ct.of (by decide) (Nat.le_of_ble_eq_true rfl) ?_
  intro p e s m below meth c A ls FX hP hD hS hl
  obtain ⟨FC, hr, hlk, hKn, hA, hnm⟩ := id FX
  have FC : CallFix p m c cX11_soon 8 s _ BIG RX11 := FC
  obtain ⟨hx, hb, hml, hown, hB⟩ := id FC
  have hl : lv_has ls 8 [(0, .ref h0), (1, .int p1), (2, .int p2)] := hl
  refine lv_aload_n hx hb dX11_soon_0 rfl (lv_at hl 0 rfl) ?_
  refine g_get (C := RX11) (T := TX11) (N := 11) (ci := 11) (v := .ref h1) FC hKn hP i_X11 0 rfl rfl 1 (by decide) b_10 rfl dX11_soon_1 ?_
  refine lv_iload_n hx hb dX11_soon_4 rfl (lv_at hl 1 rfl) ?_
  refine call_VN (As := [.int p1]) (rest := []) (wr := [(h0, .inr (11, [.ref w0, .ref h1, .ref w2, .ref w3, .ref w4, .ref w5, .ref w6, .ref w7, .ref w8, .ref w9, .ref w10]))]) FC hKn (c_X0_hasHearer l g h1 v0 v1 v2 v3 v4 v5 v6 v7 v8 v9 p1) m_yX0_hasHearer b_12 (ci := 0) rfl rfl rfl hP hD hS hA [1] [0] rfl (by decide) rfl (by decide) (by decide) rfl hl.1 rfl (Nat.le_of_ble_eq_true rfl) dX11_soon_5 ⟨(Nat.le_of_ble_eq_true rfl), (Nat.le_of_ble_eq_true rfl)⟩ ⟨(Nat.le_of_ble_eq_true rfl), (Nat.le_of_ble_eq_true rfl)⟩ (fun u1 H locs _ hP hD hS => ?_)
  have hP : va_P g.1 vwCl [(h0, .inr (11, [.ref w0, .ref h1, .ref w2, .ref w3, .ref w4, .ref w5, .ref w6, .ref w7, .ref w8, .ref w9, .ref w10])), (h1, .inr (0, [.int 0, .int 0, .int 0, .int 0, .int 0, .int 0, .int 0, .int 0, .int 0, .int 0, .ref v0, .ref v1, .ref v2, .ref v3, .ref v4, .ref v5, .ref v6, .ref v7, .ref v8, .ref v9]))] H := hP
  have hD : va_D A [(h0, .inr (11, [.ref w0, .ref h1, .ref w2, .ref w3, .ref w4, .ref w5, .ref w6, .ref w7, .ref w8, .ref w9, .ref w10])), (h1, .inr (0, [.int 0, .int 0, .int 0, .int 0, .int 0, .int 0, .int 0, .int 0, .int 0, .int 0, .ref v0, .ref v1, .ref v2, .ref v3, .ref v4, .ref v5, .ref v6, .ref v7, .ref v8, .ref v9]))] := hD
  refine W.eq (g2 := F0 m 8 ls [.int 0]) rfl ?_
  refine lv_if_eq (tgt := 20) hx hb dX11_soon_8 (by decide) (fun _ => ?_) (fun h => absurd h (by decide))
  refine lv_bipush (v := -2) hx hb dX11_soon_20 (by decide) ?_
  exact rt_i FX () rfl trivial (hP.sub [0, 1] rfl) (hD.sub [0, 1] (by decide) rfl) hS (Nat.le_of_ble_eq_true rfl) (Nat.le_of_ble_eq_true rfl) dX11_soon_22
set_option maxRecDepth 100000 in
set_option maxHeartbeats 4000000 in
theorem c_X11_suspects (l : Launch) (g : GG) (h0 : Nat) (h1 : Nat) (w0 : Nat) (w2 : Nat) (w3 : Nat) (w4 : Nat) (w5 : Nat) (w6 : Nat) (w7 : Nat) (w8 : Nat) (w9 : Nat) (w10 : Nat) (v0 : Nat) (v1 : Nat) (v2 : Nat) (v3 : Nat) (v4 : Nat) (v5 : Nat) (v6 : Nat) (v7 : Nat) (v8 : Nat) (v9 : Nat) (p1 : Int32) : Ct l g yX11_suspects cX11_suspects 3 (some .int) { frames := 2, cells := 0, slots := 0, locals := 42 } [.ref h0, .int p1] [(h0, .inr (11, [.ref w0, .ref h1, .ref w2, .ref w3, .ref w4, .ref w5, .ref w6, .ref w7, .ref w8, .ref w9, .ref w10])), (h1, .inr (0, [.int 0, .int 0, .int 0, .int 0, .int 0, .int 0, .int 0, .int 0, .int 0, .int 0, .ref v0, .ref v1, .ref v2, .ref v3, .ref v4, .ref v5, .ref v6, .ref v7, .ref v8, .ref v9]))] (S := Unit) (fun _ => some (.int (-2))) (fun _ => True) (fun u => [(h0, .inr (11, [.ref w0, .ref h1, .ref w2, .ref w3, .ref w4, .ref w5, .ref w6, .ref w7, .ref w8, .ref w9, .ref w10])), (h1, .inr (0, [.int 0, .int 0, .int 0, .int 0, .int 0, .int 0, .int 0, .int 0, .int 0, .int 0, .ref v0, .ref v1, .ref v2, .ref v3, .ref v4, .ref v5, .ref v6, .ref v7, .ref v8, .ref v9]))]) := by
  refine Ct.of (by decide) (Nat.le_of_ble_eq_true rfl) ?_
  intro p e s m below meth c A ls FX hP hD hS hl
  obtain ⟨FC, hr, hlk, hKn, hA, hnm⟩ := id FX
  have FC : CallFix p m c cX11_suspects 3 s _ BIG RX11 := FC
  obtain ⟨hx, hb, hml, hown, hB⟩ := id FC
  have hl : lv_has ls 3 [(0, .ref h0), (1, .int p1)] := hl
  refine lv_aload_n hx hb dX11_suspects_0 rfl (lv_at hl 0 rfl) ?_
  refine lv_iload_n hx hb dX11_suspects_1 rfl (lv_at hl 1 rfl) ?_
  refine call_V (As := [.int p1]) (rest := []) (wr := []) FC hKn (c_X11_takeWeek l g h0 h1 w0 w2 w3 w4 w5 w6 w7 w8 w9 w10 v0 v1 v2 v3 v4 v5 v6 v7 v8 v9 p1) m_yX11_takeWeek b_18 (ci := 11) rfl rfl rfl hP hD hS hA [0, 1] [] rfl (by decide) rfl (by decide) (by decide) rfl hl.1 rfl (Nat.le_of_ble_eq_true rfl) dX11_suspects_2 ⟨(Nat.le_of_ble_eq_true rfl), (Nat.le_of_ble_eq_true rfl)⟩ ⟨(Nat.le_of_ble_eq_true rfl), (Nat.le_of_ble_eq_true rfl)⟩ (fun u1 H locs _ hP hD hS => ?_)
  have hP : va_P g.1 vwCl [(h0, .inr (11, [.ref w0, .ref h1, .ref w2, .ref w3, .ref w4, .ref w5, .ref w6, .ref w7, .ref w8, .ref w9, .ref w10])), (h1, .inr (0, [.int 0, .int 0, .int 0, .int 0, .int 0, .int 0, .int 0, .int 0, .int 0, .int 0, .ref v0, .ref v1, .ref v2, .ref v3, .ref v4, .ref v5, .ref v6, .ref v7, .ref v8, .ref v9]))] H := hP
  have hD : va_D A [(h0, .inr (11, [.ref w0, .ref h1, .ref w2, .ref w3, .ref w4, .ref w5, .ref w6, .ref w7, .ref w8, .ref w9, .ref w10])), (h1, .inr (0, [.int 0, .int 0, .int 0, .int 0, .int 0, .int 0, .int 0, .int 0, .int 0, .int 0, .ref v0, .ref v1, .ref v2, .ref v3, .ref v4, .ref v5, .ref v6, .ref v7, .ref v8, .ref v9]))] := hD
  refine W.eq (g2 := F0 m 5 ls [.int (-2)]) rfl ?_
  refine lv_istore_n (lv' := [(2, .int (-2)), (0, .ref h0), (1, .int p1)]) hx hb dX11_suspects_5 rfl hl (by decide) rfl (fun ls hl => ?_)
  refine lv_iload_n hx hb dX11_suspects_6 rfl (lv_at hl 0 rfl) ?_
  refine lv_if_ge (tgt := 12) hx hb dX11_suspects_7 (by decide) (fun h => absurd h (by decide)) (fun _ => ?_)
  refine lv_iload_n hx hb dX11_suspects_10 rfl (lv_at hl 0 rfl) ?_
  exact rt_i FX () rfl trivial (hP.sub [0, 1] rfl) (hD.sub [0, 1] (by decide) rfl) hS (Nat.le_of_ble_eq_true rfl) (Nat.le_of_ble_eq_true rfl) dX11_suspects_11
set_option maxRecDepth 100000 in
set_option maxHeartbeats 4000000 in
theorem c_X11_knew (l : Launch) (g : GG) (h0 : Nat) (h1 : Nat) (w0 : Nat) (w2 : Nat) (w3 : Nat) (w4 : Nat) (w5 : Nat) (w6 : Nat) (w7 : Nat) (w8 : Nat) (w9 : Nat) (w10 : Nat) (v0 : Nat) (v1 : Nat) (v2 : Nat) (v3 : Nat) (v4 : Nat) (v5 : Nat) (v6 : Nat) (v7 : Nat) (v8 : Nat) (v9 : Nat) (p1 : Int32) (p2 : Int32) : Ct l g yX11_knew cX11_knew 4 (some .int) { frames := 2, cells := 0, slots := 0, locals := 44 } [.ref h0, .int p1, .int p2] [(h0, .inr (11, [.ref w0, .ref h1, .ref w2, .ref w3, .ref w4, .ref w5, .ref w6, .ref w7, .ref w8, .ref w9, .ref w10])), (h1, .inr (0, [.int 0, .int 0, .int 0, .int 0, .int 0, .int 0, .int 0, .int 0, .int 0, .int 0, .ref v0, .ref v1, .ref v2, .ref v3, .ref v4, .ref v5, .ref v6, .ref v7, .ref v8, .ref v9]))] (S := Unit) (fun _ => some (.int (-2))) (fun _ => True) (fun u => [(h0, .inr (11, [.ref w0, .ref h1, .ref w2, .ref w3, .ref w4, .ref w5, .ref w6, .ref w7, .ref w8, .ref w9, .ref w10])), (h1, .inr (0, [.int 0, .int 0, .int 0, .int 0, .int 0, .int 0, .int 0, .int 0, .int 0, .int 0, .ref v0, .ref v1, .ref v2, .ref v3, .ref v4, .ref v5, .ref v6, .ref v7, .ref v8, .ref v9]))]) := by
  refine Ct.of (by decide) (Nat.le_of_ble_eq_true rfl) ?_
  intro p e s m below meth c A ls FX hP hD hS hl
  obtain ⟨FC, hr, hlk, hKn, hA, hnm⟩ := id FX
  have FC : CallFix p m c cX11_knew 4 s _ BIG RX11 := FC
  obtain ⟨hx, hb, hml, hown, hB⟩ := id FC
  have hl : lv_has ls 4 [(0, .ref h0), (1, .int p1), (2, .int p2)] := hl
  refine lv_aload_n hx hb dX11_knew_0 rfl (lv_at hl 0 rfl) ?_
  refine lv_iload_n hx hb dX11_knew_1 rfl (lv_at hl 1 rfl) ?_
  refine lv_iload_n hx hb dX11_knew_2 rfl (lv_at hl 2 rfl) ?_
  refine call_V (As := [.int p1, .int p2]) (rest := []) (wr := []) FC hKn (c_X11_reckonWeek l g h0 h1 w0 w2 w3 w4 w5 w6 w7 w8 w9 w10 v0 v1 v2 v3 v4 v5 v6 v7 v8 v9 p1 p2) m_yX11_reckonWeek b_22 (ci := 11) rfl rfl rfl hP hD hS hA [0, 1] [] rfl (by decide) rfl (by decide) (by decide) rfl hl.1 rfl (Nat.le_of_ble_eq_true rfl) dX11_knew_3 ⟨(Nat.le_of_ble_eq_true rfl), (Nat.le_of_ble_eq_true rfl)⟩ ⟨(Nat.le_of_ble_eq_true rfl), (Nat.le_of_ble_eq_true rfl)⟩ (fun u1 H locs _ hP hD hS => ?_)
  have hP : va_P g.1 vwCl [(h0, .inr (11, [.ref w0, .ref h1, .ref w2, .ref w3, .ref w4, .ref w5, .ref w6, .ref w7, .ref w8, .ref w9, .ref w10])), (h1, .inr (0, [.int 0, .int 0, .int 0, .int 0, .int 0, .int 0, .int 0, .int 0, .int 0, .int 0, .ref v0, .ref v1, .ref v2, .ref v3, .ref v4, .ref v5, .ref v6, .ref v7, .ref v8, .ref v9]))] H := hP
  have hD : va_D A [(h0, .inr (11, [.ref w0, .ref h1, .ref w2, .ref w3, .ref w4, .ref w5, .ref w6, .ref w7, .ref w8, .ref w9, .ref w10])), (h1, .inr (0, [.int 0, .int 0, .int 0, .int 0, .int 0, .int 0, .int 0, .int 0, .int 0, .int 0, .ref v0, .ref v1, .ref v2, .ref v3, .ref v4, .ref v5, .ref v6, .ref v7, .ref v8, .ref v9]))] := hD
  refine W.eq (g2 := F0 m 6 ls [.int (-2)]) rfl ?_
  refine lv_istore_n (lv' := [(3, .int (-2)), (0, .ref h0), (1, .int p1), (2, .int p2)]) hx hb dX11_knew_6 rfl hl (by decide) rfl (fun ls hl => ?_)
  refine lv_iload_n hx hb dX11_knew_7 rfl (lv_at hl 0 rfl) ?_
  refine lv_if_ge (tgt := 15) hx hb dX11_knew_8 (by decide) (fun h => absurd h (by decide)) (fun _ => ?_)
  refine lv_iload_n hx hb dX11_knew_11 rfl (lv_at hl 0 rfl) ?_
  refine lv_goto (tgt := 22) hx hb dX11_knew_12 (by decide) ?_
  exact rt_i FX () rfl trivial (hP.sub [0, 1] rfl) (hD.sub [0, 1] (by decide) rfl) hS (Nat.le_of_ble_eq_true rfl) (Nat.le_of_ble_eq_true rfl) dX11_knew_22
set_option maxRecDepth 100000 in
set_option maxHeartbeats 4000000 in
theorem c_X11_reckoned (l : Launch) (g : GG) (h0 : Nat) (h1 : Nat) (w0 : Nat) (w2 : Nat) (w3 : Nat) (w4 : Nat) (w5 : Nat) (w6 : Nat) (w7 : Nat) (w8 : Nat) (w9 : Nat) (w10 : Nat) (v0 : Nat) (v1 : Nat) (v2 : Nat) (v3 : Nat) (v4 : Nat) (v5 : Nat) (v6 : Nat) (v7 : Nat) (v8 : Nat) (v9 : Nat) (p1 : Int32) (p2 : Int32) : Ct l g yX11_reckoned cX11_reckoned 4 (some .int) { frames := 2, cells := 0, slots := 0, locals := 44 } [.ref h0, .int p1, .int p2] [(h0, .inr (11, [.ref w0, .ref h1, .ref w2, .ref w3, .ref w4, .ref w5, .ref w6, .ref w7, .ref w8, .ref w9, .ref w10])), (h1, .inr (0, [.int 0, .int 0, .int 0, .int 0, .int 0, .int 0, .int 0, .int 0, .int 0, .int 0, .ref v0, .ref v1, .ref v2, .ref v3, .ref v4, .ref v5, .ref v6, .ref v7, .ref v8, .ref v9]))] (S := Unit) (fun _ => some (.int (-2))) (fun _ => True) (fun u => [(h0, .inr (11, [.ref w0, .ref h1, .ref w2, .ref w3, .ref w4, .ref w5, .ref w6, .ref w7, .ref w8, .ref w9, .ref w10])), (h1, .inr (0, [.int 0, .int 0, .int 0, .int 0, .int 0, .int 0, .int 0, .int 0, .int 0, .int 0, .ref v0, .ref v1, .ref v2, .ref v3, .ref v4, .ref v5, .ref v6, .ref v7, .ref v8, .ref v9]))]) := by
  refine Ct.of (by decide) (Nat.le_of_ble_eq_true rfl) ?_
  intro p e s m below meth c A ls FX hP hD hS hl
  obtain ⟨FC, hr, hlk, hKn, hA, hnm⟩ := id FX
  have FC : CallFix p m c cX11_reckoned 4 s _ BIG RX11 := FC
  obtain ⟨hx, hb, hml, hown, hB⟩ := id FC
  have hl : lv_has ls 4 [(0, .ref h0), (1, .int p1), (2, .int p2)] := hl
  refine lv_aload_n hx hb dX11_reckoned_0 rfl (lv_at hl 0 rfl) ?_
  refine lv_iload_n hx hb dX11_reckoned_1 rfl (lv_at hl 1 rfl) ?_
  refine lv_iload_n hx hb dX11_reckoned_2 rfl (lv_at hl 2 rfl) ?_
  refine call_V (As := [.int p1, .int p2]) (rest := []) (wr := []) FC hKn (c_X11_reckonWeek l g h0 h1 w0 w2 w3 w4 w5 w6 w7 w8 w9 w10 v0 v1 v2 v3 v4 v5 v6 v7 v8 v9 p1 p2) m_yX11_reckonWeek b_22 (ci := 11) rfl rfl rfl hP hD hS hA [0, 1] [] rfl (by decide) rfl (by decide) (by decide) rfl hl.1 rfl (Nat.le_of_ble_eq_true rfl) dX11_reckoned_3 ⟨(Nat.le_of_ble_eq_true rfl), (Nat.le_of_ble_eq_true rfl)⟩ ⟨(Nat.le_of_ble_eq_true rfl), (Nat.le_of_ble_eq_true rfl)⟩ (fun u1 H locs _ hP hD hS => ?_)
  have hP : va_P g.1 vwCl [(h0, .inr (11, [.ref w0, .ref h1, .ref w2, .ref w3, .ref w4, .ref w5, .ref w6, .ref w7, .ref w8, .ref w9, .ref w10])), (h1, .inr (0, [.int 0, .int 0, .int 0, .int 0, .int 0, .int 0, .int 0, .int 0, .int 0, .int 0, .ref v0, .ref v1, .ref v2, .ref v3, .ref v4, .ref v5, .ref v6, .ref v7, .ref v8, .ref v9]))] H := hP
  have hD : va_D A [(h0, .inr (11, [.ref w0, .ref h1, .ref w2, .ref w3, .ref w4, .ref w5, .ref w6, .ref w7, .ref w8, .ref w9, .ref w10])), (h1, .inr (0, [.int 0, .int 0, .int 0, .int 0, .int 0, .int 0, .int 0, .int 0, .int 0, .int 0, .ref v0, .ref v1, .ref v2, .ref v3, .ref v4, .ref v5, .ref v6, .ref v7, .ref v8, .ref v9]))] := hD
  refine W.eq (g2 := F0 m 6 ls [.int (-2)]) rfl ?_
  refine lv_istore_n (lv' := [(3, .int (-2)), (0, .ref h0), (1, .int p1), (2, .int p2)]) hx hb dX11_reckoned_6 rfl hl (by decide) rfl (fun ls hl => ?_)
  refine lv_iload_n hx hb dX11_reckoned_7 rfl (lv_at hl 0 rfl) ?_
  refine lv_if_ge (tgt := 13) hx hb dX11_reckoned_8 (by decide) (fun h => absurd h (by decide)) (fun _ => ?_)
  refine lv_iload_n hx hb dX11_reckoned_11 rfl (lv_at hl 0 rfl) ?_
  exact rt_i FX () rfl trivial (hP.sub [0, 1] rfl) (hD.sub [0, 1] (by decide) rfl) hS (Nat.le_of_ble_eq_true rfl) (Nat.le_of_ble_eq_true rfl) dX11_reckoned_12
end
section
set_option maxRecDepth 100000 in
set_option maxHeartbeats 4000000 in
theorem c_X11_ends (l : Launch) (g : GG) (h0 : Nat) (h1 : Nat) (w0 : Nat) (w2 : Nat) (w3 : Nat) (w4 : Nat) (w5 : Nat) (w6 : Nat) (w7 : Nat) (w8 : Nat) (w9 : Nat) (w10 : Nat) (v0 : Nat) (v1 : Nat) (v2 : Nat) (v3 : Nat) (v4 : Nat) (v5 : Nat) (v6 : Nat) (v7 : Nat) (v8 : Nat) (v9 : Nat) (p1 : Int32) : Ct l g yX11_ends cX11_ends 2 (some .int) { frames := 1, cells := 0, slots := 0, locals := 21 } [.ref h0, .int p1] [(h0, .inr (11, [.ref w0, .ref h1, .ref w2, .ref w3, .ref w4, .ref w5, .ref w6, .ref w7, .ref w8, .ref w9, .ref w10])), (h1, .inr (0, [.int 0, .int 0, .int 0, .int 0, .int 0, .int 0, .int 0, .int 0, .int 0, .int 0, .ref v0, .ref v1, .ref v2, .ref v3, .ref v4, .ref v5, .ref v6, .ref v7, .ref v8, .ref v9]))] (S := Unit) (fun _ => some (.int (-2))) (fun _ => True) (fun u => [(h0, .inr (11, [.ref w0, .ref h1, .ref w2, .ref w3, .ref w4, .ref w5, .ref w6, .ref w7, .ref w8, .ref w9, .ref w10])), (h1, .inr (0, [.int 0, .int 0, .int 0, .int 0, .int 0, .int 0, .int 0, .int 0, .int 0, .int 0, .ref v0, .ref v1, .ref v2, .ref v3, .ref v4, .ref v5, .ref v6, .ref v7, .ref v8, .ref v9]))]) := by
  refine Ct.of (by decide) (Nat.le_of_ble_eq_true rfl) ?_
  intro p e s m below meth c A ls FX hP hD hS hl
  obtain ⟨FC, hr, hlk, hKn, hA, hnm⟩ := id FX
  have FC : CallFix p m c cX11_ends 2 s _ BIG RX11 := FC
  obtain ⟨hx, hb, hml, hown, hB⟩ := id FC
  have hl : lv_has ls 2 [(0, .ref h0), (1, .int p1)] := hl
  refine lv_aload_n hx hb dX11_ends_0 rfl (lv_at hl 0 rfl) ?_
  refine g_get (C := RX11) (T := TX11) (N := 11) (ci := 11) (v := .ref h1) FC hKn hP i_X11 0 rfl rfl 1 (by decide) b_10 rfl dX11_ends_1 ?_
  refine lv_iload_n hx hb dX11_ends_4 rfl (lv_at hl 1 rfl) ?_
  refine call_VN (As := [.int p1]) (rest := []) (wr := [(h0, .inr (11, [.ref w0, .ref h1, .ref w2, .ref w3, .ref w4, .ref w5, .ref w6, .ref w7, .ref w8, .ref w9, .ref w10]))]) FC hKn (c_X0_hasPlan l g h1 v0 v1 v2 v3 v4 v5 v6 v7 v8 v9 p1) m_yX0_hasPlan b_15 (ci := 0) rfl rfl rfl hP hD hS hA [1] [0] rfl (by decide) rfl (by decide) (by decide) rfl hl.1 rfl (Nat.le_of_ble_eq_true rfl) dX11_ends_5 ⟨(Nat.le_of_ble_eq_true rfl), (Nat.le_of_ble_eq_true rfl)⟩ ⟨(Nat.le_of_ble_eq_true rfl), (Nat.le_of_ble_eq_true rfl)⟩ (fun u1 H locs _ hP hD hS => ?_)
  have hP : va_P g.1 vwCl [(h0, .inr (11, [.ref w0, .ref h1, .ref w2, .ref w3, .ref w4, .ref w5, .ref w6, .ref w7, .ref w8, .ref w9, .ref w10])), (h1, .inr (0, [.int 0, .int 0, .int 0, .int 0, .int 0, .int 0, .int 0, .int 0, .int 0, .int 0, .ref v0, .ref v1, .ref v2, .ref v3, .ref v4, .ref v5, .ref v6, .ref v7, .ref v8, .ref v9]))] H := hP
  have hD : va_D A [(h0, .inr (11, [.ref w0, .ref h1, .ref w2, .ref w3, .ref w4, .ref w5, .ref w6, .ref w7, .ref w8, .ref w9, .ref w10])), (h1, .inr (0, [.int 0, .int 0, .int 0, .int 0, .int 0, .int 0, .int 0, .int 0, .int 0, .int 0, .ref v0, .ref v1, .ref v2, .ref v3, .ref v4, .ref v5, .ref v6, .ref v7, .ref v8, .ref v9]))] := hD
  refine W.eq (g2 := F0 m 8 ls [.int 0]) rfl ?_
  refine lv_if_eq (tgt := 22) hx hb dX11_ends_8 (by decide) (fun _ => ?_) (fun h => absurd h (by decide))
  refine lv_bipush (v := -2) hx hb dX11_ends_22 (by decide) ?_
  exact rt_i FX () rfl trivial (hP.sub [0, 1] rfl) (hD.sub [0, 1] (by decide) rfl) hS (Nat.le_of_ble_eq_true rfl) (Nat.le_of_ble_eq_true rfl) dX11_ends_24
set_option maxRecDepth 100000 in
set_option maxHeartbeats 4000000 in
theorem c_X11_joined (l : Launch) (g : GG) (h0 : Nat) (h1 : Nat) (w0 : Nat) (w2 : Nat) (w3 : Nat) (w4 : Nat) (w5 : Nat) (w6 : Nat) (w7 : Nat) (w8 : Nat) (w9 : Nat) (w10 : Nat) (v0 : Nat) (v1 : Nat) (v2 : Nat) (v3 : Nat) (v4 : Nat) (v5 : Nat) (v6 : Nat) (v7 : Nat) (v8 : Nat) (v9 : Nat) (p1 : Int32) : Ct l g yX11_joined cX11_joined 2 (some .int) { frames := 1, cells := 0, slots := 0, locals := 20 } [.ref h0, .int p1] [(h0, .inr (11, [.ref w0, .ref h1, .ref w2, .ref w3, .ref w4, .ref w5, .ref w6, .ref w7, .ref w8, .ref w9, .ref w10])), (h1, .inr (0, [.int 0, .int 0, .int 0, .int 0, .int 0, .int 0, .int 0, .int 0, .int 0, .int 0, .ref v0, .ref v1, .ref v2, .ref v3, .ref v4, .ref v5, .ref v6, .ref v7, .ref v8, .ref v9]))] (S := Unit) (fun _ => some (.int (-2))) (fun _ => True) (fun u => [(h0, .inr (11, [.ref w0, .ref h1, .ref w2, .ref w3, .ref w4, .ref w5, .ref w6, .ref w7, .ref w8, .ref w9, .ref w10])), (h1, .inr (0, [.int 0, .int 0, .int 0, .int 0, .int 0, .int 0, .int 0, .int 0, .int 0, .int 0, .ref v0, .ref v1, .ref v2, .ref v3, .ref v4, .ref v5, .ref v6, .ref v7, .ref v8, .ref v9]))]) := by
  refine Ct.of (by decide) (Nat.le_of_ble_eq_true rfl) ?_
  intro p e s m below meth c A ls FX hP hD hS hl
  obtain ⟨FC, hr, hlk, hKn, hA, hnm⟩ := id FX
  have FC : CallFix p m c cX11_joined 2 s _ BIG RX11 := FC
  obtain ⟨hx, hb, hml, hown, hB⟩ := id FC
  have hl : lv_has ls 2 [(0, .ref h0), (1, .int p1)] := hl
  refine lv_aload_n hx hb dX11_joined_0 rfl (lv_at hl 0 rfl) ?_
  refine g_get (C := RX11) (T := TX11) (N := 11) (ci := 11) (v := .ref h1) FC hKn hP i_X11 0 rfl rfl 1 (by decide) b_10 rfl dX11_joined_1 ?_
  refine call_VN (As := []) (rest := []) (wr := [(h0, .inr (11, [.ref w0, .ref h1, .ref w2, .ref w3, .ref w4, .ref w5, .ref w6, .ref w7, .ref w8, .ref w9, .ref w10]))]) FC hKn (c_X0_stands l g h1 v0 v1 v2 v3 v4 v5 v6 v7 v8 v9) m_yX0_stands b_11 (ci := 0) rfl rfl rfl hP hD hS hA [1] [0] rfl (by decide) rfl (by decide) (by decide) rfl hl.1 rfl (Nat.le_of_ble_eq_true rfl) dX11_joined_4 ⟨(Nat.le_of_ble_eq_true rfl), (Nat.le_of_ble_eq_true rfl)⟩ ⟨(Nat.le_of_ble_eq_true rfl), (Nat.le_of_ble_eq_true rfl)⟩ (fun u1 H locs _ hP hD hS => ?_)
  have hP : va_P g.1 vwCl [(h0, .inr (11, [.ref w0, .ref h1, .ref w2, .ref w3, .ref w4, .ref w5, .ref w6, .ref w7, .ref w8, .ref w9, .ref w10])), (h1, .inr (0, [.int 0, .int 0, .int 0, .int 0, .int 0, .int 0, .int 0, .int 0, .int 0, .int 0, .ref v0, .ref v1, .ref v2, .ref v3, .ref v4, .ref v5, .ref v6, .ref v7, .ref v8, .ref v9]))] H := hP
  have hD : va_D A [(h0, .inr (11, [.ref w0, .ref h1, .ref w2, .ref w3, .ref w4, .ref w5, .ref w6, .ref w7, .ref w8, .ref w9, .ref w10])), (h1, .inr (0, [.int 0, .int 0, .int 0, .int 0, .int 0, .int 0, .int 0, .int 0, .int 0, .int 0, .ref v0, .ref v1, .ref v2, .ref v3, .ref v4, .ref v5, .ref v6, .ref v7, .ref v8, .ref v9]))] := hD
  refine W.eq (g2 := F0 m 7 ls [.int 0]) rfl ?_
  refine lv_if_eq (tgt := 20) hx hb dX11_joined_7 (by decide) (fun _ => ?_) (fun h => absurd h (by decide))
  refine lv_bipush (v := -2) hx hb dX11_joined_20 (by decide) ?_
  exact rt_i FX () rfl trivial (hP.sub [0, 1] rfl) (hD.sub [0, 1] (by decide) rfl) hS (Nat.le_of_ble_eq_true rfl) (Nat.le_of_ble_eq_true rfl) dX11_joined_22
set_option maxRecDepth 100000 in
set_option maxHeartbeats 4000000 in
theorem c_X11_letter (l : Launch) (g : GG) (h0 : Nat) (h1 : Nat) (w0 : Nat) (w2 : Nat) (w3 : Nat) (w4 : Nat) (w5 : Nat) (w6 : Nat) (w7 : Nat) (w8 : Nat) (w9 : Nat) (w10 : Nat) (v0 : Nat) (v1 : Nat) (v2 : Nat) (v3 : Nat) (v4 : Nat) (v5 : Nat) (v6 : Nat) (v7 : Nat) (v8 : Nat) (v9 : Nat) (p1 : Int32) (p2 : Int32) : Ct l g yX11_letter cX11_letter 3 (some .int) { frames := 1, cells := 0, slots := 0, locals := 21 } [.ref h0, .int p1, .int p2] [(h0, .inr (11, [.ref w0, .ref h1, .ref w2, .ref w3, .ref w4, .ref w5, .ref w6, .ref w7, .ref w8, .ref w9, .ref w10])), (h1, .inr (0, [.int 0, .int 0, .int 0, .int 0, .int 0, .int 0, .int 0, .int 0, .int 0, .int 0, .ref v0, .ref v1, .ref v2, .ref v3, .ref v4, .ref v5, .ref v6, .ref v7, .ref v8, .ref v9]))] (S := Unit) (fun _ => some (.int (-2))) (fun _ => True) (fun u => [(h0, .inr (11, [.ref w0, .ref h1, .ref w2, .ref w3, .ref w4, .ref w5, .ref w6, .ref w7, .ref w8, .ref w9, .ref w10])), (h1, .inr (0, [.int 0, .int 0, .int 0, .int 0, .int 0, .int 0, .int 0, .int 0, .int 0, .int 0, .ref v0, .ref v1, .ref v2, .ref v3, .ref v4, .ref v5, .ref v6, .ref v7, .ref v8, .ref v9]))]) := by
  refine Ct.of (by decide) (Nat.le_of_ble_eq_true rfl) ?_
  intro p e s m below meth c A ls FX hP hD hS hl
  obtain ⟨FC, hr, hlk, hKn, hA, hnm⟩ := id FX
  have FC : CallFix p m c cX11_letter 3 s _ BIG RX11 := FC
  obtain ⟨hx, hb, hml, hown, hB⟩ := id FC
  have hl : lv_has ls 3 [(0, .ref h0), (1, .int p1), (2, .int p2)] := hl
  refine lv_aload_n hx hb dX11_letter_0 rfl (lv_at hl 0 rfl) ?_
  refine g_get (C := RX11) (T := TX11) (N := 11) (ci := 11) (v := .ref h1) FC hKn hP i_X11 0 rfl rfl 1 (by decide) b_10 rfl dX11_letter_1 ?_
  refine lv_iload_n hx hb dX11_letter_4 rfl (lv_at hl 2 rfl) ?_
  refine call_VN (As := [.int p2]) (rest := []) (wr := [(h0, .inr (11, [.ref w0, .ref h1, .ref w2, .ref w3, .ref w4, .ref w5, .ref w6, .ref w7, .ref w8, .ref w9, .ref w10]))]) FC hKn (c_X0_hasNews l g h1 v0 v1 v2 v3 v4 v5 v6 v7 v8 v9 p2) m_yX0_hasNews b_16 (ci := 0) rfl rfl rfl hP hD hS hA [1] [0] rfl (by decide) rfl (by decide) (by decide) rfl hl.1 rfl (Nat.le_of_ble_eq_true rfl) dX11_letter_5 ⟨(Nat.le_of_ble_eq_true rfl), (Nat.le_of_ble_eq_true rfl)⟩ ⟨(Nat.le_of_ble_eq_true rfl), (Nat.le_of_ble_eq_true rfl)⟩ (fun u1 H locs _ hP hD hS => ?_)
  have hP : va_P g.1 vwCl [(h0, .inr (11, [.ref w0, .ref h1, .ref w2, .ref w3, .ref w4, .ref w5, .ref w6, .ref w7, .ref w8, .ref w9, .ref w10])), (h1, .inr (0, [.int 0, .int 0, .int 0, .int 0, .int 0, .int 0, .int 0, .int 0, .int 0, .int 0, .ref v0, .ref v1, .ref v2, .ref v3, .ref v4, .ref v5, .ref v6, .ref v7, .ref v8, .ref v9]))] H := hP
  have hD : va_D A [(h0, .inr (11, [.ref w0, .ref h1, .ref w2, .ref w3, .ref w4, .ref w5, .ref w6, .ref w7, .ref w8, .ref w9, .ref w10])), (h1, .inr (0, [.int 0, .int 0, .int 0, .int 0, .int 0, .int 0, .int 0, .int 0, .int 0, .int 0, .ref v0, .ref v1, .ref v2, .ref v3, .ref v4, .ref v5, .ref v6, .ref v7, .ref v8, .ref v9]))] := hD
  refine W.eq (g2 := F0 m 8 ls [.int 0]) rfl ?_
  refine lv_if_eq (tgt := 21) hx hb dX11_letter_8 (by decide) (fun _ => ?_) (fun h => absurd h (by decide))
  refine lv_bipush (v := -2) hx hb dX11_letter_21 (by decide) ?_
  exact rt_i FX () rfl trivial (hP.sub [0, 1] rfl) (hD.sub [0, 1] (by decide) rfl) hS (Nat.le_of_ble_eq_true rfl) (Nat.le_of_ble_eq_true rfl) dX11_letter_23
set_option maxRecDepth 100000 in
set_option maxHeartbeats 4000000 in
theorem c_X11_all (l : Launch) (g : GG) (h0 : Nat) (h1 : Nat) (w0 : Nat) (w2 : Nat) (w3 : Nat) (w4 : Nat) (w5 : Nat) (w6 : Nat) (w7 : Nat) (w8 : Nat) (w9 : Nat) (w10 : Nat) (v0 : Nat) (v1 : Nat) (v2 : Nat) (v3 : Nat) (v4 : Nat) (v5 : Nat) (v6 : Nat) (v7 : Nat) (v8 : Nat) (v9 : Nat) : Ct l g yX11_all cX11_all 1 (some .int) { frames := 1, cells := 0, slots := 0, locals := 20 } [.ref h0] [(h0, .inr (11, [.ref w0, .ref h1, .ref w2, .ref w3, .ref w4, .ref w5, .ref w6, .ref w7, .ref w8, .ref w9, .ref w10])), (h1, .inr (0, [.int 0, .int 0, .int 0, .int 0, .int 0, .int 0, .int 0, .int 0, .int 0, .int 0, .ref v0, .ref v1, .ref v2, .ref v3, .ref v4, .ref v5, .ref v6, .ref v7, .ref v8, .ref v9]))] (S := Unit) (fun _ => some (.int (-2))) (fun _ => True) (fun u => [(h0, .inr (11, [.ref w0, .ref h1, .ref w2, .ref w3, .ref w4, .ref w5, .ref w6, .ref w7, .ref w8, .ref w9, .ref w10])), (h1, .inr (0, [.int 0, .int 0, .int 0, .int 0, .int 0, .int 0, .int 0, .int 0, .int 0, .int 0, .ref v0, .ref v1, .ref v2, .ref v3, .ref v4, .ref v5, .ref v6, .ref v7, .ref v8, .ref v9]))]) := by
  refine Ct.of (by decide) (Nat.le_of_ble_eq_true rfl) ?_
  intro p e s m below meth c A ls FX hP hD hS hl
  obtain ⟨FC, hr, hlk, hKn, hA, hnm⟩ := id FX
  have FC : CallFix p m c cX11_all 1 s _ BIG RX11 := FC
  obtain ⟨hx, hb, hml, hown, hB⟩ := id FC
  have hl : lv_has ls 1 [(0, .ref h0)] := hl
  refine lv_aload_n hx hb dX11_all_0 rfl (lv_at hl 0 rfl) ?_
  refine g_get (C := RX11) (T := TX11) (N := 11) (ci := 11) (v := .ref h1) FC hKn hP i_X11 0 rfl rfl 1 (by decide) b_10 rfl dX11_all_1 ?_
  refine call_VN (As := []) (rest := []) (wr := [(h0, .inr (11, [.ref w0, .ref h1, .ref w2, .ref w3, .ref w4, .ref w5, .ref w6, .ref w7, .ref w8, .ref w9, .ref w10]))]) FC hKn (c_X0_stands l g h1 v0 v1 v2 v3 v4 v5 v6 v7 v8 v9) m_yX0_stands b_11 (ci := 0) rfl rfl rfl hP hD hS hA [1] [0] rfl (by decide) rfl (by decide) (by decide) rfl hl.1 rfl (Nat.le_of_ble_eq_true rfl) dX11_all_4 ⟨(Nat.le_of_ble_eq_true rfl), (Nat.le_of_ble_eq_true rfl)⟩ ⟨(Nat.le_of_ble_eq_true rfl), (Nat.le_of_ble_eq_true rfl)⟩ (fun u1 H locs _ hP hD hS => ?_)
  have hP : va_P g.1 vwCl [(h0, .inr (11, [.ref w0, .ref h1, .ref w2, .ref w3, .ref w4, .ref w5, .ref w6, .ref w7, .ref w8, .ref w9, .ref w10])), (h1, .inr (0, [.int 0, .int 0, .int 0, .int 0, .int 0, .int 0, .int 0, .int 0, .int 0, .int 0, .ref v0, .ref v1, .ref v2, .ref v3, .ref v4, .ref v5, .ref v6, .ref v7, .ref v8, .ref v9]))] H := hP
  have hD : va_D A [(h0, .inr (11, [.ref w0, .ref h1, .ref w2, .ref w3, .ref w4, .ref w5, .ref w6, .ref w7, .ref w8, .ref w9, .ref w10])), (h1, .inr (0, [.int 0, .int 0, .int 0, .int 0, .int 0, .int 0, .int 0, .int 0, .int 0, .int 0, .ref v0, .ref v1, .ref v2, .ref v3, .ref v4, .ref v5, .ref v6, .ref v7, .ref v8, .ref v9]))] := hD
  refine W.eq (g2 := F0 m 7 ls [.int 0]) rfl ?_
  refine lv_if_ne (tgt := 13) hx hb dX11_all_7 (by decide) (fun h => absurd h (by decide)) (fun _ => ?_)
  refine lv_bipush (v := -2) hx hb dX11_all_10 (by decide) ?_
  exact rt_i FX () rfl trivial (hP.sub [0, 1] rfl) (hD.sub [0, 1] (by decide) rfl) hS (Nat.le_of_ble_eq_true rfl) (Nat.le_of_ble_eq_true rfl) dX11_all_12
set_option maxRecDepth 100000 in
set_option maxHeartbeats 4000000 in
theorem c_X11_heard (l : Launch) (g : GG) (h0 : Nat) (h1 : Nat) (w0 : Nat) (w2 : Nat) (w3 : Nat) (w4 : Nat) (w5 : Nat) (w6 : Nat) (w7 : Nat) (w8 : Nat) (w9 : Nat) (w10 : Nat) (v0 : Nat) (v1 : Nat) (v2 : Nat) (v3 : Nat) (v4 : Nat) (v5 : Nat) (v6 : Nat) (v7 : Nat) (v8 : Nat) (v9 : Nat) (p1 : Int32) (p2 : Int32) : Ct l g yX11_heard cX11_heard 3 (some .int) { frames := 1, cells := 0, slots := 0, locals := 20 } [.ref h0, .int p1, .int p2] [(h0, .inr (11, [.ref w0, .ref h1, .ref w2, .ref w3, .ref w4, .ref w5, .ref w6, .ref w7, .ref w8, .ref w9, .ref w10])), (h1, .inr (0, [.int 0, .int 0, .int 0, .int 0, .int 0, .int 0, .int 0, .int 0, .int 0, .int 0, .ref v0, .ref v1, .ref v2, .ref v3, .ref v4, .ref v5, .ref v6, .ref v7, .ref v8, .ref v9]))] (S := Unit) (fun _ => some (.int (-2))) (fun _ => True) (fun u => [(h0, .inr (11, [.ref w0, .ref h1, .ref w2, .ref w3, .ref w4, .ref w5, .ref w6, .ref w7, .ref w8, .ref w9, .ref w10])), (h1, .inr (0, [.int 0, .int 0, .int 0, .int 0, .int 0, .int 0, .int 0, .int 0, .int 0, .int 0, .ref v0, .ref v1, .ref v2, .ref v3, .ref v4, .ref v5, .ref v6, .ref v7, .ref v8, .ref v9]))]) := by
  refine Ct.of (by decide) (Nat.le_of_ble_eq_true rfl) ?_
  intro p e s m below meth c A ls FX hP hD hS hl
  obtain ⟨FC, hr, hlk, hKn, hA, hnm⟩ := id FX
  have FC : CallFix p m c cX11_heard 3 s _ BIG RX11 := FC
  obtain ⟨hx, hb, hml, hown, hB⟩ := id FC
  have hl : lv_has ls 3 [(0, .ref h0), (1, .int p1), (2, .int p2)] := hl
  refine lv_aload_n hx hb dX11_heard_0 rfl (lv_at hl 0 rfl) ?_
  refine g_get (C := RX11) (T := TX11) (N := 11) (ci := 11) (v := .ref h1) FC hKn hP i_X11 0 rfl rfl 1 (by decide) b_10 rfl dX11_heard_1 ?_
  refine call_VN (As := []) (rest := []) (wr := [(h0, .inr (11, [.ref w0, .ref h1, .ref w2, .ref w3, .ref w4, .ref w5, .ref w6, .ref w7, .ref w8, .ref w9, .ref w10]))]) FC hKn (c_X0_stands l g h1 v0 v1 v2 v3 v4 v5 v6 v7 v8 v9) m_yX0_stands b_11 (ci := 0) rfl rfl rfl hP hD hS hA [1] [0] rfl (by decide) rfl (by decide) (by decide) rfl hl.1 rfl (Nat.le_of_ble_eq_true rfl) dX11_heard_4 ⟨(Nat.le_of_ble_eq_true rfl), (Nat.le_of_ble_eq_true rfl)⟩ ⟨(Nat.le_of_ble_eq_true rfl), (Nat.le_of_ble_eq_true rfl)⟩ (fun u1 H locs _ hP hD hS => ?_)
  have hP : va_P g.1 vwCl [(h0, .inr (11, [.ref w0, .ref h1, .ref w2, .ref w3, .ref w4, .ref w5, .ref w6, .ref w7, .ref w8, .ref w9, .ref w10])), (h1, .inr (0, [.int 0, .int 0, .int 0, .int 0, .int 0, .int 0, .int 0, .int 0, .int 0, .int 0, .ref v0, .ref v1, .ref v2, .ref v3, .ref v4, .ref v5, .ref v6, .ref v7, .ref v8, .ref v9]))] H := hP
  have hD : va_D A [(h0, .inr (11, [.ref w0, .ref h1, .ref w2, .ref w3, .ref w4, .ref w5, .ref w6, .ref w7, .ref w8, .ref w9, .ref w10])), (h1, .inr (0, [.int 0, .int 0, .int 0, .int 0, .int 0, .int 0, .int 0, .int 0, .int 0, .int 0, .ref v0, .ref v1, .ref v2, .ref v3, .ref v4, .ref v5, .ref v6, .ref v7, .ref v8, .ref v9]))] := hD
  refine W.eq (g2 := F0 m 7 ls [.int 0]) rfl ?_
  refine lv_if_eq (tgt := 29) hx hb dX11_heard_7 (by decide) (fun _ => ?_) (fun h => absurd h (by decide))
  refine lv_bipush (v := -2) hx hb dX11_heard_29 (by decide) ?_
  exact rt_i FX () rfl trivial (hP.sub [0, 1] rfl) (hD.sub [0, 1] (by decide) rfl) hS (Nat.le_of_ble_eq_true rfl) (Nat.le_of_ble_eq_true rfl) dX11_heard_31
set_option maxRecDepth 100000 in
set_option maxHeartbeats 4000000 in
theorem c_X11_whom (l : Launch) (g : GG) (h0 : Nat) (h1 : Nat) (w0 : Nat) (w2 : Nat) (w3 : Nat) (w4 : Nat) (w5 : Nat) (w6 : Nat) (w7 : Nat) (w8 : Nat) (w9 : Nat) (w10 : Nat) (v0 : Nat) (v1 : Nat) (v2 : Nat) (v3 : Nat) (v4 : Nat) (v5 : Nat) (v6 : Nat) (v7 : Nat) (v8 : Nat) (v9 : Nat) : Ct l g yX11_whom cX11_whom 1 (some .int) { frames := 1, cells := 0, slots := 0, locals := 20 } [.ref h0] [(h0, .inr (11, [.ref w0, .ref h1, .ref w2, .ref w3, .ref w4, .ref w5, .ref w6, .ref w7, .ref w8, .ref w9, .ref w10])), (h1, .inr (0, [.int 0, .int 0, .int 0, .int 0, .int 0, .int 0, .int 0, .int 0, .int 0, .int 0, .ref v0, .ref v1, .ref v2, .ref v3, .ref v4, .ref v5, .ref v6, .ref v7, .ref v8, .ref v9]))] (S := Unit) (fun _ => some (.int (-2))) (fun _ => True) (fun u => [(h0, .inr (11, [.ref w0, .ref h1, .ref w2, .ref w3, .ref w4, .ref w5, .ref w6, .ref w7, .ref w8, .ref w9, .ref w10])), (h1, .inr (0, [.int 0, .int 0, .int 0, .int 0, .int 0, .int 0, .int 0, .int 0, .int 0, .int 0, .ref v0, .ref v1, .ref v2, .ref v3, .ref v4, .ref v5, .ref v6, .ref v7, .ref v8, .ref v9]))]) := by
  refine Ct.of (by decide) (Nat.le_of_ble_eq_true rfl) ?_
  intro p e s m below meth c A ls FX hP hD hS hl
  obtain ⟨FC, hr, hlk, hKn, hA, hnm⟩ := id FX
  have FC : CallFix p m c cX11_whom 1 s _ BIG RX11 := FC
  obtain ⟨hx, hb, hml, hown, hB⟩ := id FC
  have hl : lv_has ls 1 [(0, .ref h0)] := hl
  refine lv_aload_n hx hb dX11_whom_0 rfl (lv_at hl 0 rfl) ?_
  refine g_get (C := RX11) (T := TX11) (N := 11) (ci := 11) (v := .ref h1) FC hKn hP i_X11 0 rfl rfl 1 (by decide) b_10 rfl dX11_whom_1 ?_
  refine call_VN (As := []) (rest := []) (wr := [(h0, .inr (11, [.ref w0, .ref h1, .ref w2, .ref w3, .ref w4, .ref w5, .ref w6, .ref w7, .ref w8, .ref w9, .ref w10]))]) FC hKn (c_X0_stands l g h1 v0 v1 v2 v3 v4 v5 v6 v7 v8 v9) m_yX0_stands b_11 (ci := 0) rfl rfl rfl hP hD hS hA [1] [0] rfl (by decide) rfl (by decide) (by decide) rfl hl.1 rfl (Nat.le_of_ble_eq_true rfl) dX11_whom_4 ⟨(Nat.le_of_ble_eq_true rfl), (Nat.le_of_ble_eq_true rfl)⟩ ⟨(Nat.le_of_ble_eq_true rfl), (Nat.le_of_ble_eq_true rfl)⟩ (fun u1 H locs _ hP hD hS => ?_)
  have hP : va_P g.1 vwCl [(h0, .inr (11, [.ref w0, .ref h1, .ref w2, .ref w3, .ref w4, .ref w5, .ref w6, .ref w7, .ref w8, .ref w9, .ref w10])), (h1, .inr (0, [.int 0, .int 0, .int 0, .int 0, .int 0, .int 0, .int 0, .int 0, .int 0, .int 0, .ref v0, .ref v1, .ref v2, .ref v3, .ref v4, .ref v5, .ref v6, .ref v7, .ref v8, .ref v9]))] H := hP
  have hD : va_D A [(h0, .inr (11, [.ref w0, .ref h1, .ref w2, .ref w3, .ref w4, .ref w5, .ref w6, .ref w7, .ref w8, .ref w9, .ref w10])), (h1, .inr (0, [.int 0, .int 0, .int 0, .int 0, .int 0, .int 0, .int 0, .int 0, .int 0, .int 0, .ref v0, .ref v1, .ref v2, .ref v3, .ref v4, .ref v5, .ref v6, .ref v7, .ref v8, .ref v9]))] := hD
  refine W.eq (g2 := F0 m 7 ls [.int 0]) rfl ?_
  refine lv_if_eq (tgt := 23) hx hb dX11_whom_7 (by decide) (fun _ => ?_) (fun h => absurd h (by decide))
  refine lv_bipush (v := -2) hx hb dX11_whom_23 (by decide) ?_
  exact rt_i FX () rfl trivial (hP.sub [0, 1] rfl) (hD.sub [0, 1] (by decide) rfl) hS (Nat.le_of_ble_eq_true rfl) (Nat.le_of_ble_eq_true rfl) dX11_whom_25
set_option maxRecDepth 100000 in
set_option maxHeartbeats 4000000 in
theorem c_X11_first (l : Launch) (g : GG) (h0 : Nat) (h1 : Nat) (w0 : Nat) (w2 : Nat) (w3 : Nat) (w4 : Nat) (w5 : Nat) (w6 : Nat) (w7 : Nat) (w8 : Nat) (w9 : Nat) (w10 : Nat) (v0 : Nat) (v1 : Nat) (v2 : Nat) (v3 : Nat) (v4 : Nat) (v5 : Nat) (v6 : Nat) (v7 : Nat) (v8 : Nat) (v9 : Nat) : Ct l g yX11_first cX11_first 1 (some .int) { frames := 1, cells := 0, slots := 0, locals := 20 } [.ref h0] [(h0, .inr (11, [.ref w0, .ref h1, .ref w2, .ref w3, .ref w4, .ref w5, .ref w6, .ref w7, .ref w8, .ref w9, .ref w10])), (h1, .inr (0, [.int 0, .int 0, .int 0, .int 0, .int 0, .int 0, .int 0, .int 0, .int 0, .int 0, .ref v0, .ref v1, .ref v2, .ref v3, .ref v4, .ref v5, .ref v6, .ref v7, .ref v8, .ref v9]))] (S := Unit) (fun _ => some (.int (-2))) (fun _ => True) (fun u => [(h0, .inr (11, [.ref w0, .ref h1, .ref w2, .ref w3, .ref w4, .ref w5, .ref w6, .ref w7, .ref w8, .ref w9, .ref w10])), (h1, .inr (0, [.int 0, .int 0, .int 0, .int 0, .int 0, .int 0, .int 0, .int 0, .int 0, .int 0, .ref v0, .ref v1, .ref v2, .ref v3, .ref v4, .ref v5, .ref v6, .ref v7, .ref v8, .ref v9]))]) := by
  refine Ct.of (by decide) (Nat.le_of_ble_eq_true rfl) ?_
  intro p e s m below meth c A ls FX hP hD hS hl
  obtain ⟨FC, hr, hlk, hKn, hA, hnm⟩ := id FX
  have FC : CallFix p m c cX11_first 1 s _ BIG RX11 := FC
  obtain ⟨hx, hb, hml, hown, hB⟩ := id FC
  have hl : lv_has ls 1 [(0, .ref h0)] := hl
  refine lv_aload_n hx hb dX11_first_0 rfl (lv_at hl 0 rfl) ?_
  refine g_get (C := RX11) (T := TX11) (N := 11) (ci := 11) (v := .ref h1) FC hKn hP i_X11 0 rfl rfl 1 (by decide) b_10 rfl dX11_first_1 ?_
  refine call_VN (As := []) (rest := []) (wr := [(h0, .inr (11, [.ref w0, .ref h1, .ref w2, .ref w3, .ref w4, .ref w5, .ref w6, .ref w7, .ref w8, .ref w9, .ref w10]))]) FC hKn (c_X0_stands l g h1 v0 v1 v2 v3 v4 v5 v6 v7 v8 v9) m_yX0_stands b_11 (ci := 0) rfl rfl rfl hP hD hS hA [1] [0] rfl (by decide) rfl (by decide) (by decide) rfl hl.1 rfl (Nat.le_of_ble_eq_true rfl) dX11_first_4 ⟨(Nat.le_of_ble_eq_true rfl), (Nat.le_of_ble_eq_true rfl)⟩ ⟨(Nat.le_of_ble_eq_true rfl), (Nat.le_of_ble_eq_true rfl)⟩ (fun u1 H locs _ hP hD hS => ?_)
  have hP : va_P g.1 vwCl [(h0, .inr (11, [.ref w0, .ref h1, .ref w2, .ref w3, .ref w4, .ref w5, .ref w6, .ref w7, .ref w8, .ref w9, .ref w10])), (h1, .inr (0, [.int 0, .int 0, .int 0, .int 0, .int 0, .int 0, .int 0, .int 0, .int 0, .int 0, .ref v0, .ref v1, .ref v2, .ref v3, .ref v4, .ref v5, .ref v6, .ref v7, .ref v8, .ref v9]))] H := hP
  have hD : va_D A [(h0, .inr (11, [.ref w0, .ref h1, .ref w2, .ref w3, .ref w4, .ref w5, .ref w6, .ref w7, .ref w8, .ref w9, .ref w10])), (h1, .inr (0, [.int 0, .int 0, .int 0, .int 0, .int 0, .int 0, .int 0, .int 0, .int 0, .int 0, .ref v0, .ref v1, .ref v2, .ref v3, .ref v4, .ref v5, .ref v6, .ref v7, .ref v8, .ref v9]))] := hD
  refine W.eq (g2 := F0 m 7 ls [.int 0]) rfl ?_
  refine lv_if_eq (tgt := 20) hx hb dX11_first_7 (by decide) (fun _ => ?_) (fun h => absurd h (by decide))
  refine lv_bipush (v := -2) hx hb dX11_first_20 (by decide) ?_
  exact rt_i FX () rfl trivial (hP.sub [0, 1] rfl) (hD.sub [0, 1] (by decide) rfl) hS (Nat.le_of_ble_eq_true rfl) (Nat.le_of_ble_eq_true rfl) dX11_first_22
set_option maxRecDepth 100000 in
set_option maxHeartbeats 4000000 in
theorem c_X11_read (l : Launch) (g : GG) (h0 : Nat) (h1 : Nat) (w0 : Nat) (w2 : Nat) (w3 : Nat) (w4 : Nat) (w5 : Nat) (w6 : Nat) (w7 : Nat) (w8 : Nat) (w9 : Nat) (w10 : Nat) (v0 : Nat) (v1 : Nat) (v2 : Nat) (v3 : Nat) (v4 : Nat) (v5 : Nat) (v6 : Nat) (v7 : Nat) (v8 : Nat) (v9 : Nat) (p1 : Int32) : Ct l g yX11_read cX11_read 3 (some .int) { frames := 2, cells := 0, slots := 0, locals := 42 } [.ref h0, .int p1] [(h0, .inr (11, [.ref w0, .ref h1, .ref w2, .ref w3, .ref w4, .ref w5, .ref w6, .ref w7, .ref w8, .ref w9, .ref w10])), (h1, .inr (0, [.int 0, .int 0, .int 0, .int 0, .int 0, .int 0, .int 0, .int 0, .int 0, .int 0, .ref v0, .ref v1, .ref v2, .ref v3, .ref v4, .ref v5, .ref v6, .ref v7, .ref v8, .ref v9]))] (S := Unit) (fun _ => some (.int (-2))) (fun _ => True) (fun u => [(h0, .inr (11, [.ref w0, .ref h1, .ref w2, .ref w3, .ref w4, .ref w5, .ref w6, .ref w7, .ref w8, .ref w9, .ref w10])), (h1, .inr (0, [.int 0, .int 0, .int 0, .int 0, .int 0, .int 0, .int 0, .int 0, .int 0, .int 0, .ref v0, .ref v1, .ref v2, .ref v3, .ref v4, .ref v5, .ref v6, .ref v7, .ref v8, .ref v9]))]) := by
  refine Ct.of (by decide) (Nat.le_of_ble_eq_true rfl) ?_
  intro p e s m below meth c A ls FX hP hD hS hl
  obtain ⟨FC, hr, hlk, hKn, hA, hnm⟩ := id FX
  have FC : CallFix p m c cX11_read 3 s _ BIG RX11 := FC
  obtain ⟨hx, hb, hml, hown, hB⟩ := id FC
  have hl : lv_has ls 3 [(0, .ref h0), (1, .int p1)] := hl
  refine lv_aload_n hx hb dX11_read_0 rfl (lv_at hl 0 rfl) ?_
  refine lv_iload_n hx hb dX11_read_1 rfl (lv_at hl 1 rfl) ?_
  refine call_V (As := [.int p1]) (rest := []) (wr := []) FC hKn (c_X11_takeWeek l g h0 h1 w0 w2 w3 w4 w5 w6 w7 w8 w9 w10 v0 v1 v2 v3 v4 v5 v6 v7 v8 v9 p1) m_yX11_takeWeek b_18 (ci := 11) rfl rfl rfl hP hD hS hA [0, 1] [] rfl (by decide) rfl (by decide) (by decide) rfl hl.1 rfl (Nat.le_of_ble_eq_true rfl) dX11_read_2 ⟨(Nat.le_of_ble_eq_true rfl), (Nat.le_of_ble_eq_true rfl)⟩ ⟨(Nat.le_of_ble_eq_true rfl), (Nat.le_of_ble_eq_true rfl)⟩ (fun u1 H locs _ hP hD hS => ?_)
  have hP : va_P g.1 vwCl [(h0, .inr (11, [.ref w0, .ref h1, .ref w2, .ref w3, .ref w4, .ref w5, .ref w6, .ref w7, .ref w8, .ref w9, .ref w10])), (h1, .inr (0, [.int 0, .int 0, .int 0, .int 0, .int 0, .int 0, .int 0, .int 0, .int 0, .int 0, .ref v0, .ref v1, .ref v2, .ref v3, .ref v4, .ref v5, .ref v6, .ref v7, .ref v8, .ref v9]))] H := hP
  have hD : va_D A [(h0, .inr (11, [.ref w0, .ref h1, .ref w2, .ref w3, .ref w4, .ref w5, .ref w6, .ref w7, .ref w8, .ref w9, .ref w10])), (h1, .inr (0, [.int 0, .int 0, .int 0, .int 0, .int 0, .int 0, .int 0, .int 0, .int 0, .int 0, .ref v0, .ref v1, .ref v2, .ref v3, .ref v4, .ref v5, .ref v6, .ref v7, .ref v8, .ref v9]))] := hD
  refine W.eq (g2 := F0 m 5 ls [.int (-2)]) rfl ?_
  refine lv_istore_n (lv' := [(2, .int (-2)), (0, .ref h0), (1, .int p1)]) hx hb dX11_read_5 rfl hl (by decide) rfl (fun ls hl => ?_)
  refine lv_iload_n hx hb dX11_read_6 rfl (lv_at hl 0 rfl) ?_
  refine lv_if_ge (tgt := 14) hx hb dX11_read_7 (by decide) (fun h => absurd h (by decide)) (fun _ => ?_)
  refine lv_iload_n hx hb dX11_read_10 rfl (lv_at hl 0 rfl) ?_
  refine lv_goto (tgt := 25) hx hb dX11_read_11 (by decide) ?_
  exact rt_i FX () rfl trivial (hP.sub [0, 1] rfl) (hD.sub [0, 1] (by decide) rfl) hS (Nat.le_of_ble_eq_true rfl) (Nat.le_of_ble_eq_true rfl) dX11_read_25
set_option maxRecDepth 100000 in
set_option maxHeartbeats 4000000 in
theorem c_X11_guess (l : Launch) (g : GG) (h0 : Nat) (h1 : Nat) (w0 : Nat) (w2 : Nat) (w3 : Nat) (w4 : Nat) (w5 : Nat) (w6 : Nat) (w7 : Nat) (w8 : Nat) (w9 : Nat) (w10 : Nat) (v0 : Nat) (v1 : Nat) (v2 : Nat) (v3 : Nat) (v4 : Nat) (v5 : Nat) (v6 : Nat) (v7 : Nat) (v8 : Nat) (v9 : Nat) (p1 : Int32) (p2 : Int32) : Ct l g yX11_guess cX11_guess 5 (some .int) { frames := 1, cells := 0, slots := 0, locals := 21 } [.ref h0, .int p1, .int p2] [(h0, .inr (11, [.ref w0, .ref h1, .ref w2, .ref w3, .ref w4, .ref w5, .ref w6, .ref w7, .ref w8, .ref w9, .ref w10])), (h1, .inr (0, [.int 0, .int 0, .int 0, .int 0, .int 0, .int 0, .int 0, .int 0, .int 0, .int 0, .ref v0, .ref v1, .ref v2, .ref v3, .ref v4, .ref v5, .ref v6, .ref v7, .ref v8, .ref v9]))] (S := Unit) (fun _ => some (.int (-2))) (fun _ => True) (fun u => [(h0, .inr (11, [.ref w0, .ref h1, .ref w2, .ref w3, .ref w4, .ref w5, .ref w6, .ref w7, .ref w8, .ref w9, .ref w10])), (h1, .inr (0, [.int 0, .int 0, .int 0, .int 0, .int 0, .int 0, .int 0, .int 0, .int 0, .int 0, .ref v0, .ref v1, .ref v2, .ref v3, .ref v4, .ref v5, .ref v6, .ref v7, .ref v8, .ref v9]))]) := by
  refine Ct.of (by decide) (Nat.le_of_ble_eq_true rfl) ?_
  intro p e s m below meth c A ls FX hP hD hS hl
  obtain ⟨FC, hr, hlk, hKn, hA, hnm⟩ := id FX
  have FC : CallFix p m c cX11_guess 5 s _ BIG RX11 := FC
  obtain ⟨hx, hb, hml, hown, hB⟩ := id FC
  have hl : lv_has ls 5 [(0, .ref h0), (1, .int p1), (2, .int p2)] := hl
  refine lv_aload_n hx hb dX11_guess_0 rfl (lv_at hl 0 rfl) ?_
  refine g_get (C := RX11) (T := TX11) (N := 11) (ci := 11) (v := .ref h1) FC hKn hP i_X11 0 rfl rfl 1 (by decide) b_10 rfl dX11_guess_1 ?_
  refine lv_iload_n hx hb dX11_guess_4 rfl (lv_at hl 2 rfl) ?_
  refine call_VN (As := [.int p2]) (rest := []) (wr := [(h0, .inr (11, [.ref w0, .ref h1, .ref w2, .ref w3, .ref w4, .ref w5, .ref w6, .ref w7, .ref w8, .ref w9, .ref w10]))]) FC hKn (c_X0_hasHearer l g h1 v0 v1 v2 v3 v4 v5 v6 v7 v8 v9 p2) m_yX0_hasHearer b_12 (ci := 0) rfl rfl rfl hP hD hS hA [1] [0] rfl (by decide) rfl (by decide) (by decide) rfl hl.1 rfl (Nat.le_of_ble_eq_true rfl) dX11_guess_5 ⟨(Nat.le_of_ble_eq_true rfl), (Nat.le_of_ble_eq_true rfl)⟩ ⟨(Nat.le_of_ble_eq_true rfl), (Nat.le_of_ble_eq_true rfl)⟩ (fun u1 H locs _ hP hD hS => ?_)
  have hP : va_P g.1 vwCl [(h0, .inr (11, [.ref w0, .ref h1, .ref w2, .ref w3, .ref w4, .ref w5, .ref w6, .ref w7, .ref w8, .ref w9, .ref w10])), (h1, .inr (0, [.int 0, .int 0, .int 0, .int 0, .int 0, .int 0, .int 0, .int 0, .int 0, .int 0, .ref v0, .ref v1, .ref v2, .ref v3, .ref v4, .ref v5, .ref v6, .ref v7, .ref v8, .ref v9]))] H := hP
  have hD : va_D A [(h0, .inr (11, [.ref w0, .ref h1, .ref w2, .ref w3, .ref w4, .ref w5, .ref w6, .ref w7, .ref w8, .ref w9, .ref w10])), (h1, .inr (0, [.int 0, .int 0, .int 0, .int 0, .int 0, .int 0, .int 0, .int 0, .int 0, .int 0, .ref v0, .ref v1, .ref v2, .ref v3, .ref v4, .ref v5, .ref v6, .ref v7, .ref v8, .ref v9]))] := hD
  refine W.eq (g2 := F0 m 8 ls [.int 0]) rfl ?_
  refine lv_if_ne (tgt := 14) hx hb dX11_guess_8 (by decide) (fun h => absurd h (by decide)) (fun _ => ?_)
  refine lv_bipush (v := -2) hx hb dX11_guess_11 (by decide) ?_
  exact rt_i FX () rfl trivial (hP.sub [0, 1] rfl) (hD.sub [0, 1] (by decide) rfl) hS (Nat.le_of_ble_eq_true rfl) (Nat.le_of_ble_eq_true rfl) dX11_guess_13
set_option maxRecDepth 100000 in
set_option maxHeartbeats 4000000 in
theorem c_X11_worsen (l : Launch) (g : GG) (h0 : Nat) (h1 : Nat) (w0 : Nat) (w2 : Nat) (w3 : Nat) (w4 : Nat) (w5 : Nat) (w6 : Nat) (w7 : Nat) (w8 : Nat) (w9 : Nat) (w10 : Nat) (v0 : Nat) (v1 : Nat) (v2 : Nat) (v3 : Nat) (v4 : Nat) (v5 : Nat) (v6 : Nat) (v7 : Nat) (v8 : Nat) (v9 : Nat) (p1 : Int32) (p2 : Int32) : Ct l g yX11_worsen cX11_worsen 3 (some .int) { frames := 1, cells := 0, slots := 0, locals := 21 } [.ref h0, .int p1, .int p2] [(h0, .inr (11, [.ref w0, .ref h1, .ref w2, .ref w3, .ref w4, .ref w5, .ref w6, .ref w7, .ref w8, .ref w9, .ref w10])), (h1, .inr (0, [.int 0, .int 0, .int 0, .int 0, .int 0, .int 0, .int 0, .int 0, .int 0, .int 0, .ref v0, .ref v1, .ref v2, .ref v3, .ref v4, .ref v5, .ref v6, .ref v7, .ref v8, .ref v9]))] (S := Unit) (fun _ => some (.int (-2))) (fun _ => True) (fun u => [(h0, .inr (11, [.ref w0, .ref h1, .ref w2, .ref w3, .ref w4, .ref w5, .ref w6, .ref w7, .ref w8, .ref w9, .ref w10])), (h1, .inr (0, [.int 0, .int 0, .int 0, .int 0, .int 0, .int 0, .int 0, .int 0, .int 0, .int 0, .ref v0, .ref v1, .ref v2, .ref v3, .ref v4, .ref v5, .ref v6, .ref v7, .ref v8, .ref v9]))]) := by
  refine Ct.of (by decide) (Nat.le_of_ble_eq_true rfl) ?_
  intro p e s m below meth c A ls FX hP hD hS hl
  obtain ⟨FC, hr, hlk, hKn, hA, hnm⟩ := id FX
  have FC : CallFix p m c cX11_worsen 3 s _ BIG RX11 := FC
  obtain ⟨hx, hb, hml, hown, hB⟩ := id FC
  have hl : lv_has ls 3 [(0, .ref h0), (1, .int p1), (2, .int p2)] := hl
  refine lv_aload_n hx hb dX11_worsen_0 rfl (lv_at hl 0 rfl) ?_
  refine g_get (C := RX11) (T := TX11) (N := 11) (ci := 11) (v := .ref h1) FC hKn hP i_X11 0 rfl rfl 1 (by decide) b_10 rfl dX11_worsen_1 ?_
  refine lv_iload_n hx hb dX11_worsen_4 rfl (lv_at hl 1 rfl) ?_
  refine call_VN (As := [.int p1]) (rest := []) (wr := [(h0, .inr (11, [.ref w0, .ref h1, .ref w2, .ref w3, .ref w4, .ref w5, .ref w6, .ref w7, .ref w8, .ref w9, .ref w10]))]) FC hKn (c_X0_hasState l g h1 v0 v1 v2 v3 v4 v5 v6 v7 v8 v9 p1) m_yX0_hasState b_13 (ci := 0) rfl rfl rfl hP hD hS hA [1] [0] rfl (by decide) rfl (by decide) (by decide) rfl hl.1 rfl (Nat.le_of_ble_eq_true rfl) dX11_worsen_5 ⟨(Nat.le_of_ble_eq_true rfl), (Nat.le_of_ble_eq_true rfl)⟩ ⟨(Nat.le_of_ble_eq_true rfl), (Nat.le_of_ble_eq_true rfl)⟩ (fun u1 H locs _ hP hD hS => ?_)
  have hP : va_P g.1 vwCl [(h0, .inr (11, [.ref w0, .ref h1, .ref w2, .ref w3, .ref w4, .ref w5, .ref w6, .ref w7, .ref w8, .ref w9, .ref w10])), (h1, .inr (0, [.int 0, .int 0, .int 0, .int 0, .int 0, .int 0, .int 0, .int 0, .int 0, .int 0, .ref v0, .ref v1, .ref v2, .ref v3, .ref v4, .ref v5, .ref v6, .ref v7, .ref v8, .ref v9]))] H := hP
  have hD : va_D A [(h0, .inr (11, [.ref w0, .ref h1, .ref w2, .ref w3, .ref w4, .ref w5, .ref w6, .ref w7, .ref w8, .ref w9, .ref w10])), (h1, .inr (0, [.int 0, .int 0, .int 0, .int 0, .int 0, .int 0, .int 0, .int 0, .int 0, .int 0, .ref v0, .ref v1, .ref v2, .ref v3, .ref v4, .ref v5, .ref v6, .ref v7, .ref v8, .ref v9]))] := hD
  refine W.eq (g2 := F0 m 8 ls [.int 0]) rfl ?_
  refine lv_if_eq (tgt := 21) hx hb dX11_worsen_8 (by decide) (fun _ => ?_) (fun h => absurd h (by decide))
  refine lv_bipush (v := -2) hx hb dX11_worsen_21 (by decide) ?_
  exact rt_i FX () rfl trivial (hP.sub [0, 1] rfl) (hD.sub [0, 1] (by decide) rfl) hS (Nat.le_of_ble_eq_true rfl) (Nat.le_of_ble_eq_true rfl) dX11_worsen_23
set_option maxRecDepth 100000 in
set_option maxHeartbeats 4000000 in
theorem c_X11_really (l : Launch) (g : GG) (h0 : Nat) (h1 : Nat) (w0 : Nat) (w2 : Nat) (w3 : Nat) (w4 : Nat) (w5 : Nat) (w6 : Nat) (w7 : Nat) (w8 : Nat) (w9 : Nat) (w10 : Nat) (v0 : Nat) (v1 : Nat) (v2 : Nat) (v3 : Nat) (v4 : Nat) (v5 : Nat) (v6 : Nat) (v7 : Nat) (v8 : Nat) (v9 : Nat) (p1 : Int32) : Ct l g yX11_really cX11_really 2 (some .int) { frames := 1, cells := 0, slots := 0, locals := 21 } [.ref h0, .int p1] [(h0, .inr (11, [.ref w0, .ref h1, .ref w2, .ref w3, .ref w4, .ref w5, .ref w6, .ref w7, .ref w8, .ref w9, .ref w10])), (h1, .inr (0, [.int 0, .int 0, .int 0, .int 0, .int 0, .int 0, .int 0, .int 0, .int 0, .int 0, .ref v0, .ref v1, .ref v2, .ref v3, .ref v4, .ref v5, .ref v6, .ref v7, .ref v8, .ref v9]))] (S := Unit) (fun _ => some (.int (-2))) (fun _ => True) (fun u => [(h0, .inr (11, [.ref w0, .ref h1, .ref w2, .ref w3, .ref w4, .ref w5, .ref w6, .ref w7, .ref w8, .ref w9, .ref w10])), (h1, .inr (0, [.int 0, .int 0, .int 0, .int 0, .int 0, .int 0, .int 0, .int 0, .int 0, .int 0, .ref v0, .ref v1, .ref v2, .ref v3, .ref v4, .ref v5, .ref v6, .ref v7, .ref v8, .ref v9]))]) := by
  refine Ct.of (by decide) (Nat.le_of_ble_eq_true rfl) ?_
  intro p e s m below meth c A ls FX hP hD hS hl
  obtain ⟨FC, hr, hlk, hKn, hA, hnm⟩ := id FX
  have FC : CallFix p m c cX11_really 2 s _ BIG RX11 := FC
  obtain ⟨hx, hb, hml, hown, hB⟩ := id FC
  have hl : lv_has ls 2 [(0, .ref h0), (1, .int p1)] := hl
  refine lv_aload_n hx hb dX11_really_0 rfl (lv_at hl 0 rfl) ?_
  refine g_get (C := RX11) (T := TX11) (N := 11) (ci := 11) (v := .ref h1) FC hKn hP i_X11 0 rfl rfl 1 (by decide) b_10 rfl dX11_really_1 ?_
  refine lv_iload_n hx hb dX11_really_4 rfl (lv_at hl 1 rfl) ?_
  refine call_VN (As := [.int p1]) (rest := []) (wr := [(h0, .inr (11, [.ref w0, .ref h1, .ref w2, .ref w3, .ref w4, .ref w5, .ref w6, .ref w7, .ref w8, .ref w9, .ref w10]))]) FC hKn (c_X0_hasState l g h1 v0 v1 v2 v3 v4 v5 v6 v7 v8 v9 p1) m_yX0_hasState b_13 (ci := 0) rfl rfl rfl hP hD hS hA [1] [0] rfl (by decide) rfl (by decide) (by decide) rfl hl.1 rfl (Nat.le_of_ble_eq_true rfl) dX11_really_5 ⟨(Nat.le_of_ble_eq_true rfl), (Nat.le_of_ble_eq_true rfl)⟩ ⟨(Nat.le_of_ble_eq_true rfl), (Nat.le_of_ble_eq_true rfl)⟩ (fun u1 H locs _ hP hD hS => ?_)
  have hP : va_P g.1 vwCl [(h0, .inr (11, [.ref w0, .ref h1, .ref w2, .ref w3, .ref w4, .ref w5, .ref w6, .ref w7, .ref w8, .ref w9, .ref w10])), (h1, .inr (0, [.int 0, .int 0, .int 0, .int 0, .int 0, .int 0, .int 0, .int 0, .int 0, .int 0, .ref v0, .ref v1, .ref v2, .ref v3, .ref v4, .ref v5, .ref v6, .ref v7, .ref v8, .ref v9]))] H := hP
  have hD : va_D A [(h0, .inr (11, [.ref w0, .ref h1, .ref w2, .ref w3, .ref w4, .ref w5, .ref w6, .ref w7, .ref w8, .ref w9, .ref w10])), (h1, .inr (0, [.int 0, .int 0, .int 0, .int 0, .int 0, .int 0, .int 0, .int 0, .int 0, .int 0, .ref v0, .ref v1, .ref v2, .ref v3, .ref v4, .ref v5, .ref v6, .ref v7, .ref v8, .ref v9]))] := hD
  refine W.eq (g2 := F0 m 8 ls [.int 0]) rfl ?_
  refine lv_if_ne (tgt := 14) hx hb dX11_really_8 (by decide) (fun h => absurd h (by decide)) (fun _ => ?_)
  refine lv_bipush (v := -2) hx hb dX11_really_11 (by decide) ?_
  exact rt_i FX () rfl trivial (hP.sub [0, 1] rfl) (hD.sub [0, 1] (by decide) rfl) hS (Nat.le_of_ble_eq_true rfl) (Nat.le_of_ble_eq_true rfl) dX11_really_13
set_option maxRecDepth 100000 in
set_option maxHeartbeats 4000000 in
theorem c_X11_doubt (l : Launch) (g : GG) (h0 : Nat) (h1 : Nat) (w0 : Nat) (w2 : Nat) (w3 : Nat) (w4 : Nat) (w5 : Nat) (w6 : Nat) (w7 : Nat) (w8 : Nat) (w9 : Nat) (w10 : Nat) (v0 : Nat) (v1 : Nat) (v2 : Nat) (v3 : Nat) (v4 : Nat) (v5 : Nat) (v6 : Nat) (v7 : Nat) (v8 : Nat) (v9 : Nat) (p1 : Int32) (p2 : Int32) (p3 : Int32) : Ct l g yX11_doubt cX11_doubt 4 (some .int) { frames := 1, cells := 0, slots := 0, locals := 21 } [.ref h0, .int p1, .int p2, .int p3] [(h0, .inr (11, [.ref w0, .ref h1, .ref w2, .ref w3, .ref w4, .ref w5, .ref w6, .ref w7, .ref w8, .ref w9, .ref w10])), (h1, .inr (0, [.int 0, .int 0, .int 0, .int 0, .int 0, .int 0, .int 0, .int 0, .int 0, .int 0, .ref v0, .ref v1, .ref v2, .ref v3, .ref v4, .ref v5, .ref v6, .ref v7, .ref v8, .ref v9]))] (S := Unit) (fun _ => some (.int (-2))) (fun _ => True) (fun u => [(h0, .inr (11, [.ref w0, .ref h1, .ref w2, .ref w3, .ref w4, .ref w5, .ref w6, .ref w7, .ref w8, .ref w9, .ref w10])), (h1, .inr (0, [.int 0, .int 0, .int 0, .int 0, .int 0, .int 0, .int 0, .int 0, .int 0, .int 0, .ref v0, .ref v1, .ref v2, .ref v3, .ref v4, .ref v5, .ref v6, .ref v7, .ref v8, .ref v9]))]) := by
  refine Ct.of (by decide) (Nat.le_of_ble_eq_true rfl) ?_
  intro p e s m below meth c A ls FX hP hD hS hl
  obtain ⟨FC, hr, hlk, hKn, hA, hnm⟩ := id FX
  have FC : CallFix p m c cX11_doubt 4 s _ BIG RX11 := FC
  obtain ⟨hx, hb, hml, hown, hB⟩ := id FC
  have hl : lv_has ls 4 [(0, .ref h0), (1, .int p1), (2, .int p2), (3, .int p3)] := hl
  refine lv_aload_n hx hb dX11_doubt_0 rfl (lv_at hl 0 rfl) ?_
  refine g_get (C := RX11) (T := TX11) (N := 11) (ci := 11) (v := .ref h1) FC hKn hP i_X11 0 rfl rfl 1 (by decide) b_10 rfl dX11_doubt_1 ?_
  refine lv_iload_n hx hb dX11_doubt_4 rfl (lv_at hl 1 rfl) ?_
  refine call_VN (As := [.int p1]) (rest := []) (wr := [(h0, .inr (11, [.ref w0, .ref h1, .ref w2, .ref w3, .ref w4, .ref w5, .ref w6, .ref w7, .ref w8, .ref w9, .ref w10]))]) FC hKn (c_X0_hasHearer l g h1 v0 v1 v2 v3 v4 v5 v6 v7 v8 v9 p1) m_yX0_hasHearer b_12 (ci := 0) rfl rfl rfl hP hD hS hA [1] [0] rfl (by decide) rfl (by decide) (by decide) rfl hl.1 rfl (Nat.le_of_ble_eq_true rfl) dX11_doubt_5 ⟨(Nat.le_of_ble_eq_true rfl), (Nat.le_of_ble_eq_true rfl)⟩ ⟨(Nat.le_of_ble_eq_true rfl), (Nat.le_of_ble_eq_true rfl)⟩ (fun u1 H locs _ hP hD hS => ?_)
  have hP : va_P g.1 vwCl [(h0, .inr (11, [.ref w0, .ref h1, .ref w2, .ref w3, .ref w4, .ref w5, .ref w6, .ref w7, .ref w8, .ref w9, .ref w10])), (h1, .inr (0, [.int 0, .int 0, .int 0, .int 0, .int 0, .int 0, .int 0, .int 0, .int 0, .int 0, .ref v0, .ref v1, .ref v2, .ref v3, .ref v4, .ref v5, .ref v6, .ref v7, .ref v8, .ref v9]))] H := hP
  have hD : va_D A [(h0, .inr (11, [.ref w0, .ref h1, .ref w2, .ref w3, .ref w4, .ref w5, .ref w6, .ref w7, .ref w8, .ref w9, .ref w10])), (h1, .inr (0, [.int 0, .int 0, .int 0, .int 0, .int 0, .int 0, .int 0, .int 0, .int 0, .int 0, .ref v0, .ref v1, .ref v2, .ref v3, .ref v4, .ref v5, .ref v6, .ref v7, .ref v8, .ref v9]))] := hD
  refine W.eq (g2 := F0 m 8 ls [.int 0]) rfl ?_
  refine lv_if_eq (tgt := 32) hx hb dX11_doubt_8 (by decide) (fun _ => ?_) (fun h => absurd h (by decide))
  refine lv_bipush (v := -2) hx hb dX11_doubt_32 (by decide) ?_
  exact rt_i FX () rfl trivial (hP.sub [0, 1] rfl) (hD.sub [0, 1] (by decide) rfl) hS (Nat.le_of_ble_eq_true rfl) (Nat.le_of_ble_eq_true rfl) dX11_doubt_34
set_option maxRecDepth 100000 in
set_option maxHeartbeats 4000000 in
theorem c_X11_undo (l : Launch) (g : GG) (h0 : Nat) (h1 : Nat) (w0 : Nat) (w2 : Nat) (w3 : Nat) (w4 : Nat) (w5 : Nat) (w6 : Nat) (w7 : Nat) (w8 : Nat) (w9 : Nat) (w10 : Nat) (v0 : Nat) (v1 : Nat) (v2 : Nat) (v3 : Nat) (v4 : Nat) (v5 : Nat) (v6 : Nat) (v7 : Nat) (v8 : Nat) (v9 : Nat) : Ct l g yX11_undo cX11_undo 2 (some .int) { frames := 1, cells := 0, slots := 0, locals := 20 } [.ref h0] [(h0, .inr (11, [.ref w0, .ref h1, .ref w2, .ref w3, .ref w4, .ref w5, .ref w6, .ref w7, .ref w8, .ref w9, .ref w10])), (h1, .inr (0, [.int 0, .int 0, .int 0, .int 0, .int 0, .int 0, .int 0, .int 0, .int 0, .int 0, .ref v0, .ref v1, .ref v2, .ref v3, .ref v4, .ref v5, .ref v6, .ref v7, .ref v8, .ref v9]))] (S := Unit) (fun _ => some (.int (-2))) (fun _ => True) (fun u => [(h0, .inr (11, [.ref w0, .ref h1, .ref w2, .ref w3, .ref w4, .ref w5, .ref w6, .ref w7, .ref w8, .ref w9, .ref w10])), (h1, .inr (0, [.int 0, .int 0, .int 0, .int 0, .int 0, .int 0, .int 0, .int 0, .int 0, .int 0, .ref v0, .ref v1, .ref v2, .ref v3, .ref v4, .ref v5, .ref v6, .ref v7, .ref v8, .ref v9]))]) := by
  refine Ct.of (by decide) (Nat.le_of_ble_eq_true rfl) ?_
  intro p e s m below meth c A ls FX hP hD hS hl
  obtain ⟨FC, hr, hlk, hKn, hA, hnm⟩ := id FX
  have FC : CallFix p m c cX11_undo 2 s _ BIG RX11 := FC
  obtain ⟨hx, hb, hml, hown, hB⟩ := id FC
  have hl : lv_has ls 2 [(0, .ref h0)] := hl
  refine lv_aload_n hx hb dX11_undo_0 rfl (lv_at hl 0 rfl) ?_
  refine g_get (C := RX11) (T := TX11) (N := 11) (ci := 11) (v := .ref h1) FC hKn hP i_X11 0 rfl rfl 1 (by decide) b_10 rfl dX11_undo_1 ?_
  refine call_VN (As := []) (rest := []) (wr := [(h0, .inr (11, [.ref w0, .ref h1, .ref w2, .ref w3, .ref w4, .ref w5, .ref w6, .ref w7, .ref w8, .ref w9, .ref w10]))]) FC hKn (c_X0_stands l g h1 v0 v1 v2 v3 v4 v5 v6 v7 v8 v9) m_yX0_stands b_11 (ci := 0) rfl rfl rfl hP hD hS hA [1] [0] rfl (by decide) rfl (by decide) (by decide) rfl hl.1 rfl (Nat.le_of_ble_eq_true rfl) dX11_undo_4 ⟨(Nat.le_of_ble_eq_true rfl), (Nat.le_of_ble_eq_true rfl)⟩ ⟨(Nat.le_of_ble_eq_true rfl), (Nat.le_of_ble_eq_true rfl)⟩ (fun u1 H locs _ hP hD hS => ?_)
  have hP : va_P g.1 vwCl [(h0, .inr (11, [.ref w0, .ref h1, .ref w2, .ref w3, .ref w4, .ref w5, .ref w6, .ref w7, .ref w8, .ref w9, .ref w10])), (h1, .inr (0, [.int 0, .int 0, .int 0, .int 0, .int 0, .int 0, .int 0, .int 0, .int 0, .int 0, .ref v0, .ref v1, .ref v2, .ref v3, .ref v4, .ref v5, .ref v6, .ref v7, .ref v8, .ref v9]))] H := hP
  have hD : va_D A [(h0, .inr (11, [.ref w0, .ref h1, .ref w2, .ref w3, .ref w4, .ref w5, .ref w6, .ref w7, .ref w8, .ref w9, .ref w10])), (h1, .inr (0, [.int 0, .int 0, .int 0, .int 0, .int 0, .int 0, .int 0, .int 0, .int 0, .int 0, .ref v0, .ref v1, .ref v2, .ref v3, .ref v4, .ref v5, .ref v6, .ref v7, .ref v8, .ref v9]))] := hD
  refine W.eq (g2 := F0 m 7 ls [.int 0]) rfl ?_
  refine lv_if_ne (tgt := 13) hx hb dX11_undo_7 (by decide) (fun h => absurd h (by decide)) (fun _ => ?_)
  refine lv_bipush (v := -2) hx hb dX11_undo_10 (by decide) ?_
  exact rt_i FX () rfl trivial (hP.sub [0, 1] rfl) (hD.sub [0, 1] (by decide) rfl) hS (Nat.le_of_ble_eq_true rfl) (Nat.le_of_ble_eq_true rfl) dX11_undo_12
set_option maxRecDepth 100000 in
set_option maxHeartbeats 4000000 in
theorem c_X11_drawn (l : Launch) (g : GG) (h0 : Nat) (h1 : Nat) (w0 : Nat) (w2 : Nat) (w3 : Nat) (w4 : Nat) (w5 : Nat) (w6 : Nat) (w7 : Nat) (w8 : Nat) (w9 : Nat) (w10 : Nat) (v0 : Nat) (v1 : Nat) (v2 : Nat) (v3 : Nat) (v4 : Nat) (v5 : Nat) (v6 : Nat) (v7 : Nat) (v8 : Nat) (v9 : Nat) (p1 : Int32) (p2 : Int32) (p3 : Int32) (p4 : Int32) : Ct l g yX11_drawn cX11_drawn 7 (some .int) { frames := 1, cells := 0, slots := 0, locals := 21 } [.ref h0, .int p1, .int p2, .int p3, .int p4] [(h0, .inr (11, [.ref w0, .ref h1, .ref w2, .ref w3, .ref w4, .ref w5, .ref w6, .ref w7, .ref w8, .ref w9, .ref w10])), (h1, .inr (0, [.int 0, .int 0, .int 0, .int 0, .int 0, .int 0, .int 0, .int 0, .int 0, .int 0, .ref v0, .ref v1, .ref v2, .ref v3, .ref v4, .ref v5, .ref v6, .ref v7, .ref v8, .ref v9]))] (S := Unit) (fun _ => some (.int (-2))) (fun _ => True) (fun u => [(h0, .inr (11, [.ref w0, .ref h1, .ref w2, .ref w3, .ref w4, .ref w5, .ref w6, .ref w7, .ref w8, .ref w9, .ref w10])), (h1, .inr (0, [.int 0, .int 0, .int 0, .int 0, .int 0, .int 0, .int 0, .int 0, .int 0, .int 0, .ref v0, .ref v1, .ref v2, .ref v3, .ref v4, .ref v5, .ref v6, .ref v7, .ref v8, .ref v9]))]) := by
  refine Ct.of (by decide) (Nat.le_of_ble_eq_true rfl) ?_
  intro p e s m below meth c A ls FX hP hD hS hl
  obtain ⟨FC, hr, hlk, hKn, hA, hnm⟩ := id FX
  have FC : CallFix p m c cX11_drawn 7 s _ BIG RX11 := FC
  obtain ⟨hx, hb, hml, hown, hB⟩ := id FC
  have hl : lv_has ls 7 [(0, .ref h0), (1, .int p1), (2, .int p2), (3, .int p3), (4, .int p4)] := hl
  refine lv_iload_n hx hb dX11_drawn_0 rfl (lv_at hl 1 rfl) ?_
  refine call_S (As := [.int p1]) (rest := []) (wr := [(h0, .inr (11, [.ref w0, .ref h1, .ref w2, .ref w3, .ref w4, .ref w5, .ref w6, .ref w7, .ref w8, .ref w9, .ref w10])), (h1, .inr (0, [.int 0, .int 0, .int 0, .int 0, .int 0, .int 0, .int 0, .int 0, .int 0, .int 0, .ref v0, .ref v1, .ref v2, .ref v3, .ref v4, .ref v5, .ref v6, .ref v7, .ref v8, .ref v9]))]) FC hKn (c_X11_isSeed l g p1) m_yX11_isSeed b_23 hP hD hS hA [] [0, 1] rfl (by decide) rfl (by decide) (by decide) rfl hl.1 rfl (Nat.le_of_ble_eq_true rfl) dX11_drawn_1 ⟨(Nat.le_of_ble_eq_true rfl), (Nat.le_of_ble_eq_true rfl)⟩ ⟨(Nat.le_of_ble_eq_true rfl), (Nat.le_of_ble_eq_true rfl)⟩ (fun u1 H locs _ hP hD hS => ?_)
  have hP : va_P g.1 vwCl [(h0, .inr (11, [.ref w0, .ref h1, .ref w2, .ref w3, .ref w4, .ref w5, .ref w6, .ref w7, .ref w8, .ref w9, .ref w10])), (h1, .inr (0, [.int 0, .int 0, .int 0, .int 0, .int 0, .int 0, .int 0, .int 0, .int 0, .int 0, .ref v0, .ref v1, .ref v2, .ref v3, .ref v4, .ref v5, .ref v6, .ref v7, .ref v8, .ref v9]))] H := hP
  have hD : va_D A [(h0, .inr (11, [.ref w0, .ref h1, .ref w2, .ref w3, .ref w4, .ref w5, .ref w6, .ref w7, .ref w8, .ref w9, .ref w10])), (h1, .inr (0, [.int 0, .int 0, .int 0, .int 0, .int 0, .int 0, .int 0, .int 0, .int 0, .int 0, .ref v0, .ref v1, .ref v2, .ref v3, .ref v4, .ref v5, .ref v6, .ref v7, .ref v8, .ref v9]))] := hD
  refine W.eq (g2 := F0 m 4 ls [.int (sp_seed p1)]) rfl ?_
  by_cases c2 : 0 ≤ p1.toInt ∧ p1.toInt ≤ 2000000000
  · refine tp_i (v := 1) (if_pos c2) ?_
    refine lv_if_eq (tgt := 29) hx hb dX11_drawn_4 (by decide) (fun h => absurd h (by decide)) (fun _ => ?_)
    refine lv_aload_n hx hb dX11_drawn_7 rfl (lv_at hl 0 rfl) ?_
    refine g_get (C := RX11) (T := TX11) (N := 11) (ci := 11) (v := .ref h1) FC hKn hP i_X11 0 rfl rfl 1 (by decide) b_10 rfl dX11_drawn_8 ?_
    refine lv_iload_n hx hb dX11_drawn_11 rfl (lv_at hl 3 rfl) ?_
    refine call_VN (As := [.int p3]) (rest := []) (wr := [(h0, .inr (11, [.ref w0, .ref h1, .ref w2, .ref w3, .ref w4, .ref w5, .ref w6, .ref w7, .ref w8, .ref w9, .ref w10]))]) FC hKn (c_X0_hasHearer l g h1 v0 v1 v2 v3 v4 v5 v6 v7 v8 v9 p3) m_yX0_hasHearer b_12 (ci := 0) rfl rfl rfl hP hD hS hA [1] [0] rfl (by decide) rfl (by decide) (by decide) rfl hl.1 rfl (Nat.le_of_ble_eq_true rfl) dX11_drawn_12 ⟨(Nat.le_of_ble_eq_true rfl), (Nat.le_of_ble_eq_true rfl)⟩ ⟨(Nat.le_of_ble_eq_true rfl), (Nat.le_of_ble_eq_true rfl)⟩ (fun u3 H locs _ hP hD hS => ?_)
    have hP : va_P g.1 vwCl [(h0, .inr (11, [.ref w0, .ref h1, .ref w2, .ref w3, .ref w4, .ref w5, .ref w6, .ref w7, .ref w8, .ref w9, .ref w10])), (h1, .inr (0, [.int 0, .int 0, .int 0, .int 0, .int 0, .int 0, .int 0, .int 0, .int 0, .int 0, .ref v0, .ref v1, .ref v2, .ref v3, .ref v4, .ref v5, .ref v6, .ref v7, .ref v8, .ref v9]))] H := hP
    have hD : va_D A [(h0, .inr (11, [.ref w0, .ref h1, .ref w2, .ref w3, .ref w4, .ref w5, .ref w6, .ref w7, .ref w8, .ref w9, .ref w10])), (h1, .inr (0, [.int 0, .int 0, .int 0, .int 0, .int 0, .int 0, .int 0, .int 0, .int 0, .int 0, .ref v0, .ref v1, .ref v2, .ref v3, .ref v4, .ref v5, .ref v6, .ref v7, .ref v8, .ref v9]))] := hD
    refine W.eq (g2 := F0 m 15 ls [.int 0]) rfl ?_
    refine lv_if_eq (tgt := 29) hx hb dX11_drawn_15 (by decide) (fun _ => ?_) (fun h => absurd h (by decide))
    refine lv_bipush (v := -2) hx hb dX11_drawn_29 (by decide) ?_
    exact rt_i FX () rfl trivial (hP.sub [0, 1] rfl) (hD.sub [0, 1] (by decide) rfl) hS (Nat.le_of_ble_eq_true rfl) (Nat.le_of_ble_eq_true rfl) dX11_drawn_31
  · refine tp_i (v := 0) (if_neg c2) ?_
    refine lv_if_eq (tgt := 29) hx hb dX11_drawn_4 (by decide) (fun _ => ?_) (fun h => absurd h (by decide))
    refine lv_bipush (v := -2) hx hb dX11_drawn_29 (by decide) ?_
    exact rt_i FX () rfl trivial (hP.sub [0, 1] rfl) (hD.sub [0, 1] (by decide) rfl) hS (Nat.le_of_ble_eq_true rfl) (Nat.le_of_ble_eq_true rfl) dX11_drawn_31
set_option maxRecDepth 100000 in
set_option maxHeartbeats 4000000 in
theorem c_X11_leaks (l : Launch) (g : GG) (h0 : Nat) (h1 : Nat) (w0 : Nat) (w2 : Nat) (w3 : Nat) (w4 : Nat) (w5 : Nat) (w6 : Nat) (w7 : Nat) (w8 : Nat) (w9 : Nat) (w10 : Nat) (v0 : Nat) (v1 : Nat) (v2 : Nat) (v3 : Nat) (v4 : Nat) (v5 : Nat) (v6 : Nat) (v7 : Nat) (v8 : Nat) (v9 : Nat) (p1 : Int32) (p2 : Int32) : Ct l g yX11_leaks cX11_leaks 5 (some .int) { frames := 1, cells := 0, slots := 0, locals := 20 } [.ref h0, .int p1, .int p2] [(h0, .inr (11, [.ref w0, .ref h1, .ref w2, .ref w3, .ref w4, .ref w5, .ref w6, .ref w7, .ref w8, .ref w9, .ref w10])), (h1, .inr (0, [.int 0, .int 0, .int 0, .int 0, .int 0, .int 0, .int 0, .int 0, .int 0, .int 0, .ref v0, .ref v1, .ref v2, .ref v3, .ref v4, .ref v5, .ref v6, .ref v7, .ref v8, .ref v9]))] (S := Unit) (fun _ => some (.int (-2))) (fun _ => True) (fun u => [(h0, .inr (11, [.ref w0, .ref h1, .ref w2, .ref w3, .ref w4, .ref w5, .ref w6, .ref w7, .ref w8, .ref w9, .ref w10])), (h1, .inr (0, [.int 0, .int 0, .int 0, .int 0, .int 0, .int 0, .int 0, .int 0, .int 0, .int 0, .ref v0, .ref v1, .ref v2, .ref v3, .ref v4, .ref v5, .ref v6, .ref v7, .ref v8, .ref v9]))]) := by
  refine Ct.of (by decide) (Nat.le_of_ble_eq_true rfl) ?_
  intro p e s m below meth c A ls FX hP hD hS hl
  obtain ⟨FC, hr, hlk, hKn, hA, hnm⟩ := id FX
  have FC : CallFix p m c cX11_leaks 5 s _ BIG RX11 := FC
  obtain ⟨hx, hb, hml, hown, hB⟩ := id FC
  have hl : lv_has ls 5 [(0, .ref h0), (1, .int p1), (2, .int p2)] := hl
  refine lv_aload_n hx hb dX11_leaks_0 rfl (lv_at hl 0 rfl) ?_
  refine g_get (C := RX11) (T := TX11) (N := 11) (ci := 11) (v := .ref h1) FC hKn hP i_X11 0 rfl rfl 1 (by decide) b_10 rfl dX11_leaks_1 ?_
  refine call_VN (As := []) (rest := []) (wr := [(h0, .inr (11, [.ref w0, .ref h1, .ref w2, .ref w3, .ref w4, .ref w5, .ref w6, .ref w7, .ref w8, .ref w9, .ref w10]))]) FC hKn (c_X0_stands l g h1 v0 v1 v2 v3 v4 v5 v6 v7 v8 v9) m_yX0_stands b_11 (ci := 0) rfl rfl rfl hP hD hS hA [1] [0] rfl (by decide) rfl (by decide) (by decide) rfl hl.1 rfl (Nat.le_of_ble_eq_true rfl) dX11_leaks_4 ⟨(Nat.le_of_ble_eq_true rfl), (Nat.le_of_ble_eq_true rfl)⟩ ⟨(Nat.le_of_ble_eq_true rfl), (Nat.le_of_ble_eq_true rfl)⟩ (fun u1 H locs _ hP hD hS => ?_)
  have hP : va_P g.1 vwCl [(h0, .inr (11, [.ref w0, .ref h1, .ref w2, .ref w3, .ref w4, .ref w5, .ref w6, .ref w7, .ref w8, .ref w9, .ref w10])), (h1, .inr (0, [.int 0, .int 0, .int 0, .int 0, .int 0, .int 0, .int 0, .int 0, .int 0, .int 0, .ref v0, .ref v1, .ref v2, .ref v3, .ref v4, .ref v5, .ref v6, .ref v7, .ref v8, .ref v9]))] H := hP
  have hD : va_D A [(h0, .inr (11, [.ref w0, .ref h1, .ref w2, .ref w3, .ref w4, .ref w5, .ref w6, .ref w7, .ref w8, .ref w9, .ref w10])), (h1, .inr (0, [.int 0, .int 0, .int 0, .int 0, .int 0, .int 0, .int 0, .int 0, .int 0, .int 0, .ref v0, .ref v1, .ref v2, .ref v3, .ref v4, .ref v5, .ref v6, .ref v7, .ref v8, .ref v9]))] := hD
  refine W.eq (g2 := F0 m 7 ls [.int 0]) rfl ?_
  refine lv_if_eq (tgt := 28) hx hb dX11_leaks_7 (by decide) (fun _ => ?_) (fun h => absurd h (by decide))
  refine lv_bipush (v := -2) hx hb dX11_leaks_28 (by decide) ?_
  exact rt_i FX () rfl trivial (hP.sub [0, 1] rfl) (hD.sub [0, 1] (by decide) rfl) hS (Nat.le_of_ble_eq_true rfl) (Nat.le_of_ble_eq_true rfl) dX11_leaks_30
end
section
theorem b_100 : Cond.fieldLink RX3 9 "GentleLetters$Log" "kinds" "[I" ∈ BIG := bi (tin_1 _ (List.mem_of_getElem? (i := 78) rfl)) rfl
theorem b_101 : Cond.methodLink RX3 25 arraycopyName ∈ BIG := bi (tin_3 _ (List.mem_of_getElem? (i := 131) rfl)) rfl
theorem b_102 : Cond.native arraycopyName ∈ BIG := bi (tin_3 _ (List.mem_of_getElem? (i := 126) rfl)) rfl
theorem b_103 : Cond.static arraycopyName ∈ BIG := bi (tin_3 _ (List.mem_of_getElem? (i := 125) rfl)) rfl
theorem b_104 : Cond.initialized RJ10 ∈ BIG := bi (tin_1 _ (List.mem_of_getElem? (i := 20) rfl)) rfl
theorem b_105 : Cond.fieldLink RX3 15 "GentleLetters$Log" "places" "[I" ∈ BIG := bi (tin_1 _ (List.mem_of_getElem? (i := 80) rfl)) rfl
theorem b_106 : Cond.fieldLink RX3 18 "GentleLetters$Log" "olds" "[I" ∈ BIG := bi (tin_1 _ (List.mem_of_getElem? (i := 82) rfl)) rfl
theorem b_107 : Cond.fieldLink RX3 21 "GentleLetters$Log" "size" "I" ∈ BIG := bi (tin_1 _ (List.mem_of_getElem? (i := 84) rfl)) rfl
theorem b_108 : Cond.fieldLink RX0 50 "GentleLetters$Desk" "really" "I" ∈ BIG := bi (tin_1 _ (List.mem_of_getElem? (i := 100) rfl)) rfl
theorem b_109 : Cond.fieldLink RX0 56 "GentleLetters$Desk" "heal" "I" ∈ BIG := bi (tin_1 _ (List.mem_of_getElem? (i := 110) rfl)) rfl
theorem b_110 : Cond.fieldLink RX0 59 "GentleLetters$Desk" "leak" "I" ∈ BIG := bi (tin_1 _ (List.mem_of_getElem? (i := 113) rfl)) rfl
theorem b_111 : Cond.fieldLink RX0 9 "GentleLetters$Desk" "grades" "[I" ∈ BIG := bi (tin_1 _ (List.mem_of_getElem? (i := 137) rfl)) rfl
theorem b_112 : Cond.methodLink RX0 86 arraycopyName ∈ BIG := bi (tin_3 _ (List.mem_of_getElem? (i := 124) rfl)) rfl
theorem b_113 : Cond.fieldLink RX0 15 "GentleLetters$Desk" "thoughts" "[I" ∈ BIG := bi (tin_1 _ (List.mem_of_getElem? (i := 140) rfl)) rfl
theorem b_114 : Cond.fieldLink RX0 18 "GentleLetters$Desk" "reckonings" "[I" ∈ BIG := bi (tin_1 _ (List.mem_of_getElem? (i := 142) rfl)) rfl
theorem b_115 : Cond.fieldLink RX0 21 "GentleLetters$Desk" "told" "[I" ∈ BIG := bi (tin_1 _ (List.mem_of_getElem? (i := 145) rfl)) rfl
theorem b_116 : Cond.fieldLink RX0 24 "GentleLetters$Desk" "shames" "[I" ∈ BIG := bi (tin_1 _ (List.mem_of_getElem? (i := 148) rfl)) rfl
theorem b_117 : Cond.fieldLink RX0 27 "GentleLetters$Desk" "meanings" "[I" ∈ BIG := bi (tin_1 _ (List.mem_of_getElem? (i := 151) rfl)) rfl
theorem b_118 : Cond.fieldLink RX0 30 "GentleLetters$Desk" "planSizes" "[I" ∈ BIG := bi (tin_1 _ (List.mem_of_getElem? (i := 155) rfl)) rfl
theorem b_119 : Cond.fieldLink RX0 33 "GentleLetters$Desk" "planWords" "[I" ∈ BIG := bi (tin_1 _ (List.mem_of_getElem? (i := 157) rfl)) rfl
theorem b_120 : Cond.fieldLink RX0 36 "GentleLetters$Desk" "tidings" "[I" ∈ BIG := bi (tin_1 _ (List.mem_of_getElem? (i := 159) rfl)) rfl
theorem b_121 : Cond.fieldLink RX0 42 "GentleLetters$Desk" "log" "LGentleLetters$Log;" ∈ BIG := bi (tin_1 _ (List.mem_of_getElem? (i := 163) rfl)) rfl
theorem b_122 : Cond.methodLinkNest RX0 92 yX3_takeAll RX11 ∈ nests := ne (tin_3 _ (List.mem_of_getElem? (i := 127) rfl)) rfl
theorem b_123 : Cond.fieldLinkNest RX0 77 "GentleLetters$Log" "size" "I" RX11 ∈ nests := ne (tin_1 _ (List.mem_of_getElem? (i := 85) rfl)) rfl
theorem b_124 : Cond.methodLink RX0 80 yJ7_fill_53178 ∈ BIG := bi (tin_2 _ (List.mem_of_getElem? (i := 215) rfl)) rfl
theorem b_125 : Cond.fieldLink RX9 19 "GentleLetters$Tape" "stop" "I" ∈ BIG := bi (tin_1 _ (List.mem_of_getElem? (i := 49) rfl)) rfl
theorem b_126 : Cond.fieldLink RX9 25 "GentleLetters$Tape" "start" "I" ∈ BIG := bi (tin_1 _ (List.mem_of_getElem? (i := 48) rfl)) rfl
theorem b_127 : Cond.fieldLink RX9 15 "GentleLetters$Tape" "size" "I" ∈ BIG := bi (tin_1 _ (List.mem_of_getElem? (i := 43) rfl)) rfl
theorem b_128 : Cond.fieldLink RX9 32 "GentleLetters$Tape" "kind" "I" ∈ BIG := bi (tin_1 _ (List.mem_of_getElem? (i := 46) rfl)) rfl
theorem b_129 : Cond.fieldLink RX9 35 "GentleLetters$Tape" "number" "I" ∈ BIG := bi (tin_1 _ (List.mem_of_getElem? (i := 50) rfl)) rfl
theorem b_130 : Cond.methodLink RX9 22 yX9_advance ∈ BIG := bi (tin_2 _ (List.mem_of_getElem? (i := 222) rfl)) rfl
theorem b_131 : Cond.fieldLink RX9 9 "GentleLetters$Tape" "bytes" "[B" ∈ BIG := bi (tin_1 _ (List.mem_of_getElem? (i := 42) rfl)) rfl
theorem b_132 : Cond.fieldLink RX1 29 "GentleLetters$DeskReader" "fault" "I" ∈ BIG := bi (tin_1 _ (List.mem_of_getElem? (i := 210) rfl)) rfl
theorem b_133 : Cond.fieldLink RX1 25 "GentleLetters$DeskReader" "place" "I" ∈ BIG := bi (tin_1 _ (List.mem_of_getElem? (i := 212) rfl)) rfl
theorem b_134 : Cond.fieldLink RX1 21 "GentleLetters$DeskReader" "draft" "LGentleLetters$Desk;" ∈ BIG := bi (tin_1 _ (List.mem_of_getElem? (i := 208) rfl)) rfl
theorem b_135 : Cond.methodLinkNest RX1 32 yX0_clear RX11 ∈ nests := ne (tin_2 _ (List.mem_of_getElem? (i := 211) rfl)) rfl
theorem b_136 : Cond.fieldLink RX1 12 "GentleLetters$DeskReader" "tape" "LGentleLetters$Tape;" ∈ BIG := bi (tin_1 _ (List.mem_of_getElem? (i := 206) rfl)) rfl
theorem b_137 : Cond.methodLinkNest RX1 35 yX9_rewind RX11 ∈ nests := ne (tin_2 _ (List.mem_of_getElem? (i := 218) rfl)) rfl
theorem b_138 : Cond.fieldLinkNest RX1 38 "GentleLetters$Tape" "kind" "I" RX11 ∈ nests := ne (tin_1 _ (List.mem_of_getElem? (i := 45) rfl)) rfl
theorem b_139 : Cond.fieldLink RX11 33 "GentleLetters" "rows" "[LGentleLetters$Row;" ∈ BIG := bi (tin_2 _ (List.mem_of_getElem? (i := 161) rfl)) rfl
theorem b_140 : Cond.fieldLinkNest RX11 430 "GentleLetters$Row" "there" "Z" RX11 ∈ nests := ne (tin_2 _ (List.mem_of_getElem? (i := 141) rfl)) rfl
theorem b_141 : Cond.methodLink RX11 404 yX11_rowOf ∈ BIG := bi (tin_4 _ (List.mem_of_getElem? (i := 31) rfl)) rfl
theorem b_142 : Cond.fieldLink RX8 15 "GentleLetters$Row" "there" "Z" ∈ BIG := bi (tin_2 _ (List.mem_of_getElem? (i := 140) rfl)) rfl
theorem b_143 : Cond.fieldLink RX8 19 "GentleLetters$Row" "width" "I" ∈ BIG := bi (tin_2 _ (List.mem_of_getElem? (i := 142) rfl)) rfl
theorem b_144 : Cond.fieldLink RX8 23 "GentleLetters$Row" "size" "I" ∈ BIG := bi (tin_2 _ (List.mem_of_getElem? (i := 145) rfl)) rfl
theorem b_145 : Cond.fieldLink RX8 9 "GentleLetters$Row" "numbers" "[J" ∈ BIG := bi (tin_2 _ (List.mem_of_getElem? (i := 137) rfl)) rfl
theorem b_146 : Cond.methodLink RX8 26 yJ7_fill_d0a16 ∈ BIG := bi (tin_6 _ (List.mem_of_getElem? (i := 76) rfl)) rfl
theorem b_147 : Cond.methodLinkNest RX11 401 yX8_begin RX11 ∈ nests := ne (tin_6 _ (List.mem_of_getElem? (i := 72) rfl)) rfl
theorem b_148 : Cond.fieldLink RX11 23 "GentleLetters" "images" "[LGentleLetters$Desk;" ∈ BIG := bi (tin_2 _ (List.mem_of_getElem? (i := 159) rfl)) rfl
theorem b_149 : Cond.methodLinkNest RX11 101 yX0_copyFrom RX11 ∈ nests := ne (tin_3 _ (List.mem_of_getElem? (i := 120) rfl)) rfl
theorem b_150 : Cond.fieldLink RX11 27 "GentleLetters" "imaged" "[Z" ∈ BIG := bi (tin_2 _ (List.mem_of_getElem? (i := 160) rfl)) rfl
theorem b_151 : Cond.fieldLink RX11 10 "GentleLetters" "reader" "LGentleLetters$DeskReader;" ∈ BIG := bi (tin_2 _ (List.mem_of_getElem? (i := 157) rfl)) rfl
theorem b_152 : Cond.fieldLinkNest RX11 111 "GentleLetters$DeskReader" "place" "I" RX11 ∈ nests := ne (tin_1 _ (List.mem_of_getElem? (i := 213) rfl)) rfl
theorem b_153 : Cond.fieldLinkNest RX11 108 "GentleLetters$DeskReader" "fault" "I" RX11 ∈ nests := ne (tin_1 _ (List.mem_of_getElem? (i := 211) rfl)) rfl
theorem b_154 : Cond.fieldLinkNest RX11 80 "GentleLetters$DeskReader" "tape" "LGentleLetters$Tape;" RX11 ∈ nests := ne (tin_1 _ (List.mem_of_getElem? (i := 207) rfl)) rfl
theorem b_155 : Cond.fieldLinkNest RX11 84 "GentleLetters$Tape" "size" "I" RX11 ∈ nests := ne (tin_1 _ (List.mem_of_getElem? (i := 44) rfl)) rfl
theorem b_156 : Cond.methodLinkNest RX11 90 yX9_put RX11 ∈ nests := ne (tin_2 _ (List.mem_of_getElem? (i := 195) rfl)) rfl
theorem b_157 : Cond.methodLinkNest RX11 94 yX1_readDesk RX11 ∈ nests := ne (tin_2 _ (List.mem_of_getElem? (i := 207) rfl)) rfl
theorem b_158 : Cond.fieldLinkNest RX11 98 "GentleLetters$DeskReader" "draft" "LGentleLetters$Desk;" RX11 ∈ nests := ne (tin_1 _ (List.mem_of_getElem? (i := 209) rfl)) rfl
theorem b_159 : Cond.fieldLinkNest RX11 105 "GentleLetters$Desk" "lines" "I" RX11 ∈ nests := ne (tin_1 _ (List.mem_of_getElem? (i := 118) rfl)) rfl
theorem b_160 : Cond.fieldLinkNest RX11 264 "GentleLetters$Desk" "states" "I" RX11 ∈ nests := ne (tin_1 _ (List.mem_of_getElem? (i := 99) rfl)) rfl
theorem b_161 : Cond.fieldLinkNest RX11 380 "GentleLetters$Desk" "really" "I" RX11 ∈ nests := ne (tin_1 _ (List.mem_of_getElem? (i := 102) rfl)) rfl
theorem b_162 : Cond.fieldLinkNest RX11 230 "GentleLetters$Desk" "days" "I" RX11 ∈ nests := ne (tin_1 _ (List.mem_of_getElem? (i := 109) rfl)) rfl
theorem b_163 : Cond.fieldLinkNest RX11 383 "GentleLetters$Desk" "heal" "I" RX11 ∈ nests := ne (tin_1 _ (List.mem_of_getElem? (i := 112) rfl)) rfl
theorem b_164 : Cond.fieldLinkNest RX11 386 "GentleLetters$Desk" "leak" "I" RX11 ∈ nests := ne (tin_1 _ (List.mem_of_getElem? (i := 115) rfl)) rfl
theorem b_165 : Cond.fieldLinkNest RX11 270 "GentleLetters$Desk" "hearers" "I" RX11 ∈ nests := ne (tin_1 _ (List.mem_of_getElem? (i := 121) rfl)) rfl
theorem b_166 : Cond.fieldLinkNest RX11 180 "GentleLetters$Desk" "words" "I" RX11 ∈ nests := ne (tin_1 _ (List.mem_of_getElem? (i := 128) rfl)) rfl
theorem b_167 : Cond.fieldLinkNest RX11 389 "GentleLetters$Desk" "plans" "I" RX11 ∈ nests := ne (tin_1 _ (List.mem_of_getElem? (i := 132) rfl)) rfl
theorem b_168 : Cond.fieldLinkNest RX11 392 "GentleLetters$Desk" "news" "I" RX11 ∈ nests := ne (tin_1 _ (List.mem_of_getElem? (i := 136) rfl)) rfl
theorem b_169 : Cond.fieldLinkNest RX11 355 "GentleLetters$Desk" "log" "LGentleLetters$Log;" RX11 ∈ nests := ne (tin_1 _ (List.mem_of_getElem? (i := 164) rfl)) rfl
theorem b_170 : Cond.fieldLinkNest RX11 359 "GentleLetters$Log" "size" "I" RX11 ∈ nests := ne (tin_1 _ (List.mem_of_getElem? (i := 86) rfl)) rfl
theorem b_171 : Cond.methodLink RX11 395 yX11_countRows ∈ BIG := bi (tin_6 _ (List.mem_of_getElem? (i := 56) rfl)) rfl
theorem b_172 : Cond.code yX11_countRows cX11_countRows 3 (some .int) ∈ BIG := bi (tin_6 _ (List.mem_of_getElem? (i := 59) rfl)) rfl
theorem b_173 : Cond.instanceMethod yX11_countRows ∈ BIG := bi (tin_6 _ (List.mem_of_getElem? (i := 58) rfl)) rfl
theorem b_174 : Cond.selects RX11 yX11_countRows yX11_countRows ∈ BIG := bi (sin_7 _ (List.mem_map.mpr ⟨(yX11_countRows, 11), List.mem_of_getElem? (i := 1) rfl, rfl⟩)) rfl
theorem b_175 : Cond.code yX11_rowOf cX11_rowOf 3 (some (.object "GentleLetters$Row")) ∈ BIG := bi (tin_4 _ (List.mem_of_getElem? (i := 34) rfl)) rfl
theorem b_176 : Cond.instanceMethod yX11_rowOf ∈ BIG := bi (tin_4 _ (List.mem_of_getElem? (i := 33) rfl)) rfl
theorem b_177 : Cond.selects RX11 yX11_rowOf yX11_rowOf ∈ BIG := bi (sin_3 _ (List.mem_map.mpr ⟨(yX11_rowOf, 11), List.mem_of_getElem? (i := 7) rfl, rfl⟩)) rfl
theorem b_178 : Cond.code yX0_clear cX0_clear 1 none ∈ BIG := bi (tin_2 _ (List.mem_of_getElem? (i := 214) rfl)) rfl
theorem b_179 : Cond.instanceMethod yX0_clear ∈ BIG := bi (tin_2 _ (List.mem_of_getElem? (i := 213) rfl)) rfl
theorem b_180 : Cond.selects RX0 yX0_clear yX0_clear ∈ BIG := bi (sin_1 _ (List.mem_map.mpr ⟨(yX0_clear, 20), List.mem_of_getElem? (i := 2) rfl, rfl⟩)) rfl
theorem b_181 : Cond.code yX0_copyFrom cX0_copyFrom 2 none ∈ BIG := bi (tin_3 _ (List.mem_of_getElem? (i := 123) rfl)) rfl
theorem b_182 : Cond.instanceMethod yX0_copyFrom ∈ BIG := bi (tin_3 _ (List.mem_of_getElem? (i := 122) rfl)) rfl
theorem b_183 : Cond.selects RX0 yX0_copyFrom yX0_copyFrom ∈ BIG := bi (sin_2 _ (List.mem_map.mpr ⟨(yX0_copyFrom, 20), List.mem_of_getElem? (i := 4) rfl, rfl⟩)) rfl
theorem b_184 : Cond.code yX1_readDesk cX1_readDesk 2 (some .boolean) ∈ BIG := bi (tin_2 _ (List.mem_of_getElem? (i := 210) rfl)) rfl
theorem b_185 : Cond.instanceMethod yX1_readDesk ∈ BIG := bi (tin_2 _ (List.mem_of_getElem? (i := 209) rfl)) rfl
theorem b_186 : Cond.selects RX1 yX1_readDesk yX1_readDesk ∈ BIG := bi (sin_1 _ (List.mem_map.mpr ⟨(yX1_readDesk, 5), List.mem_of_getElem? (i := 1) rfl, rfl⟩)) rfl
theorem b_187 : Cond.initialized RX1 ∈ BIG := bi (tin_1 _ (List.mem_of_getElem? (i := 2) rfl)) rfl
theorem b_188 : Cond.code yX3_takeAll cX3_takeAll 2 none ∈ BIG := bi (tin_3 _ (List.mem_of_getElem? (i := 130) rfl)) rfl
theorem b_189 : Cond.instanceMethod yX3_takeAll ∈ BIG := bi (tin_3 _ (List.mem_of_getElem? (i := 129) rfl)) rfl
theorem b_190 : Cond.selects RX3 yX3_takeAll yX3_takeAll ∈ BIG := bi (sin_2 _ (List.mem_map.mpr ⟨(yX3_takeAll, 4), List.mem_of_getElem? (i := 5) rfl, rfl⟩)) rfl
theorem b_191 : Cond.initialized RX3 ∈ BIG := bi (tin_1 _ (List.mem_of_getElem? (i := 5) rfl)) rfl
theorem b_192 : Cond.code yX8_begin cX8_begin 3 none ∈ BIG := bi (tin_6 _ (List.mem_of_getElem? (i := 75) rfl)) rfl
theorem b_193 : Cond.instanceMethod yX8_begin ∈ BIG := bi (tin_6 _ (List.mem_of_getElem? (i := 74) rfl)) rfl
theorem b_194 : Cond.selects RX8 yX8_begin yX8_begin ∈ BIG := bi (sin_7 _ (List.mem_map.mpr ⟨(yX8_begin, 4), List.mem_of_getElem? (i := 2) rfl, rfl⟩)) rfl
theorem b_195 : Cond.initialized RX8 ∈ BIG := bi (tin_1 _ (List.mem_of_getElem? (i := 12) rfl)) rfl
theorem b_196 : Cond.code yX9_advance cX9_advance 1 none ∈ BIG := bi (tin_2 _ (List.mem_of_getElem? (i := 225) rfl)) rfl
theorem b_197 : Cond.instanceMethod yX9_advance ∈ BIG := bi (tin_2 _ (List.mem_of_getElem? (i := 224) rfl)) rfl
theorem b_198 : Cond.selects RX9 yX9_advance yX9_advance ∈ BIG := bi (sin_1 _ (List.mem_map.mpr ⟨(yX9_advance, 6), List.mem_of_getElem? (i := 4) rfl, rfl⟩)) rfl
theorem b_199 : Cond.initialized RX9 ∈ BIG := bi (tin_1 _ (List.mem_of_getElem? (i := 3) rfl)) rfl
theorem b_200 : Cond.code yX9_put cX9_put 3 none ∈ BIG := bi (tin_2 _ (List.mem_of_getElem? (i := 198) rfl)) rfl
theorem b_201 : Cond.instanceMethod yX9_put ∈ BIG := bi (tin_2 _ (List.mem_of_getElem? (i := 197) rfl)) rfl
theorem b_202 : Cond.selects RX9 yX9_put yX9_put ∈ BIG := bi (sin_1 _ (List.mem_map.mpr ⟨(yX9_put, 6), List.mem_of_getElem? (i := 0) rfl, rfl⟩)) rfl
theorem b_203 : Cond.code yX9_rewind cX9_rewind 1 none ∈ BIG := bi (tin_2 _ (List.mem_of_getElem? (i := 221) rfl)) rfl
theorem b_204 : Cond.instanceMethod yX9_rewind ∈ BIG := bi (tin_2 _ (List.mem_of_getElem? (i := 220) rfl)) rfl
theorem b_205 : Cond.selects RX9 yX9_rewind yX9_rewind ∈ BIG := bi (sin_1 _ (List.mem_map.mpr ⟨(yX9_rewind, 6), List.mem_of_getElem? (i := 3) rfl, rfl⟩)) rfl
theorem b_206 : Cond.code yJ7_fill_53178 cJ7_fill_53178 4 none ∈ BIG := bi (tin_2 _ (List.mem_of_getElem? (i := 217) rfl)) rfl
theorem b_207 : Cond.static yJ7_fill_53178 ∈ BIG := bi (tin_2 _ (List.mem_of_getElem? (i := 216) rfl)) rfl
theorem b_208 : Cond.initialized RJ7 ∈ BIG := bi (tin_1 _ (List.mem_of_getElem? (i := 14) rfl)) rfl
theorem b_209 : Cond.code yJ7_fill_d0a16 cJ7_fill_d0a16 5 none ∈ BIG := bi (tin_6 _ (List.mem_of_getElem? (i := 78) rfl)) rfl
theorem b_210 : Cond.static yJ7_fill_d0a16 ∈ BIG := bi (tin_6 _ (List.mem_of_getElem? (i := 77) rfl)) rfl
theorem b_211 : Cond.laysFinal RX1 RX1 "tape" "LGentleLetters$Tape;" ∈ BIG := bi (tin_1 _ (List.mem_of_getElem? (i := 215) rfl)) rfl
theorem b_212 : Cond.laysFinal RX1 RX1 "draft" "LGentleLetters$Desk;" ∈ BIG := bi (tin_1 _ (List.mem_of_getElem? (i := 217) rfl)) rfl
theorem b_213 : Cond.lays RX1 RX1 "fault" "I" ∈ BIG := bi (tin_1 _ (List.mem_of_getElem? (i := 219) rfl)) rfl
theorem b_214 : Cond.lays RX1 RX1 "place" "I" ∈ BIG := bi (tin_1 _ (List.mem_of_getElem? (i := 221) rfl)) rfl
theorem b_215 : Cond.lays RX1 RX1 "value" "I" ∈ BIG := bi (tin_1 _ (List.mem_of_getElem? (i := 223) rfl)) rfl
theorem b_216 : Cond.laysFinal RX3 RX3 "kinds" "[I" ∈ BIG := bi (tin_1 _ (List.mem_of_getElem? (i := 87) rfl)) rfl
theorem b_217 : Cond.laysFinal RX3 RX3 "places" "[I" ∈ BIG := bi (tin_1 _ (List.mem_of_getElem? (i := 89) rfl)) rfl
theorem b_218 : Cond.laysFinal RX3 RX3 "olds" "[I" ∈ BIG := bi (tin_1 _ (List.mem_of_getElem? (i := 91) rfl)) rfl
theorem b_219 : Cond.lays RX3 RX3 "size" "I" ∈ BIG := bi (tin_1 _ (List.mem_of_getElem? (i := 93) rfl)) rfl
theorem b_220 : Cond.laysFinal RX8 RX8 "numbers" "[J" ∈ BIG := bi (tin_2 _ (List.mem_of_getElem? (i := 147) rfl)) rfl
theorem b_221 : Cond.lays RX8 RX8 "there" "Z" ∈ BIG := bi (tin_2 _ (List.mem_of_getElem? (i := 149) rfl)) rfl
theorem b_222 : Cond.lays RX8 RX8 "width" "I" ∈ BIG := bi (tin_2 _ (List.mem_of_getElem? (i := 151) rfl)) rfl
theorem b_223 : Cond.lays RX8 RX8 "size" "I" ∈ BIG := bi (tin_2 _ (List.mem_of_getElem? (i := 153) rfl)) rfl
theorem b_224 : Cond.laysFinal RX9 RX9 "bytes" "[B" ∈ BIG := bi (tin_1 _ (List.mem_of_getElem? (i := 52) rfl)) rfl
theorem b_225 : Cond.lays RX9 RX9 "size" "I" ∈ BIG := bi (tin_1 _ (List.mem_of_getElem? (i := 54) rfl)) rfl
theorem b_226 : Cond.lays RX9 RX9 "kind" "I" ∈ BIG := bi (tin_1 _ (List.mem_of_getElem? (i := 56) rfl)) rfl
theorem b_227 : Cond.lays RX9 RX9 "start" "I" ∈ BIG := bi (tin_1 _ (List.mem_of_getElem? (i := 58) rfl)) rfl
theorem b_228 : Cond.lays RX9 RX9 "stop" "I" ∈ BIG := bi (tin_1 _ (List.mem_of_getElem? (i := 60) rfl)) rfl
theorem b_229 : Cond.lays RX9 RX9 "number" "I" ∈ BIG := bi (tin_1 _ (List.mem_of_getElem? (i := 62) rfl)) rfl
theorem m_yX11_countRows : MV yX11_countRows cX11_countRows 3 (some .int) 0 := ⟨b_172, b_173, b_174, b_27, by decide +kernel⟩
theorem m_yX11_rowOf : MV yX11_rowOf cX11_rowOf 3 (some (.object "GentleLetters$Row")) 1 := ⟨b_175, b_176, b_177, b_27, by decide +kernel⟩
theorem m_yX0_clear : MV yX0_clear cX0_clear 1 none 0 := ⟨b_178, b_179, b_180, b_47, by decide +kernel⟩
theorem m_yX0_copyFrom : MV yX0_copyFrom cX0_copyFrom 2 none 1 := ⟨b_181, b_182, b_183, b_47, by decide +kernel⟩
theorem m_yX1_readDesk : MV yX1_readDesk cX1_readDesk 2 (some .boolean) 0 := ⟨b_184, b_185, b_186, b_187, by decide +kernel⟩
theorem m_yX3_takeAll : MV yX3_takeAll cX3_takeAll 2 none 1 := ⟨b_188, b_189, b_190, b_191, by decide +kernel⟩
theorem m_yX8_begin : MV yX8_begin cX8_begin 3 none 2 := ⟨b_192, b_193, b_194, b_195, by decide +kernel⟩
theorem m_yX9_advance : MV yX9_advance cX9_advance 1 none 0 := ⟨b_196, b_197, b_198, b_199, by decide +kernel⟩
theorem m_yX9_put : MV yX9_put cX9_put 3 none 1 := ⟨b_200, b_201, b_202, b_199, by decide +kernel⟩
theorem m_yX9_rewind : MV yX9_rewind cX9_rewind 1 none 0 := ⟨b_203, b_204, b_205, b_199, by decide +kernel⟩
theorem m_yJ7_fill_53178 : MS yJ7_fill_53178 cJ7_fill_53178 4 none 2 := ⟨b_206, b_207, b_208, by decide +kernel⟩
theorem m_yJ7_fill_d0a16 : MS yJ7_fill_d0a16 cJ7_fill_d0a16 5 none 2 := ⟨b_209, b_210, b_208, by decide +kernel⟩
theorem i_X1 : ∀ w ∈ u_ws RX1 TX1 5, w ∈ BIG := fun w hw => by
  obtain ⟨k, hk, rfl⟩ := List.mem_map.mp hw
  have hk := List.mem_range.mp hk
  match k, hk with
  | 0, _ => exact b_211
  | 1, _ => exact b_212
  | 2, _ => exact b_213
  | 3, _ => exact b_214
  | 4, _ => exact b_215
  | k + 5, hk => exact absurd hk (by omega)
theorem i_X3 : ∀ w ∈ u_ws RX3 TX3 4, w ∈ BIG := fun w hw => by
  obtain ⟨k, hk, rfl⟩ := List.mem_map.mp hw
  have hk := List.mem_range.mp hk
  match k, hk with
  | 0, _ => exact b_216
  | 1, _ => exact b_217
  | 2, _ => exact b_218
  | 3, _ => exact b_219
  | k + 4, hk => exact absurd hk (by omega)
theorem i_X8 : ∀ w ∈ u_ws RX8 TX8 4, w ∈ BIG := fun w hw => by
  obtain ⟨k, hk, rfl⟩ := List.mem_map.mp hw
  have hk := List.mem_range.mp hk
  match k, hk with
  | 0, _ => exact b_220
  | 1, _ => exact b_221
  | 2, _ => exact b_222
  | 3, _ => exact b_223
  | k + 4, hk => exact absurd hk (by omega)
theorem i_X9 : ∀ w ∈ u_ws RX9 TX9 6, w ∈ BIG := fun w hw => by
  obtain ⟨k, hk, rfl⟩ := List.mem_map.mp hw
  have hk := List.mem_range.mp hk
  match k, hk with
  | 0, _ => exact b_224
  | 1, _ => exact b_225
  | 2, _ => exact b_226
  | 3, _ => exact b_227
  | 4, _ => exact b_228
  | 5, _ => exact b_229
  | k + 6, hk => exact absurd hk (by omega)
theorem dJ7_fill_53178_0 : decode cJ7_fill_53178 0 = .ok (.iconst 0, 1) := by decide +kernel
theorem dJ7_fill_53178_1 : decode cJ7_fill_53178 1 = .ok (.istore_n 2, 1) := by decide +kernel
theorem dJ7_fill_53178_2 : decode cJ7_fill_53178 2 = .ok (.aload_n 0, 1) := by decide +kernel
theorem dJ7_fill_53178_3 : decode cJ7_fill_53178 3 = .ok (.arraylength, 1) := by decide +kernel
theorem dJ7_fill_53178_4 : decode cJ7_fill_53178 4 = .ok (.istore_n 3, 1) := by decide +kernel
theorem dJ7_fill_53178_5 : decode cJ7_fill_53178 5 = .ok (.iload_n 2, 1) := by decide +kernel
theorem dJ7_fill_53178_6 : decode cJ7_fill_53178 6 = .ok (.iload_n 3, 1) := by decide +kernel
theorem dJ7_fill_53178_7 : decode cJ7_fill_53178 7 = .ok (.if_icmp .ge 13, 3) := by decide +kernel
theorem dJ7_fill_53178_10 : decode cJ7_fill_53178 10 = .ok (.aload_n 0, 1) := by decide +kernel
theorem dJ7_fill_53178_11 : decode cJ7_fill_53178 11 = .ok (.iload_n 2, 1) := by decide +kernel
theorem dJ7_fill_53178_12 : decode cJ7_fill_53178 12 = .ok (.iload_n 1, 1) := by decide +kernel
theorem dJ7_fill_53178_13 : decode cJ7_fill_53178 13 = .ok (.iastore, 1) := by decide +kernel
theorem dJ7_fill_53178_14 : decode cJ7_fill_53178 14 = .ok (.iinc 2 1, 3) := by decide +kernel
theorem dJ7_fill_53178_17 : decode cJ7_fill_53178 17 = .ok (.goto (-12), 3) := by decide +kernel
theorem dJ7_fill_53178_20 : decode cJ7_fill_53178 20 = .ok (.return_, 1) := by decide +kernel
theorem dJ7_fill_d0a16_0 : decode cJ7_fill_d0a16 0 = .ok (.iconst 0, 1) := by decide +kernel
theorem dJ7_fill_d0a16_1 : decode cJ7_fill_d0a16 1 = .ok (.istore_n 3, 1) := by decide +kernel
theorem dJ7_fill_d0a16_2 : decode cJ7_fill_d0a16 2 = .ok (.aload_n 0, 1) := by decide +kernel
theorem dJ7_fill_d0a16_3 : decode cJ7_fill_d0a16 3 = .ok (.arraylength, 1) := by decide +kernel
theorem dJ7_fill_d0a16_4 : decode cJ7_fill_d0a16 4 = .ok (.istore 4, 2) := by decide +kernel
theorem dJ7_fill_d0a16_6 : decode cJ7_fill_d0a16 6 = .ok (.iload_n 3, 1) := by decide +kernel
theorem dJ7_fill_d0a16_7 : decode cJ7_fill_d0a16 7 = .ok (.iload 4, 2) := by decide +kernel
theorem dJ7_fill_d0a16_9 : decode cJ7_fill_d0a16 9 = .ok (.if_icmp .ge 13, 3) := by decide +kernel
theorem dJ7_fill_d0a16_12 : decode cJ7_fill_d0a16 12 = .ok (.aload_n 0, 1) := by decide +kernel
theorem dJ7_fill_d0a16_13 : decode cJ7_fill_d0a16 13 = .ok (.iload_n 3, 1) := by decide +kernel
theorem dJ7_fill_d0a16_14 : decode cJ7_fill_d0a16 14 = .ok (.lload_n 1, 1) := by decide +kernel
theorem dJ7_fill_d0a16_15 : decode cJ7_fill_d0a16 15 = .ok (.lastore, 1) := by decide +kernel
theorem dJ7_fill_d0a16_16 : decode cJ7_fill_d0a16 16 = .ok (.iinc 3 1, 3) := by decide +kernel
theorem dJ7_fill_d0a16_19 : decode cJ7_fill_d0a16 19 = .ok (.goto (-13), 3) := by decide +kernel
theorem dJ7_fill_d0a16_22 : decode cJ7_fill_d0a16 22 = .ok (.return_, 1) := by decide +kernel
theorem dX0_clear_0 : decode cX0_clear 0 = .ok (.aload_n 0, 1) := by decide +kernel
theorem dX0_clear_1 : decode cX0_clear 1 = .ok (.iconst 0, 1) := by decide +kernel
theorem dX0_clear_2 : decode cX0_clear 2 = .ok (.putfield 46, 3) := by decide +kernel
theorem dX0_clear_5 : decode cX0_clear 5 = .ok (.aload_n 0, 1) := by decide +kernel
theorem dX0_clear_6 : decode cX0_clear 6 = .ok (.iconst 0, 1) := by decide +kernel
theorem dX0_clear_7 : decode cX0_clear 7 = .ok (.putfield 50, 3) := by decide +kernel
theorem dX0_clear_10 : decode cX0_clear 10 = .ok (.aload_n 0, 1) := by decide +kernel
theorem dX0_clear_11 : decode cX0_clear 11 = .ok (.iconst 0, 1) := by decide +kernel
theorem dX0_clear_12 : decode cX0_clear 12 = .ok (.putfield 53, 3) := by decide +kernel
theorem dX0_clear_15 : decode cX0_clear 15 = .ok (.aload_n 0, 1) := by decide +kernel
theorem dX0_clear_16 : decode cX0_clear 16 = .ok (.iconst 0, 1) := by decide +kernel
theorem dX0_clear_17 : decode cX0_clear 17 = .ok (.putfield 56, 3) := by decide +kernel
theorem dX0_clear_20 : decode cX0_clear 20 = .ok (.aload_n 0, 1) := by decide +kernel
theorem dX0_clear_21 : decode cX0_clear 21 = .ok (.iconst 0, 1) := by decide +kernel
theorem dX0_clear_22 : decode cX0_clear 22 = .ok (.putfield 59, 3) := by decide +kernel
theorem dX0_clear_25 : decode cX0_clear 25 = .ok (.aload_n 0, 1) := by decide +kernel
theorem dX0_clear_26 : decode cX0_clear 26 = .ok (.iconst 0, 1) := by decide +kernel
theorem dX0_clear_27 : decode cX0_clear 27 = .ok (.putfield 62, 3) := by decide +kernel
theorem dX0_clear_30 : decode cX0_clear 30 = .ok (.aload_n 0, 1) := by decide +kernel
theorem dX0_clear_31 : decode cX0_clear 31 = .ok (.iconst 0, 1) := by decide +kernel
theorem dX0_clear_32 : decode cX0_clear 32 = .ok (.putfield 65, 3) := by decide +kernel
theorem dX0_clear_35 : decode cX0_clear 35 = .ok (.aload_n 0, 1) := by decide +kernel
theorem dX0_clear_36 : decode cX0_clear 36 = .ok (.iconst 0, 1) := by decide +kernel
theorem dX0_clear_37 : decode cX0_clear 37 = .ok (.putfield 68, 3) := by decide +kernel
theorem dX0_clear_40 : decode cX0_clear 40 = .ok (.aload_n 0, 1) := by decide +kernel
theorem dX0_clear_41 : decode cX0_clear 41 = .ok (.iconst 0, 1) := by decide +kernel
theorem dX0_clear_42 : decode cX0_clear 42 = .ok (.putfield 71, 3) := by decide +kernel
theorem dX0_clear_45 : decode cX0_clear 45 = .ok (.aload_n 0, 1) := by decide +kernel
theorem dX0_clear_46 : decode cX0_clear 46 = .ok (.iconst 0, 1) := by decide +kernel
theorem dX0_clear_47 : decode cX0_clear 47 = .ok (.putfield 74, 3) := by decide +kernel
theorem dX0_clear_50 : decode cX0_clear 50 = .ok (.aload_n 0, 1) := by decide +kernel
theorem dX0_clear_51 : decode cX0_clear 51 = .ok (.getfield 42, 3) := by decide +kernel
theorem dX0_clear_54 : decode cX0_clear 54 = .ok (.iconst 0, 1) := by decide +kernel
theorem dX0_clear_55 : decode cX0_clear 55 = .ok (.putfield 77, 3) := by decide +kernel
theorem dX0_clear_58 : decode cX0_clear 58 = .ok (.aload_n 0, 1) := by decide +kernel
theorem dX0_clear_59 : decode cX0_clear 59 = .ok (.getfield 9, 3) := by decide +kernel
theorem dX0_clear_62 : decode cX0_clear 62 = .ok (.iconst 0, 1) := by decide +kernel
theorem dX0_clear_63 : decode cX0_clear 63 = .ok (.invokestatic 80, 3) := by decide +kernel
theorem dX0_clear_66 : decode cX0_clear 66 = .ok (.aload_n 0, 1) := by decide +kernel
theorem dX0_clear_67 : decode cX0_clear 67 = .ok (.getfield 18, 3) := by decide +kernel
theorem dX0_clear_70 : decode cX0_clear 70 = .ok (.iconst 0, 1) := by decide +kernel
theorem dX0_clear_71 : decode cX0_clear 71 = .ok (.invokestatic 80, 3) := by decide +kernel
theorem dX0_clear_74 : decode cX0_clear 74 = .ok (.aload_n 0, 1) := by decide +kernel
theorem dX0_clear_75 : decode cX0_clear 75 = .ok (.getfield 21, 3) := by decide +kernel
theorem dX0_clear_78 : decode cX0_clear 78 = .ok (.iconst 0, 1) := by decide +kernel
theorem dX0_clear_79 : decode cX0_clear 79 = .ok (.invokestatic 80, 3) := by decide +kernel
theorem dX0_clear_82 : decode cX0_clear 82 = .ok (.return_, 1) := by decide +kernel
theorem dX0_copyFrom_0 : decode cX0_copyFrom 0 = .ok (.aload_n 0, 1) := by decide +kernel
theorem dX0_copyFrom_1 : decode cX0_copyFrom 1 = .ok (.aload_n 1, 1) := by decide +kernel
theorem dX0_copyFrom_2 : decode cX0_copyFrom 2 = .ok (.getfield 46, 3) := by decide +kernel
theorem dX0_copyFrom_5 : decode cX0_copyFrom 5 = .ok (.putfield 46, 3) := by decide +kernel
theorem dX0_copyFrom_8 : decode cX0_copyFrom 8 = .ok (.aload_n 0, 1) := by decide +kernel
theorem dX0_copyFrom_9 : decode cX0_copyFrom 9 = .ok (.aload_n 1, 1) := by decide +kernel
theorem dX0_copyFrom_10 : decode cX0_copyFrom 10 = .ok (.getfield 50, 3) := by decide +kernel
theorem dX0_copyFrom_13 : decode cX0_copyFrom 13 = .ok (.putfield 50, 3) := by decide +kernel
theorem dX0_copyFrom_16 : decode cX0_copyFrom 16 = .ok (.aload_n 0, 1) := by decide +kernel
theorem dX0_copyFrom_17 : decode cX0_copyFrom 17 = .ok (.aload_n 1, 1) := by decide +kernel
theorem dX0_copyFrom_18 : decode cX0_copyFrom 18 = .ok (.getfield 53, 3) := by decide +kernel
theorem dX0_copyFrom_21 : decode cX0_copyFrom 21 = .ok (.putfield 53, 3) := by decide +kernel
theorem dX0_copyFrom_24 : decode cX0_copyFrom 24 = .ok (.aload_n 0, 1) := by decide +kernel
theorem dX0_copyFrom_25 : decode cX0_copyFrom 25 = .ok (.aload_n 1, 1) := by decide +kernel
theorem dX0_copyFrom_26 : decode cX0_copyFrom 26 = .ok (.getfield 56, 3) := by decide +kernel
theorem dX0_copyFrom_29 : decode cX0_copyFrom 29 = .ok (.putfield 56, 3) := by decide +kernel
theorem dX0_copyFrom_32 : decode cX0_copyFrom 32 = .ok (.aload_n 0, 1) := by decide +kernel
theorem dX0_copyFrom_33 : decode cX0_copyFrom 33 = .ok (.aload_n 1, 1) := by decide +kernel
theorem dX0_copyFrom_34 : decode cX0_copyFrom 34 = .ok (.getfield 59, 3) := by decide +kernel
theorem dX0_copyFrom_37 : decode cX0_copyFrom 37 = .ok (.putfield 59, 3) := by decide +kernel
theorem dX0_copyFrom_40 : decode cX0_copyFrom 40 = .ok (.aload_n 0, 1) := by decide +kernel
theorem dX0_copyFrom_41 : decode cX0_copyFrom 41 = .ok (.aload_n 1, 1) := by decide +kernel
theorem dX0_copyFrom_42 : decode cX0_copyFrom 42 = .ok (.getfield 62, 3) := by decide +kernel
theorem dX0_copyFrom_45 : decode cX0_copyFrom 45 = .ok (.putfield 62, 3) := by decide +kernel
theorem dX0_copyFrom_48 : decode cX0_copyFrom 48 = .ok (.aload_n 0, 1) := by decide +kernel
theorem dX0_copyFrom_49 : decode cX0_copyFrom 49 = .ok (.aload_n 1, 1) := by decide +kernel
theorem dX0_copyFrom_50 : decode cX0_copyFrom 50 = .ok (.getfield 65, 3) := by decide +kernel
theorem dX0_copyFrom_53 : decode cX0_copyFrom 53 = .ok (.putfield 65, 3) := by decide +kernel
theorem dX0_copyFrom_56 : decode cX0_copyFrom 56 = .ok (.aload_n 0, 1) := by decide +kernel
theorem dX0_copyFrom_57 : decode cX0_copyFrom 57 = .ok (.aload_n 1, 1) := by decide +kernel
theorem dX0_copyFrom_58 : decode cX0_copyFrom 58 = .ok (.getfield 68, 3) := by decide +kernel
theorem dX0_copyFrom_61 : decode cX0_copyFrom 61 = .ok (.putfield 68, 3) := by decide +kernel
theorem dX0_copyFrom_64 : decode cX0_copyFrom 64 = .ok (.aload_n 0, 1) := by decide +kernel
theorem dX0_copyFrom_65 : decode cX0_copyFrom 65 = .ok (.aload_n 1, 1) := by decide +kernel
theorem dX0_copyFrom_66 : decode cX0_copyFrom 66 = .ok (.getfield 71, 3) := by decide +kernel
theorem dX0_copyFrom_69 : decode cX0_copyFrom 69 = .ok (.putfield 71, 3) := by decide +kernel
theorem dX0_copyFrom_72 : decode cX0_copyFrom 72 = .ok (.aload_n 0, 1) := by decide +kernel
theorem dX0_copyFrom_73 : decode cX0_copyFrom 73 = .ok (.aload_n 1, 1) := by decide +kernel
theorem dX0_copyFrom_74 : decode cX0_copyFrom 74 = .ok (.getfield 74, 3) := by decide +kernel
theorem dX0_copyFrom_77 : decode cX0_copyFrom 77 = .ok (.putfield 74, 3) := by decide +kernel
theorem dX0_copyFrom_80 : decode cX0_copyFrom 80 = .ok (.aload_n 1, 1) := by decide +kernel
theorem dX0_copyFrom_81 : decode cX0_copyFrom 81 = .ok (.getfield 9, 3) := by decide +kernel
theorem dX0_copyFrom_84 : decode cX0_copyFrom 84 = .ok (.iconst 0, 1) := by decide +kernel
theorem dX0_copyFrom_85 : decode cX0_copyFrom 85 = .ok (.aload_n 0, 1) := by decide +kernel
theorem dX0_copyFrom_86 : decode cX0_copyFrom 86 = .ok (.getfield 9, 3) := by decide +kernel
theorem dX0_copyFrom_89 : decode cX0_copyFrom 89 = .ok (.iconst 0, 1) := by decide +kernel
theorem dX0_copyFrom_90 : decode cX0_copyFrom 90 = .ok (.bipush 8, 2) := by decide +kernel
theorem dX0_copyFrom_92 : decode cX0_copyFrom 92 = .ok (.invokestatic 86, 3) := by decide +kernel
theorem dX0_copyFrom_95 : decode cX0_copyFrom 95 = .ok (.aload_n 1, 1) := by decide +kernel
theorem dX0_copyFrom_96 : decode cX0_copyFrom 96 = .ok (.getfield 15, 3) := by decide +kernel
theorem dX0_copyFrom_99 : decode cX0_copyFrom 99 = .ok (.iconst 0, 1) := by decide +kernel
theorem dX0_copyFrom_100 : decode cX0_copyFrom 100 = .ok (.aload_n 0, 1) := by decide +kernel
theorem dX0_copyFrom_101 : decode cX0_copyFrom 101 = .ok (.getfield 15, 3) := by decide +kernel
theorem dX0_copyFrom_104 : decode cX0_copyFrom 104 = .ok (.iconst 0, 1) := by decide +kernel
theorem dX0_copyFrom_105 : decode cX0_copyFrom 105 = .ok (.bipush 32, 2) := by decide +kernel
theorem dX0_copyFrom_107 : decode cX0_copyFrom 107 = .ok (.invokestatic 86, 3) := by decide +kernel
theorem dX0_copyFrom_110 : decode cX0_copyFrom 110 = .ok (.aload_n 1, 1) := by decide +kernel
theorem dX0_copyFrom_111 : decode cX0_copyFrom 111 = .ok (.getfield 18, 3) := by decide +kernel
theorem dX0_copyFrom_114 : decode cX0_copyFrom 114 = .ok (.iconst 0, 1) := by decide +kernel
theorem dX0_copyFrom_115 : decode cX0_copyFrom 115 = .ok (.aload_n 0, 1) := by decide +kernel
theorem dX0_copyFrom_116 : decode cX0_copyFrom 116 = .ok (.getfield 18, 3) := by decide +kernel
theorem dX0_copyFrom_119 : decode cX0_copyFrom 119 = .ok (.iconst 0, 1) := by decide +kernel
theorem dX0_copyFrom_120 : decode cX0_copyFrom 120 = .ok (.iconst 4, 1) := by decide +kernel
theorem dX0_copyFrom_121 : decode cX0_copyFrom 121 = .ok (.invokestatic 86, 3) := by decide +kernel
theorem dX0_copyFrom_124 : decode cX0_copyFrom 124 = .ok (.aload_n 1, 1) := by decide +kernel
theorem dX0_copyFrom_125 : decode cX0_copyFrom 125 = .ok (.getfield 21, 3) := by decide +kernel
theorem dX0_copyFrom_128 : decode cX0_copyFrom 128 = .ok (.iconst 0, 1) := by decide +kernel
theorem dX0_copyFrom_129 : decode cX0_copyFrom 129 = .ok (.aload_n 0, 1) := by decide +kernel
theorem dX0_copyFrom_130 : decode cX0_copyFrom 130 = .ok (.getfield 21, 3) := by decide +kernel
theorem dX0_copyFrom_133 : decode cX0_copyFrom 133 = .ok (.iconst 0, 1) := by decide +kernel
theorem dX0_copyFrom_134 : decode cX0_copyFrom 134 = .ok (.iconst 4, 1) := by decide +kernel
theorem dX0_copyFrom_135 : decode cX0_copyFrom 135 = .ok (.invokestatic 86, 3) := by decide +kernel
theorem dX0_copyFrom_138 : decode cX0_copyFrom 138 = .ok (.aload_n 1, 1) := by decide +kernel
theorem dX0_copyFrom_139 : decode cX0_copyFrom 139 = .ok (.getfield 24, 3) := by decide +kernel
theorem dX0_copyFrom_142 : decode cX0_copyFrom 142 = .ok (.iconst 0, 1) := by decide +kernel
theorem dX0_copyFrom_143 : decode cX0_copyFrom 143 = .ok (.aload_n 0, 1) := by decide +kernel
theorem dX0_copyFrom_144 : decode cX0_copyFrom 144 = .ok (.getfield 24, 3) := by decide +kernel
theorem dX0_copyFrom_147 : decode cX0_copyFrom 147 = .ok (.iconst 0, 1) := by decide +kernel
theorem dX0_copyFrom_148 : decode cX0_copyFrom 148 = .ok (.bipush 8, 2) := by decide +kernel
theorem dX0_copyFrom_150 : decode cX0_copyFrom 150 = .ok (.invokestatic 86, 3) := by decide +kernel
theorem dX0_copyFrom_153 : decode cX0_copyFrom 153 = .ok (.aload_n 1, 1) := by decide +kernel
theorem dX0_copyFrom_154 : decode cX0_copyFrom 154 = .ok (.getfield 27, 3) := by decide +kernel
theorem dX0_copyFrom_157 : decode cX0_copyFrom 157 = .ok (.iconst 0, 1) := by decide +kernel
theorem dX0_copyFrom_158 : decode cX0_copyFrom 158 = .ok (.aload_n 0, 1) := by decide +kernel
theorem dX0_copyFrom_159 : decode cX0_copyFrom 159 = .ok (.getfield 27, 3) := by decide +kernel
theorem dX0_copyFrom_162 : decode cX0_copyFrom 162 = .ok (.iconst 0, 1) := by decide +kernel
theorem dX0_copyFrom_163 : decode cX0_copyFrom 163 = .ok (.bipush 8, 2) := by decide +kernel
theorem dX0_copyFrom_165 : decode cX0_copyFrom 165 = .ok (.invokestatic 86, 3) := by decide +kernel
theorem dX0_copyFrom_168 : decode cX0_copyFrom 168 = .ok (.aload_n 1, 1) := by decide +kernel
theorem dX0_copyFrom_169 : decode cX0_copyFrom 169 = .ok (.getfield 30, 3) := by decide +kernel
theorem dX0_copyFrom_172 : decode cX0_copyFrom 172 = .ok (.iconst 0, 1) := by decide +kernel
theorem dX0_copyFrom_173 : decode cX0_copyFrom 173 = .ok (.aload_n 0, 1) := by decide +kernel
theorem dX0_copyFrom_174 : decode cX0_copyFrom 174 = .ok (.getfield 30, 3) := by decide +kernel
theorem dX0_copyFrom_177 : decode cX0_copyFrom 177 = .ok (.iconst 0, 1) := by decide +kernel
theorem dX0_copyFrom_178 : decode cX0_copyFrom 178 = .ok (.iconst 4, 1) := by decide +kernel
theorem dX0_copyFrom_179 : decode cX0_copyFrom 179 = .ok (.invokestatic 86, 3) := by decide +kernel
theorem dX0_copyFrom_182 : decode cX0_copyFrom 182 = .ok (.aload_n 1, 1) := by decide +kernel
theorem dX0_copyFrom_183 : decode cX0_copyFrom 183 = .ok (.getfield 33, 3) := by decide +kernel
theorem dX0_copyFrom_186 : decode cX0_copyFrom 186 = .ok (.iconst 0, 1) := by decide +kernel
theorem dX0_copyFrom_187 : decode cX0_copyFrom 187 = .ok (.aload_n 0, 1) := by decide +kernel
theorem dX0_copyFrom_188 : decode cX0_copyFrom 188 = .ok (.getfield 33, 3) := by decide +kernel
theorem dX0_copyFrom_191 : decode cX0_copyFrom 191 = .ok (.iconst 0, 1) := by decide +kernel
theorem dX0_copyFrom_192 : decode cX0_copyFrom 192 = .ok (.bipush 20, 2) := by decide +kernel
theorem dX0_copyFrom_194 : decode cX0_copyFrom 194 = .ok (.invokestatic 86, 3) := by decide +kernel
theorem dX0_copyFrom_197 : decode cX0_copyFrom 197 = .ok (.aload_n 1, 1) := by decide +kernel
theorem dX0_copyFrom_198 : decode cX0_copyFrom 198 = .ok (.getfield 36, 3) := by decide +kernel
theorem dX0_copyFrom_201 : decode cX0_copyFrom 201 = .ok (.iconst 0, 1) := by decide +kernel
theorem dX0_copyFrom_202 : decode cX0_copyFrom 202 = .ok (.aload_n 0, 1) := by decide +kernel
theorem dX0_copyFrom_203 : decode cX0_copyFrom 203 = .ok (.getfield 36, 3) := by decide +kernel
theorem dX0_copyFrom_206 : decode cX0_copyFrom 206 = .ok (.iconst 0, 1) := by decide +kernel
theorem dX0_copyFrom_207 : decode cX0_copyFrom 207 = .ok (.bipush 6, 2) := by decide +kernel
theorem dX0_copyFrom_209 : decode cX0_copyFrom 209 = .ok (.invokestatic 86, 3) := by decide +kernel
theorem dX0_copyFrom_212 : decode cX0_copyFrom 212 = .ok (.aload_n 0, 1) := by decide +kernel
theorem dX0_copyFrom_213 : decode cX0_copyFrom 213 = .ok (.getfield 42, 3) := by decide +kernel
theorem dX0_copyFrom_216 : decode cX0_copyFrom 216 = .ok (.aload_n 1, 1) := by decide +kernel
theorem dX0_copyFrom_217 : decode cX0_copyFrom 217 = .ok (.getfield 42, 3) := by decide +kernel
theorem dX0_copyFrom_220 : decode cX0_copyFrom 220 = .ok (.invokevirtual 92, 3) := by decide +kernel
theorem dX0_copyFrom_223 : decode cX0_copyFrom 223 = .ok (.return_, 1) := by decide +kernel
theorem dX11_back_0 : decode cX11_back 0 = .ok (.iload_n 1, 1) := by decide +kernel
theorem dX11_back_1 : decode cX11_back 1 = .ok (.ifCond .lt 8, 3) := by decide +kernel
theorem dX11_back_4 : decode cX11_back 4 = .ok (.iload_n 1, 1) := by decide +kernel
theorem dX11_back_5 : decode cX11_back 5 = .ok (.iconst 3, 1) := by decide +kernel
theorem dX11_back_6 : decode cX11_back 6 = .ok (.if_icmp .lt 6, 3) := by decide +kernel
theorem dX11_back_9 : decode cX11_back 9 = .ok (.bipush (-2), 2) := by decide +kernel
theorem dX11_back_11 : decode cX11_back 11 = .ok (.ireturn, 1) := by decide +kernel
theorem dX11_back_12 : decode cX11_back 12 = .ok (.aload_n 0, 1) := by decide +kernel
theorem dX11_back_13 : decode cX11_back 13 = .ok (.getfield 23, 3) := by decide +kernel
theorem dX11_back_16 : decode cX11_back 16 = .ok (.iload_n 1, 1) := by decide +kernel
theorem dX11_back_17 : decode cX11_back 17 = .ok (.aaload, 1) := by decide +kernel
theorem dX11_back_18 : decode cX11_back 18 = .ok (.astore_n 2, 1) := by decide +kernel
theorem dX11_back_19 : decode cX11_back 19 = .ok (.aload_n 2, 1) := by decide +kernel
theorem dX11_back_20 : decode cX11_back 20 = .ok (.ifnull 12, 3) := by decide +kernel
theorem dX11_back_23 : decode cX11_back 23 = .ok (.aload_n 0, 1) := by decide +kernel
theorem dX11_back_24 : decode cX11_back 24 = .ok (.getfield 27, 3) := by decide +kernel
theorem dX11_back_27 : decode cX11_back 27 = .ok (.iload_n 1, 1) := by decide +kernel
theorem dX11_back_28 : decode cX11_back 28 = .ok (.baload, 1) := by decide +kernel
theorem dX11_back_29 : decode cX11_back 29 = .ok (.ifCond .ne 6, 3) := by decide +kernel
theorem dX11_back_32 : decode cX11_back 32 = .ok (.bipush (-6), 2) := by decide +kernel
theorem dX11_back_34 : decode cX11_back 34 = .ok (.ireturn, 1) := by decide +kernel
theorem dX11_count_0 : decode cX11_count 0 = .ok (.iload_n 1, 1) := by decide +kernel
theorem dX11_count_1 : decode cX11_count 1 = .ok (.tableswitch 174 0 12 #[67, 75, 83, 91, 99, 107, 115, 123, 131, 139, 147, 158, 169], 67) := by decide +kernel
theorem dX11_count_68 : decode cX11_count 68 = .ok (.aload_n 0, 1) := by decide +kernel
theorem dX11_count_69 : decode cX11_count 69 = .ok (.getfield 19, 3) := by decide +kernel
theorem dX11_count_72 : decode cX11_count 72 = .ok (.getfield 264, 3) := by decide +kernel
theorem dX11_count_75 : decode cX11_count 75 = .ok (.ireturn, 1) := by decide +kernel
theorem dX11_count_76 : decode cX11_count 76 = .ok (.aload_n 0, 1) := by decide +kernel
theorem dX11_count_77 : decode cX11_count 77 = .ok (.getfield 19, 3) := by decide +kernel
theorem dX11_count_80 : decode cX11_count 80 = .ok (.getfield 380, 3) := by decide +kernel
theorem dX11_count_83 : decode cX11_count 83 = .ok (.ireturn, 1) := by decide +kernel
theorem dX11_count_84 : decode cX11_count 84 = .ok (.aload_n 0, 1) := by decide +kernel
theorem dX11_count_85 : decode cX11_count 85 = .ok (.getfield 19, 3) := by decide +kernel
theorem dX11_count_88 : decode cX11_count 88 = .ok (.getfield 230, 3) := by decide +kernel
theorem dX11_count_91 : decode cX11_count 91 = .ok (.ireturn, 1) := by decide +kernel
theorem dX11_count_92 : decode cX11_count 92 = .ok (.aload_n 0, 1) := by decide +kernel
theorem dX11_count_93 : decode cX11_count 93 = .ok (.getfield 19, 3) := by decide +kernel
theorem dX11_count_96 : decode cX11_count 96 = .ok (.getfield 383, 3) := by decide +kernel
theorem dX11_count_99 : decode cX11_count 99 = .ok (.ireturn, 1) := by decide +kernel
theorem dX11_count_100 : decode cX11_count 100 = .ok (.aload_n 0, 1) := by decide +kernel
theorem dX11_count_101 : decode cX11_count 101 = .ok (.getfield 19, 3) := by decide +kernel
theorem dX11_count_104 : decode cX11_count 104 = .ok (.getfield 386, 3) := by decide +kernel
theorem dX11_count_107 : decode cX11_count 107 = .ok (.ireturn, 1) := by decide +kernel
theorem dX11_count_108 : decode cX11_count 108 = .ok (.aload_n 0, 1) := by decide +kernel
theorem dX11_count_109 : decode cX11_count 109 = .ok (.getfield 19, 3) := by decide +kernel
theorem dX11_count_112 : decode cX11_count 112 = .ok (.getfield 270, 3) := by decide +kernel
theorem dX11_count_115 : decode cX11_count 115 = .ok (.ireturn, 1) := by decide +kernel
theorem dX11_count_116 : decode cX11_count 116 = .ok (.aload_n 0, 1) := by decide +kernel
theorem dX11_count_117 : decode cX11_count 117 = .ok (.getfield 19, 3) := by decide +kernel
theorem dX11_count_120 : decode cX11_count 120 = .ok (.getfield 180, 3) := by decide +kernel
theorem dX11_count_123 : decode cX11_count 123 = .ok (.ireturn, 1) := by decide +kernel
theorem dX11_count_124 : decode cX11_count 124 = .ok (.aload_n 0, 1) := by decide +kernel
theorem dX11_count_125 : decode cX11_count 125 = .ok (.getfield 19, 3) := by decide +kernel
theorem dX11_count_128 : decode cX11_count 128 = .ok (.getfield 389, 3) := by decide +kernel
theorem dX11_count_131 : decode cX11_count 131 = .ok (.ireturn, 1) := by decide +kernel
theorem dX11_count_132 : decode cX11_count 132 = .ok (.aload_n 0, 1) := by decide +kernel
theorem dX11_count_133 : decode cX11_count 133 = .ok (.getfield 19, 3) := by decide +kernel
theorem dX11_count_136 : decode cX11_count 136 = .ok (.getfield 392, 3) := by decide +kernel
theorem dX11_count_139 : decode cX11_count 139 = .ok (.ireturn, 1) := by decide +kernel
theorem dX11_count_140 : decode cX11_count 140 = .ok (.aload_n 0, 1) := by decide +kernel
theorem dX11_count_141 : decode cX11_count 141 = .ok (.getfield 19, 3) := by decide +kernel
theorem dX11_count_144 : decode cX11_count 144 = .ok (.getfield 105, 3) := by decide +kernel
theorem dX11_count_147 : decode cX11_count 147 = .ok (.ireturn, 1) := by decide +kernel
theorem dX11_count_148 : decode cX11_count 148 = .ok (.aload_n 0, 1) := by decide +kernel
theorem dX11_count_149 : decode cX11_count 149 = .ok (.getfield 10, 3) := by decide +kernel
theorem dX11_count_152 : decode cX11_count 152 = .ok (.getfield 80, 3) := by decide +kernel
theorem dX11_count_155 : decode cX11_count 155 = .ok (.getfield 84, 3) := by decide +kernel
theorem dX11_count_158 : decode cX11_count 158 = .ok (.ireturn, 1) := by decide +kernel
theorem dX11_count_159 : decode cX11_count 159 = .ok (.aload_n 0, 1) := by decide +kernel
theorem dX11_count_160 : decode cX11_count 160 = .ok (.getfield 19, 3) := by decide +kernel
theorem dX11_count_163 : decode cX11_count 163 = .ok (.getfield 355, 3) := by decide +kernel
theorem dX11_count_166 : decode cX11_count 166 = .ok (.getfield 359, 3) := by decide +kernel
theorem dX11_count_169 : decode cX11_count 169 = .ok (.ireturn, 1) := by decide +kernel
theorem dX11_count_170 : decode cX11_count 170 = .ok (.aload_n 0, 1) := by decide +kernel
theorem dX11_count_171 : decode cX11_count 171 = .ok (.invokevirtual 395, 3) := by decide +kernel
theorem dX11_count_174 : decode cX11_count 174 = .ok (.ireturn, 1) := by decide +kernel
theorem dX11_count_175 : decode cX11_count 175 = .ok (.iconst (-1), 1) := by decide +kernel
theorem dX11_count_176 : decode cX11_count 176 = .ok (.ireturn, 1) := by decide +kernel
theorem dX11_countRows_0 : decode cX11_countRows 0 = .ok (.iconst 0, 1) := by decide +kernel
theorem dX11_countRows_1 : decode cX11_countRows 1 = .ok (.istore_n 1, 1) := by decide +kernel
theorem dX11_countRows_2 : decode cX11_countRows 2 = .ok (.iconst 0, 1) := by decide +kernel
theorem dX11_countRows_3 : decode cX11_countRows 3 = .ok (.istore_n 2, 1) := by decide +kernel
theorem dX11_countRows_4 : decode cX11_countRows 4 = .ok (.iload_n 2, 1) := by decide +kernel
theorem dX11_countRows_5 : decode cX11_countRows 5 = .ok (.iconst 4, 1) := by decide +kernel
theorem dX11_countRows_6 : decode cX11_countRows 6 = .ok (.if_icmp .ge 20, 3) := by decide +kernel
theorem dX11_countRows_9 : decode cX11_countRows 9 = .ok (.aload_n 0, 1) := by decide +kernel
theorem dX11_countRows_10 : decode cX11_countRows 10 = .ok (.iload_n 2, 1) := by decide +kernel
theorem dX11_countRows_11 : decode cX11_countRows 11 = .ok (.invokevirtual 404, 3) := by decide +kernel
theorem dX11_countRows_14 : decode cX11_countRows 14 = .ok (.ifnull 6, 3) := by decide +kernel
theorem dX11_countRows_20 : decode cX11_countRows 20 = .ok (.iinc 2 1, 3) := by decide +kernel
theorem dX11_countRows_23 : decode cX11_countRows 23 = .ok (.goto (-19), 3) := by decide +kernel
theorem dX11_countRows_26 : decode cX11_countRows 26 = .ok (.iload_n 1, 1) := by decide +kernel
theorem dX11_countRows_27 : decode cX11_countRows 27 = .ok (.ireturn, 1) := by decide +kernel
theorem dX11_desk_0 : decode cX11_desk 0 = .ok (.aload_n 0, 1) := by decide +kernel
theorem dX11_desk_1 : decode cX11_desk 1 = .ok (.getfield 10, 3) := by decide +kernel
theorem dX11_desk_4 : decode cX11_desk 4 = .ok (.invokevirtual 94, 3) := by decide +kernel
theorem dX11_desk_7 : decode cX11_desk 7 = .ok (.ifCond .ne 6, 3) := by decide +kernel
theorem dX11_desk_13 : decode cX11_desk 13 = .ok (.aload_n 0, 1) := by decide +kernel
theorem dX11_desk_14 : decode cX11_desk 14 = .ok (.getfield 19, 3) := by decide +kernel
theorem dX11_desk_17 : decode cX11_desk 17 = .ok (.aload_n 0, 1) := by decide +kernel
theorem dX11_desk_18 : decode cX11_desk 18 = .ok (.getfield 10, 3) := by decide +kernel
theorem dX11_desk_21 : decode cX11_desk 21 = .ok (.getfield 98, 3) := by decide +kernel
theorem dX11_desk_24 : decode cX11_desk 24 = .ok (.invokevirtual 101, 3) := by decide +kernel
theorem dX11_desk_27 : decode cX11_desk 27 = .ok (.aload_n 0, 1) := by decide +kernel
theorem dX11_desk_28 : decode cX11_desk 28 = .ok (.getfield 10, 3) := by decide +kernel
theorem dX11_desk_31 : decode cX11_desk 31 = .ok (.getfield 80, 3) := by decide +kernel
theorem dX11_desk_34 : decode cX11_desk 34 = .ok (.iconst 0, 1) := by decide +kernel
theorem dX11_desk_35 : decode cX11_desk 35 = .ok (.putfield 84, 3) := by decide +kernel
theorem dX11_desk_38 : decode cX11_desk 38 = .ok (.aload_n 0, 1) := by decide +kernel
theorem dX11_desk_39 : decode cX11_desk 39 = .ok (.getfield 19, 3) := by decide +kernel
theorem dX11_desk_42 : decode cX11_desk 42 = .ok (.getfield 105, 3) := by decide +kernel
theorem dX11_desk_45 : decode cX11_desk 45 = .ok (.ireturn, 1) := by decide +kernel
theorem dX11_end_0 : decode cX11_end 0 = .ok (.iload_n 1, 1) := by decide +kernel
theorem dX11_end_1 : decode cX11_end 1 = .ok (.ifCond .lt 17, 3) := by decide +kernel
theorem dX11_end_4 : decode cX11_end 4 = .ok (.iload_n 1, 1) := by decide +kernel
theorem dX11_end_5 : decode cX11_end 5 = .ok (.aload_n 0, 1) := by decide +kernel
theorem dX11_end_6 : decode cX11_end 6 = .ok (.getfield 10, 3) := by decide +kernel
theorem dX11_end_9 : decode cX11_end 9 = .ok (.getfield 80, 3) := by decide +kernel
theorem dX11_end_12 : decode cX11_end 12 = .ok (.getfield 84, 3) := by decide +kernel
theorem dX11_end_15 : decode cX11_end 15 = .ok (.if_icmp .le 5, 3) := by decide +kernel
theorem dX11_end_18 : decode cX11_end 18 = .ok (.iconst (-1), 1) := by decide +kernel
theorem dX11_end_19 : decode cX11_end 19 = .ok (.ireturn, 1) := by decide +kernel
theorem dX11_end_20 : decode cX11_end 20 = .ok (.aload_n 0, 1) := by decide +kernel
theorem dX11_end_21 : decode cX11_end 21 = .ok (.getfield 10, 3) := by decide +kernel
theorem dX11_end_24 : decode cX11_end 24 = .ok (.getfield 80, 3) := by decide +kernel
theorem dX11_end_27 : decode cX11_end 27 = .ok (.iload_n 1, 1) := by decide +kernel
theorem dX11_end_28 : decode cX11_end 28 = .ok (.putfield 84, 3) := by decide +kernel
theorem dX11_end_31 : decode cX11_end 31 = .ok (.iload_n 1, 1) := by decide +kernel
theorem dX11_end_32 : decode cX11_end 32 = .ok (.ireturn, 1) := by decide +kernel
theorem dX11_fault_0 : decode cX11_fault 0 = .ok (.iload_n 1, 1) := by decide +kernel
theorem dX11_fault_1 : decode cX11_fault 1 = .ok (.ifCond .ne 11, 3) := by decide +kernel
theorem dX11_fault_4 : decode cX11_fault 4 = .ok (.aload_n 0, 1) := by decide +kernel
theorem dX11_fault_5 : decode cX11_fault 5 = .ok (.getfield 10, 3) := by decide +kernel
theorem dX11_fault_8 : decode cX11_fault 8 = .ok (.getfield 108, 3) := by decide +kernel
theorem dX11_fault_11 : decode cX11_fault 11 = .ok (.ireturn, 1) := by decide +kernel
theorem dX11_fault_12 : decode cX11_fault 12 = .ok (.iload_n 1, 1) := by decide +kernel
theorem dX11_fault_13 : decode cX11_fault 13 = .ok (.iconst 1, 1) := by decide +kernel
theorem dX11_fault_14 : decode cX11_fault 14 = .ok (.if_icmp .ne 13, 3) := by decide +kernel
theorem dX11_fault_17 : decode cX11_fault 17 = .ok (.aload_n 0, 1) := by decide +kernel
theorem dX11_fault_18 : decode cX11_fault 18 = .ok (.getfield 10, 3) := by decide +kernel
theorem dX11_fault_21 : decode cX11_fault 21 = .ok (.getfield 111, 3) := by decide +kernel
theorem dX11_fault_24 : decode cX11_fault 24 = .ok (.goto 4, 3) := by decide +kernel
theorem dX11_fault_27 : decode cX11_fault 27 = .ok (.iconst (-1), 1) := by decide +kernel
theorem dX11_fault_28 : decode cX11_fault 28 = .ok (.ireturn, 1) := by decide +kernel
theorem dX11_feed_0 : decode cX11_feed 0 = .ok (.aload_n 0, 1) := by decide +kernel
theorem dX11_feed_1 : decode cX11_feed 1 = .ok (.getfield 10, 3) := by decide +kernel
theorem dX11_feed_4 : decode cX11_feed 4 = .ok (.getfield 80, 3) := by decide +kernel
theorem dX11_feed_7 : decode cX11_feed 7 = .ok (.astore 6, 2) := by decide +kernel
theorem dX11_feed_9 : decode cX11_feed 9 = .ok (.aload 6, 2) := by decide +kernel
theorem dX11_feed_11 : decode cX11_feed 11 = .ok (.getfield 84, 3) := by decide +kernel
theorem dX11_feed_14 : decode cX11_feed 14 = .ok (.sipush 880, 3) := by decide +kernel
theorem dX11_feed_17 : decode cX11_feed 17 = .ok (.if_icmp .le 5, 3) := by decide +kernel
theorem dX11_feed_22 : decode cX11_feed 22 = .ok (.aload 6, 2) := by decide +kernel
theorem dX11_feed_24 : decode cX11_feed 24 = .ok (.iload_n 1, 1) := by decide +kernel
theorem dX11_feed_25 : decode cX11_feed 25 = .ok (.invokevirtual 90, 3) := by decide +kernel
theorem dX11_feed_28 : decode cX11_feed 28 = .ok (.aload 6, 2) := by decide +kernel
theorem dX11_feed_30 : decode cX11_feed 30 = .ok (.iload_n 2, 1) := by decide +kernel
theorem dX11_feed_31 : decode cX11_feed 31 = .ok (.invokevirtual 90, 3) := by decide +kernel
theorem dX11_feed_34 : decode cX11_feed 34 = .ok (.aload 6, 2) := by decide +kernel
theorem dX11_feed_36 : decode cX11_feed 36 = .ok (.iload_n 3, 1) := by decide +kernel
theorem dX11_feed_37 : decode cX11_feed 37 = .ok (.invokevirtual 90, 3) := by decide +kernel
theorem dX11_feed_40 : decode cX11_feed 40 = .ok (.aload 6, 2) := by decide +kernel
theorem dX11_feed_42 : decode cX11_feed 42 = .ok (.iload 4, 2) := by decide +kernel
theorem dX11_feed_44 : decode cX11_feed 44 = .ok (.invokevirtual 90, 3) := by decide +kernel
theorem dX11_feed_47 : decode cX11_feed 47 = .ok (.aload 6, 2) := by decide +kernel
theorem dX11_feed_49 : decode cX11_feed 49 = .ok (.iload 5, 2) := by decide +kernel
theorem dX11_feed_51 : decode cX11_feed 51 = .ok (.invokevirtual 90, 3) := by decide +kernel
theorem dX11_feed_54 : decode cX11_feed 54 = .ok (.aload 6, 2) := by decide +kernel
theorem dX11_feed_56 : decode cX11_feed 56 = .ok (.getfield 84, 3) := by decide +kernel
theorem dX11_feed_59 : decode cX11_feed 59 = .ok (.ireturn, 1) := by decide +kernel
theorem dX11_image_0 : decode cX11_image 0 = .ok (.iload_n 1, 1) := by decide +kernel
theorem dX11_image_1 : decode cX11_image 1 = .ok (.ifCond .lt 8, 3) := by decide +kernel
theorem dX11_image_4 : decode cX11_image 4 = .ok (.iload_n 1, 1) := by decide +kernel
theorem dX11_image_5 : decode cX11_image 5 = .ok (.iconst 3, 1) := by decide +kernel
theorem dX11_image_6 : decode cX11_image 6 = .ok (.if_icmp .lt 6, 3) := by decide +kernel
theorem dX11_image_9 : decode cX11_image 9 = .ok (.bipush (-2), 2) := by decide +kernel
theorem dX11_image_11 : decode cX11_image 11 = .ok (.ireturn, 1) := by decide +kernel
theorem dX11_image_12 : decode cX11_image 12 = .ok (.aload_n 0, 1) := by decide +kernel
theorem dX11_image_13 : decode cX11_image 13 = .ok (.getfield 23, 3) := by decide +kernel
theorem dX11_image_16 : decode cX11_image 16 = .ok (.iload_n 1, 1) := by decide +kernel
theorem dX11_image_17 : decode cX11_image 17 = .ok (.aaload, 1) := by decide +kernel
theorem dX11_image_18 : decode cX11_image 18 = .ok (.astore_n 2, 1) := by decide +kernel
theorem dX11_image_19 : decode cX11_image 19 = .ok (.aload_n 2, 1) := by decide +kernel
theorem dX11_image_20 : decode cX11_image 20 = .ok (.ifnonnull 6, 3) := by decide +kernel
theorem dX11_image_26 : decode cX11_image 26 = .ok (.aload_n 2, 1) := by decide +kernel
theorem dX11_image_27 : decode cX11_image 27 = .ok (.aload_n 0, 1) := by decide +kernel
theorem dX11_image_28 : decode cX11_image 28 = .ok (.getfield 19, 3) := by decide +kernel
theorem dX11_image_31 : decode cX11_image 31 = .ok (.invokevirtual 101, 3) := by decide +kernel
theorem dX11_image_34 : decode cX11_image 34 = .ok (.aload_n 0, 1) := by decide +kernel
theorem dX11_image_35 : decode cX11_image 35 = .ok (.getfield 27, 3) := by decide +kernel
theorem dX11_image_38 : decode cX11_image 38 = .ok (.iload_n 1, 1) := by decide +kernel
theorem dX11_image_39 : decode cX11_image 39 = .ok (.iconst 1, 1) := by decide +kernel
theorem dX11_image_40 : decode cX11_image 40 = .ok (.bastore, 1) := by decide +kernel
theorem dX11_image_41 : decode cX11_image 41 = .ok (.iconst 0, 1) := by decide +kernel
theorem dX11_image_42 : decode cX11_image 42 = .ok (.ireturn, 1) := by decide +kernel
theorem dX11_paste_0 : decode cX11_paste 0 = .ok (.iload_n 1, 1) := by decide +kernel
theorem dX11_paste_1 : decode cX11_paste 1 = .ok (.invokestatic 398, 3) := by decide +kernel
theorem dX11_paste_4 : decode cX11_paste 4 = .ok (.ifCond .eq 10, 3) := by decide +kernel
theorem dX11_paste_7 : decode cX11_paste 7 = .ok (.iload_n 3, 1) := by decide +kernel
theorem dX11_paste_8 : decode cX11_paste 8 = .ok (.invokestatic 398, 3) := by decide +kernel
theorem dX11_paste_11 : decode cX11_paste 11 = .ok (.ifCond .ne 6, 3) := by decide +kernel
theorem dX11_paste_14 : decode cX11_paste 14 = .ok (.bipush (-2), 2) := by decide +kernel
theorem dX11_paste_16 : decode cX11_paste 16 = .ok (.ireturn, 1) := by decide +kernel
theorem dX11_paste_17 : decode cX11_paste 17 = .ok (.aload_n 0, 1) := by decide +kernel
theorem dX11_paste_18 : decode cX11_paste 18 = .ok (.iload_n 1, 1) := by decide +kernel
theorem dX11_paste_19 : decode cX11_paste 19 = .ok (.invokevirtual 404, 3) := by decide +kernel
theorem dX11_paste_22 : decode cX11_paste 22 = .ok (.astore 6, 2) := by decide +kernel
theorem dX11_paste_24 : decode cX11_paste 24 = .ok (.aload_n 0, 1) := by decide +kernel
theorem dX11_paste_25 : decode cX11_paste 25 = .ok (.iload_n 3, 1) := by decide +kernel
theorem dX11_paste_26 : decode cX11_paste 26 = .ok (.invokevirtual 404, 3) := by decide +kernel
theorem dX11_paste_29 : decode cX11_paste 29 = .ok (.astore 7, 2) := by decide +kernel
theorem dX11_paste_31 : decode cX11_paste 31 = .ok (.aload 6, 2) := by decide +kernel
theorem dX11_paste_33 : decode cX11_paste 33 = .ok (.ifnull 8, 3) := by decide +kernel
theorem dX11_paste_41 : decode cX11_paste 41 = .ok (.bipush (-6), 2) := by decide +kernel
theorem dX11_paste_43 : decode cX11_paste 43 = .ok (.ireturn, 1) := by decide +kernel
theorem dX11_row_0 : decode cX11_row 0 = .ok (.iload_n 1, 1) := by decide +kernel
theorem dX11_row_1 : decode cX11_row 1 = .ok (.invokestatic 398, 3) := by decide +kernel
theorem dX11_row_4 : decode cX11_row 4 = .ok (.ifCond .eq 18, 3) := by decide +kernel
theorem dX11_row_7 : decode cX11_row 7 = .ok (.iload_n 2, 1) := by decide +kernel
theorem dX11_row_8 : decode cX11_row 8 = .ok (.ifCond .lt 14, 3) := by decide +kernel
theorem dX11_row_11 : decode cX11_row 11 = .ok (.iload_n 2, 1) := by decide +kernel
theorem dX11_row_12 : decode cX11_row 12 = .ok (.iconst 4, 1) := by decide +kernel
theorem dX11_row_13 : decode cX11_row 13 = .ok (.if_icmp .ge 9, 3) := by decide +kernel
theorem dX11_row_16 : decode cX11_row 16 = .ok (.iload_n 3, 1) := by decide +kernel
theorem dX11_row_17 : decode cX11_row 17 = .ok (.bipush 60, 2) := by decide +kernel
theorem dX11_row_19 : decode cX11_row 19 = .ok (.if_icmp .le 6, 3) := by decide +kernel
theorem dX11_row_22 : decode cX11_row 22 = .ok (.bipush (-2), 2) := by decide +kernel
theorem dX11_row_24 : decode cX11_row 24 = .ok (.ireturn, 1) := by decide +kernel
theorem dX11_row_25 : decode cX11_row 25 = .ok (.iload_n 3, 1) := by decide +kernel
theorem dX11_row_26 : decode cX11_row 26 = .ok (.ifCond .ge 6, 3) := by decide +kernel
theorem dX11_row_29 : decode cX11_row 29 = .ok (.bipush (-3), 2) := by decide +kernel
theorem dX11_row_31 : decode cX11_row 31 = .ok (.ireturn, 1) := by decide +kernel
theorem dX11_row_32 : decode cX11_row 32 = .ok (.aload_n 0, 1) := by decide +kernel
theorem dX11_row_33 : decode cX11_row 33 = .ok (.getfield 33, 3) := by decide +kernel
theorem dX11_row_36 : decode cX11_row 36 = .ok (.iload_n 1, 1) := by decide +kernel
theorem dX11_row_37 : decode cX11_row 37 = .ok (.aaload, 1) := by decide +kernel
theorem dX11_row_38 : decode cX11_row 38 = .ok (.astore 4, 2) := by decide +kernel
theorem dX11_row_40 : decode cX11_row 40 = .ok (.aload 4, 2) := by decide +kernel
theorem dX11_row_42 : decode cX11_row 42 = .ok (.ifnonnull 6, 3) := by decide +kernel
theorem dX11_row_48 : decode cX11_row 48 = .ok (.aload 4, 2) := by decide +kernel
theorem dX11_row_50 : decode cX11_row 50 = .ok (.iload_n 2, 1) := by decide +kernel
theorem dX11_row_51 : decode cX11_row 51 = .ok (.iload_n 3, 1) := by decide +kernel
theorem dX11_row_52 : decode cX11_row 52 = .ok (.invokevirtual 401, 3) := by decide +kernel
theorem dX11_row_55 : decode cX11_row 55 = .ok (.iconst 0, 1) := by decide +kernel
theorem dX11_row_56 : decode cX11_row 56 = .ok (.ireturn, 1) := by decide +kernel
theorem dX11_rowOf_0 : decode cX11_rowOf 0 = .ok (.iload_n 1, 1) := by decide +kernel
theorem dX11_rowOf_1 : decode cX11_rowOf 1 = .ok (.invokestatic 398, 3) := by decide +kernel
theorem dX11_rowOf_4 : decode cX11_rowOf 4 = .ok (.ifCond .eq 12, 3) := by decide +kernel
theorem dX11_rowOf_7 : decode cX11_rowOf 7 = .ok (.aload_n 0, 1) := by decide +kernel
theorem dX11_rowOf_8 : decode cX11_rowOf 8 = .ok (.getfield 33, 3) := by decide +kernel
theorem dX11_rowOf_11 : decode cX11_rowOf 11 = .ok (.iload_n 1, 1) := by decide +kernel
theorem dX11_rowOf_12 : decode cX11_rowOf 12 = .ok (.aaload, 1) := by decide +kernel
theorem dX11_rowOf_13 : decode cX11_rowOf 13 = .ok (.goto 4, 3) := by decide +kernel
theorem dX11_rowOf_16 : decode cX11_rowOf 16 = .ok (.aconst_null, 1) := by decide +kernel
theorem dX11_rowOf_17 : decode cX11_rowOf 17 = .ok (.astore_n 2, 1) := by decide +kernel
theorem dX11_rowOf_18 : decode cX11_rowOf 18 = .ok (.aload_n 2, 1) := by decide +kernel
theorem dX11_rowOf_19 : decode cX11_rowOf 19 = .ok (.ifnull 14, 3) := by decide +kernel
theorem dX11_rowOf_22 : decode cX11_rowOf 22 = .ok (.aload_n 2, 1) := by decide +kernel
theorem dX11_rowOf_23 : decode cX11_rowOf 23 = .ok (.getfield 430, 3) := by decide +kernel
theorem dX11_rowOf_26 : decode cX11_rowOf 26 = .ok (.ifCond .eq 7, 3) := by decide +kernel
theorem dX11_rowOf_33 : decode cX11_rowOf 33 = .ok (.aconst_null, 1) := by decide +kernel
theorem dX11_rowOf_34 : decode cX11_rowOf 34 = .ok (.areturn, 1) := by decide +kernel
theorem dX11_write_0 : decode cX11_write 0 = .ok (.iload_n 1, 1) := by decide +kernel
theorem dX11_write_1 : decode cX11_write 1 = .ok (.invokestatic 398, 3) := by decide +kernel
theorem dX11_write_4 : decode cX11_write 4 = .ok (.ifCond .ne 6, 3) := by decide +kernel
theorem dX11_write_7 : decode cX11_write 7 = .ok (.bipush (-2), 2) := by decide +kernel
theorem dX11_write_9 : decode cX11_write 9 = .ok (.ireturn, 1) := by decide +kernel
theorem dX11_write_10 : decode cX11_write 10 = .ok (.aload_n 0, 1) := by decide +kernel
theorem dX11_write_11 : decode cX11_write 11 = .ok (.iload_n 1, 1) := by decide +kernel
theorem dX11_write_12 : decode cX11_write 12 = .ok (.invokevirtual 404, 3) := by decide +kernel
theorem dX11_write_15 : decode cX11_write 15 = .ok (.astore 5, 2) := by decide +kernel
theorem dX11_write_17 : decode cX11_write 17 = .ok (.aload 5, 2) := by decide +kernel
theorem dX11_write_19 : decode cX11_write 19 = .ok (.ifnonnull 6, 3) := by decide +kernel
theorem dX11_write_22 : decode cX11_write 22 = .ok (.bipush (-6), 2) := by decide +kernel
theorem dX11_write_24 : decode cX11_write 24 = .ok (.ireturn, 1) := by decide +kernel
theorem dX1_readDesk_0 : decode cX1_readDesk 0 = .ok (.aload_n 0, 1) := by decide +kernel
theorem dX1_readDesk_1 : decode cX1_readDesk 1 = .ok (.iconst 0, 1) := by decide +kernel
theorem dX1_readDesk_2 : decode cX1_readDesk 2 = .ok (.putfield 29, 3) := by decide +kernel
theorem dX1_readDesk_5 : decode cX1_readDesk 5 = .ok (.aload_n 0, 1) := by decide +kernel
theorem dX1_readDesk_6 : decode cX1_readDesk 6 = .ok (.iconst (-1), 1) := by decide +kernel
theorem dX1_readDesk_7 : decode cX1_readDesk 7 = .ok (.putfield 25, 3) := by decide +kernel
theorem dX1_readDesk_10 : decode cX1_readDesk 10 = .ok (.aload_n 0, 1) := by decide +kernel
theorem dX1_readDesk_11 : decode cX1_readDesk 11 = .ok (.getfield 21, 3) := by decide +kernel
theorem dX1_readDesk_14 : decode cX1_readDesk 14 = .ok (.invokevirtual 32, 3) := by decide +kernel
theorem dX1_readDesk_17 : decode cX1_readDesk 17 = .ok (.aload_n 0, 1) := by decide +kernel
theorem dX1_readDesk_18 : decode cX1_readDesk 18 = .ok (.getfield 12, 3) := by decide +kernel
theorem dX1_readDesk_21 : decode cX1_readDesk 21 = .ok (.invokevirtual 35, 3) := by decide +kernel
theorem dX1_readDesk_24 : decode cX1_readDesk 24 = .ok (.iconst 0, 1) := by decide +kernel
theorem dX1_readDesk_25 : decode cX1_readDesk 25 = .ok (.istore_n 1, 1) := by decide +kernel
theorem dX1_readDesk_26 : decode cX1_readDesk 26 = .ok (.iload_n 1, 1) := by decide +kernel
theorem dX1_readDesk_27 : decode cX1_readDesk 27 = .ok (.sipush 900, 3) := by decide +kernel
theorem dX1_readDesk_30 : decode cX1_readDesk 30 = .ok (.if_icmp .ge 48, 3) := by decide +kernel
theorem dX1_readDesk_33 : decode cX1_readDesk 33 = .ok (.aload_n 0, 1) := by decide +kernel
theorem dX1_readDesk_34 : decode cX1_readDesk 34 = .ok (.getfield 12, 3) := by decide +kernel
theorem dX1_readDesk_37 : decode cX1_readDesk 37 = .ok (.getfield 38, 3) := by decide +kernel
theorem dX1_readDesk_40 : decode cX1_readDesk 40 = .ok (.ifCond .eq 38, 3) := by decide +kernel
theorem dX1_readDesk_78 : decode cX1_readDesk 78 = .ok (.iconst 1, 1) := by decide +kernel
theorem dX1_readDesk_79 : decode cX1_readDesk 79 = .ok (.ireturn, 1) := by decide +kernel
theorem dX3_takeAll_0 : decode cX3_takeAll 0 = .ok (.aload_n 1, 1) := by decide +kernel
theorem dX3_takeAll_1 : decode cX3_takeAll 1 = .ok (.getfield 9, 3) := by decide +kernel
theorem dX3_takeAll_4 : decode cX3_takeAll 4 = .ok (.iconst 0, 1) := by decide +kernel
theorem dX3_takeAll_5 : decode cX3_takeAll 5 = .ok (.aload_n 0, 1) := by decide +kernel
theorem dX3_takeAll_6 : decode cX3_takeAll 6 = .ok (.getfield 9, 3) := by decide +kernel
theorem dX3_takeAll_9 : decode cX3_takeAll 9 = .ok (.iconst 0, 1) := by decide +kernel
theorem dX3_takeAll_10 : decode cX3_takeAll 10 = .ok (.bipush 60, 2) := by decide +kernel
theorem dX3_takeAll_12 : decode cX3_takeAll 12 = .ok (.invokestatic 25, 3) := by decide +kernel
theorem dX3_takeAll_15 : decode cX3_takeAll 15 = .ok (.aload_n 1, 1) := by decide +kernel
theorem dX3_takeAll_16 : decode cX3_takeAll 16 = .ok (.getfield 15, 3) := by decide +kernel
theorem dX3_takeAll_19 : decode cX3_takeAll 19 = .ok (.iconst 0, 1) := by decide +kernel
theorem dX3_takeAll_20 : decode cX3_takeAll 20 = .ok (.aload_n 0, 1) := by decide +kernel
theorem dX3_takeAll_21 : decode cX3_takeAll 21 = .ok (.getfield 15, 3) := by decide +kernel
theorem dX3_takeAll_24 : decode cX3_takeAll 24 = .ok (.iconst 0, 1) := by decide +kernel
theorem dX3_takeAll_25 : decode cX3_takeAll 25 = .ok (.bipush 60, 2) := by decide +kernel
theorem dX3_takeAll_27 : decode cX3_takeAll 27 = .ok (.invokestatic 25, 3) := by decide +kernel
theorem dX3_takeAll_30 : decode cX3_takeAll 30 = .ok (.aload_n 1, 1) := by decide +kernel
theorem dX3_takeAll_31 : decode cX3_takeAll 31 = .ok (.getfield 18, 3) := by decide +kernel
theorem dX3_takeAll_34 : decode cX3_takeAll 34 = .ok (.iconst 0, 1) := by decide +kernel
theorem dX3_takeAll_35 : decode cX3_takeAll 35 = .ok (.aload_n 0, 1) := by decide +kernel
theorem dX3_takeAll_36 : decode cX3_takeAll 36 = .ok (.getfield 18, 3) := by decide +kernel
theorem dX3_takeAll_39 : decode cX3_takeAll 39 = .ok (.iconst 0, 1) := by decide +kernel
theorem dX3_takeAll_40 : decode cX3_takeAll 40 = .ok (.bipush 60, 2) := by decide +kernel
theorem dX3_takeAll_42 : decode cX3_takeAll 42 = .ok (.invokestatic 25, 3) := by decide +kernel
theorem dX3_takeAll_45 : decode cX3_takeAll 45 = .ok (.aload_n 0, 1) := by decide +kernel
theorem dX3_takeAll_46 : decode cX3_takeAll 46 = .ok (.aload_n 1, 1) := by decide +kernel
theorem dX3_takeAll_47 : decode cX3_takeAll 47 = .ok (.getfield 21, 3) := by decide +kernel
theorem dX3_takeAll_50 : decode cX3_takeAll 50 = .ok (.putfield 21, 3) := by decide +kernel
theorem dX3_takeAll_53 : decode cX3_takeAll 53 = .ok (.return_, 1) := by decide +kernel
theorem dX8_begin_0 : decode cX8_begin 0 = .ok (.aload_n 0, 1) := by decide +kernel
theorem dX8_begin_1 : decode cX8_begin 1 = .ok (.iconst 1, 1) := by decide +kernel
theorem dX8_begin_2 : decode cX8_begin 2 = .ok (.putfield 15, 3) := by decide +kernel
theorem dX8_begin_5 : decode cX8_begin 5 = .ok (.aload_n 0, 1) := by decide +kernel
theorem dX8_begin_6 : decode cX8_begin 6 = .ok (.iload_n 1, 1) := by decide +kernel
theorem dX8_begin_7 : decode cX8_begin 7 = .ok (.putfield 19, 3) := by decide +kernel
theorem dX8_begin_10 : decode cX8_begin 10 = .ok (.aload_n 0, 1) := by decide +kernel
theorem dX8_begin_11 : decode cX8_begin 11 = .ok (.iload_n 2, 1) := by decide +kernel
theorem dX8_begin_12 : decode cX8_begin 12 = .ok (.putfield 23, 3) := by decide +kernel
theorem dX8_begin_15 : decode cX8_begin 15 = .ok (.aload_n 0, 1) := by decide +kernel
theorem dX8_begin_16 : decode cX8_begin 16 = .ok (.getfield 9, 3) := by decide +kernel
theorem dX8_begin_19 : decode cX8_begin 19 = .ok (.lconst 0, 1) := by decide +kernel
theorem dX8_begin_20 : decode cX8_begin 20 = .ok (.invokestatic 26, 3) := by decide +kernel
theorem dX8_begin_23 : decode cX8_begin 23 = .ok (.return_, 1) := by decide +kernel
theorem dX9_advance_0 : decode cX9_advance 0 = .ok (.aload_n 0, 1) := by decide +kernel
theorem dX9_advance_1 : decode cX9_advance 1 = .ok (.aload_n 0, 1) := by decide +kernel
theorem dX9_advance_2 : decode cX9_advance 2 = .ok (.getfield 19, 3) := by decide +kernel
theorem dX9_advance_5 : decode cX9_advance 5 = .ok (.putfield 25, 3) := by decide +kernel
theorem dX9_advance_8 : decode cX9_advance 8 = .ok (.aload_n 0, 1) := by decide +kernel
theorem dX9_advance_9 : decode cX9_advance 9 = .ok (.getfield 25, 3) := by decide +kernel
theorem dX9_advance_12 : decode cX9_advance 12 = .ok (.aload_n 0, 1) := by decide +kernel
theorem dX9_advance_13 : decode cX9_advance 13 = .ok (.getfield 15, 3) := by decide +kernel
theorem dX9_advance_16 : decode cX9_advance 16 = .ok (.if_icmp .ge 32, 3) := by decide +kernel
theorem dX9_advance_48 : decode cX9_advance 48 = .ok (.aload_n 0, 1) := by decide +kernel
theorem dX9_advance_49 : decode cX9_advance 49 = .ok (.aload_n 0, 1) := by decide +kernel
theorem dX9_advance_50 : decode cX9_advance 50 = .ok (.getfield 25, 3) := by decide +kernel
theorem dX9_advance_53 : decode cX9_advance 53 = .ok (.putfield 19, 3) := by decide +kernel
theorem dX9_advance_56 : decode cX9_advance 56 = .ok (.aload_n 0, 1) := by decide +kernel
theorem dX9_advance_57 : decode cX9_advance 57 = .ok (.aload_n 0, 1) := by decide +kernel
theorem dX9_advance_58 : decode cX9_advance 58 = .ok (.getfield 25, 3) := by decide +kernel
theorem dX9_advance_61 : decode cX9_advance 61 = .ok (.aload_n 0, 1) := by decide +kernel
theorem dX9_advance_62 : decode cX9_advance 62 = .ok (.getfield 15, 3) := by decide +kernel
theorem dX9_advance_65 : decode cX9_advance 65 = .ok (.if_icmp .ge 18, 3) := by decide +kernel
theorem dX9_advance_83 : decode cX9_advance 83 = .ok (.iconst 0, 1) := by decide +kernel
theorem dX9_advance_84 : decode cX9_advance 84 = .ok (.putfield 32, 3) := by decide +kernel
theorem dX9_advance_87 : decode cX9_advance 87 = .ok (.aload_n 0, 1) := by decide +kernel
theorem dX9_advance_88 : decode cX9_advance 88 = .ok (.iconst 0, 1) := by decide +kernel
theorem dX9_advance_89 : decode cX9_advance 89 = .ok (.putfield 35, 3) := by decide +kernel
theorem dX9_advance_92 : decode cX9_advance 92 = .ok (.aload_n 0, 1) := by decide +kernel
theorem dX9_advance_93 : decode cX9_advance 93 = .ok (.getfield 32, 3) := by decide +kernel
theorem dX9_advance_96 : decode cX9_advance 96 = .ok (.iconst 3, 1) := by decide +kernel
theorem dX9_advance_97 : decode cX9_advance 97 = .ok (.if_icmp .eq 11, 3) := by decide +kernel
theorem dX9_advance_100 : decode cX9_advance 100 = .ok (.aload_n 0, 1) := by decide +kernel
theorem dX9_advance_101 : decode cX9_advance 101 = .ok (.getfield 32, 3) := by decide +kernel
theorem dX9_advance_104 : decode cX9_advance 104 = .ok (.iconst 4, 1) := by decide +kernel
theorem dX9_advance_105 : decode cX9_advance 105 = .ok (.if_icmp .ne 14, 3) := by decide +kernel
theorem dX9_advance_119 : decode cX9_advance 119 = .ok (.aload_n 0, 1) := by decide +kernel
theorem dX9_advance_120 : decode cX9_advance 120 = .ok (.getfield 19, 3) := by decide +kernel
theorem dX9_advance_123 : decode cX9_advance 123 = .ok (.aload_n 0, 1) := by decide +kernel
theorem dX9_advance_124 : decode cX9_advance 124 = .ok (.getfield 15, 3) := by decide +kernel
theorem dX9_advance_127 : decode cX9_advance 127 = .ok (.if_icmp .ge 72, 3) := by decide +kernel
theorem dX9_advance_199 : decode cX9_advance 199 = .ok (.return_, 1) := by decide +kernel
theorem dX9_put_0 : decode cX9_put 0 = .ok (.bipush 24, 2) := by decide +kernel
theorem dX9_put_2 : decode cX9_put 2 = .ok (.istore_n 2, 1) := by decide +kernel
theorem dX9_put_3 : decode cX9_put 3 = .ok (.iload_n 2, 1) := by decide +kernel
theorem dX9_put_4 : decode cX9_put 4 = .ok (.ifCond .lt 42, 3) := by decide +kernel
theorem dX9_put_7 : decode cX9_put 7 = .ok (.aload_n 0, 1) := by decide +kernel
theorem dX9_put_8 : decode cX9_put 8 = .ok (.getfield 15, 3) := by decide +kernel
theorem dX9_put_11 : decode cX9_put 11 = .ok (.sipush 900, 3) := by decide +kernel
theorem dX9_put_14 : decode cX9_put 14 = .ok (.if_icmp .ge 32, 3) := by decide +kernel
theorem dX9_put_17 : decode cX9_put 17 = .ok (.aload_n 0, 1) := by decide +kernel
theorem dX9_put_18 : decode cX9_put 18 = .ok (.getfield 9, 3) := by decide +kernel
theorem dX9_put_21 : decode cX9_put 21 = .ok (.aload_n 0, 1) := by decide +kernel
theorem dX9_put_22 : decode cX9_put 22 = .ok (.getfield 15, 3) := by decide +kernel
theorem dX9_put_25 : decode cX9_put 25 = .ok (.iload_n 1, 1) := by decide +kernel
theorem dX9_put_26 : decode cX9_put 26 = .ok (.iload_n 2, 1) := by decide +kernel
theorem dX9_put_27 : decode cX9_put 27 = .ok (.ishr, 1) := by decide +kernel
theorem dX9_put_28 : decode cX9_put 28 = .ok (.i2b, 1) := by decide +kernel
theorem dX9_put_29 : decode cX9_put 29 = .ok (.bastore, 1) := by decide +kernel
theorem dX9_put_30 : decode cX9_put 30 = .ok (.aload_n 0, 1) := by decide +kernel
theorem dX9_put_31 : decode cX9_put 31 = .ok (.dup, 1) := by decide +kernel
theorem dX9_put_32 : decode cX9_put 32 = .ok (.getfield 15, 3) := by decide +kernel
theorem dX9_put_35 : decode cX9_put 35 = .ok (.iconst 1, 1) := by decide +kernel
theorem dX9_put_36 : decode cX9_put 36 = .ok (.iadd, 1) := by decide +kernel
theorem dX9_put_37 : decode cX9_put 37 = .ok (.putfield 15, 3) := by decide +kernel
theorem dX9_put_40 : decode cX9_put 40 = .ok (.iinc 2 (-8), 3) := by decide +kernel
theorem dX9_put_43 : decode cX9_put 43 = .ok (.goto (-40), 3) := by decide +kernel
theorem dX9_put_46 : decode cX9_put 46 = .ok (.return_, 1) := by decide +kernel
theorem dX9_rewind_0 : decode cX9_rewind 0 = .ok (.aload_n 0, 1) := by decide +kernel
theorem dX9_rewind_1 : decode cX9_rewind 1 = .ok (.iconst 0, 1) := by decide +kernel
theorem dX9_rewind_2 : decode cX9_rewind 2 = .ok (.putfield 19, 3) := by decide +kernel
theorem dX9_rewind_5 : decode cX9_rewind 5 = .ok (.aload_n 0, 1) := by decide +kernel
theorem dX9_rewind_6 : decode cX9_rewind 6 = .ok (.invokevirtual 22, 3) := by decide +kernel
theorem dX9_rewind_9 : decode cX9_rewind 9 = .ok (.return_, 1) := by decide +kernel
def sp_write (x : Int32) : Int32 := if 0 ≤ x.toInt ∧ x.toInt ≤ 3 then -6 else -2
def sp_paste (x y : Int32) : Int32 := if (0 ≤ x.toInt ∧ x.toInt ≤ 3) ∧ (0 ≤ y.toInt ∧ y.toInt ≤ 3) then -6 else -2
def sp_row (x w n : Int32) : Int32 := if (0 ≤ x.toInt ∧ x.toInt ≤ 3) ∧ (0 ≤ w.toInt ∧ w.toInt ≤ 3) ∧ n.toInt ≤ 60 then (if n.toInt < 0 then -3 else 0) else -2
def sp_image (x : Int32) : Int32 := if 0 ≤ x.toInt ∧ x.toInt ≤ 2 then 0 else -2
def sp_back (x : Int32) : Int32 := if 0 ≤ x.toInt ∧ x.toInt ≤ 2 then -6 else -2
def sp_count (x : Int32) : Int32 := if 0 ≤ x.toInt ∧ x.toInt ≤ 12 then 0 else -1
def sp_end (x : Int32) : Int32 := if x.toInt = 0 then 0 else -1
def sp_fault (x : Int32) : Int32 := if x.toInt = 0 then 0 else -1
end
section
set_option maxRecDepth 100000 in
set_option maxHeartbeats 4000000 in
theorem c_J7_fill_8 (l : Launch) (g : GG) (h0 : Nat) (ff : Nat → Int32) (p1 : Int32) : Ct l g yJ7_fill_53178 cJ7_fill_53178 4 none { frames := 0, cells := 0, slots := 0, locals := 0 } [.ref h0, .int p1] [(h0, .inl (g.2 0, 8, .inl ff))] (S := Nat → Int32) (fun _ => none) (fun _ => True) (fun u => [(h0, .inl (g.2 0, 8, .inl u))]) := by
  refine Ct.of (by decide) (Nat.le_of_ble_eq_true rfl) ?_
  intro p e s m below meth c A ls FX hP hD hS hl
  obtain ⟨FC, hr, hlk, hKn, hA, hnm⟩ := id FX
  have FC : CallFix p m c cJ7_fill_53178 4 s _ BIG RJ7 := FC
  obtain ⟨hx, hb, hml, hown, hB⟩ := id FC
  have hl : lv_has ls 4 [(0, .ref h0), (1, .int p1)] := hl
  refine lv_iconst (v := 0) hx hb dJ7_fill_53178_0 (by decide) ?_
  refine lv_istore_n (lv' := [(2, .int 0), (0, .ref h0), (1, .int p1)]) hx hb dJ7_fill_53178_1 rfl hl (by decide) rfl (fun ls hl => ?_)
  refine lv_aload_n hx hb dJ7_fill_53178_2 rfl (lv_at hl 1 rfl) ?_
  refine va_alen hx hb hKn.1 hP 0 0 rfl rfl (v := 8) rfl dJ7_fill_53178_3 ?_
  refine lv_istore_n (lv' := [(3, .int 8), (2, .int 0), (0, .ref h0), (1, .int p1)]) hx hb dJ7_fill_53178_4 rfl hl (by decide) rfl (fun ls hl => ?_)
  have lp : ∀ (n i : Nat) (k1 : Nat → Int32) (H : Heap) (locs : List Loc) (ls : Array Slot), i ≤ 8 → 8 < i + n → va_P g.1 vwCl [(h0, .inl (g.2 0, 8, .inl k1))] H → va_D A [(h0, .inl (g.2 0, 8, .inl k1))] → va_S A s.heap H locs → lv_has ls 4 [(3, .int 8), (2, .int (nI i)), (0, .ref h0), (1, .int p1)] → W p l e { frames := 0, cells := 0, slots := 0, locals := 0 } s m ([.ref h0, .int p1].toArray) below meth c H locs 0 0 (MQ below (QX (S := Nat → Int32) (fun _ => none) (fun _ => True) g (fun u => [(h0, .inl (g.2 0, 8, .inl u))]) A) ([.ref h0, .int p1].toArray) s 0 0 A) (F0 m 5 ls []) := by
    intro n
    induction n with
    | zero =>
      intro i k1 H locs ls hi hn
      exact absurd hn (by omega)
    | succ n ih =>
      intro i k1 H locs ls hi hn hP hD hS hl
      refine lv_iload_n hx hb dJ7_fill_53178_5 rfl (lv_at hl 1 rfl) ?_
      refine lv_iload_n hx hb dJ7_fill_53178_6 rfl (lv_at hl 0 rfl) ?_
      refine lv_icmp_ge (tgt := 20) hx hb dJ7_fill_53178_7 (by decide) (fun c2 => ?_) (fun c2 => ?_)
      · have c2 := k_le (a := 8) (b := ((i : Nat) : Int)) (by decide) (nI_toInt (by omega)) c2
        exact rt_v FX k1 rfl trivial (hP.sub [0] rfl) (hD.sub [0] (by decide) rfl) hS (Nat.le_of_ble_eq_true rfl) (Nat.le_of_ble_eq_true rfl) dJ7_fill_53178_20
      · have c2 := k_nle (a := 8) (b := ((i : Nat) : Int)) (by decide) (nI_toInt (by omega)) c2
        refine lv_aload_n hx hb dJ7_fill_53178_10 rfl (lv_at hl 2 rfl) ?_
        refine lv_iload_n hx hb dJ7_fill_53178_11 rfl (lv_at hl 1 rfl) ?_
        refine lv_iload_n hx hb dJ7_fill_53178_12 rfl (lv_at hl 3 rfl) ?_
        refine va_iast hx hb hKn.1 hP hD hS 0 0 rfl rfl (vp_in_nI (by omega) (by decide)) dJ7_fill_53178_13 (fun H locs hP hD hS => ?_)
        have hP : va_P g.1 vwCl [(h0, .inl (g.2 0, 8, .inl (upd k1 ((nI i).toNatClampNeg) p1)))] H := hP
        have hD : va_D A [(h0, .inl (g.2 0, 8, .inl (upd k1 ((nI i).toNatClampNeg) p1)))] := hD
        generalize (upd k1 ((nI i).toNatClampNeg) p1 : Nat → Int32) = f3 at hP hD
        refine lv_iinc (v := nI (i + 1)) (lv' := [(2, .int (nI (i + 1))), (3, .int 8), (0, .ref h0), (1, .int p1)]) hx hb dJ7_fill_53178_14 hl (k := 1) rfl (nI_1 _) (by decide) rfl (fun ls hl => ?_)
        refine lv_goto (tgt := 5) hx hb dJ7_fill_53178_17 (by decide) ?_
        exact ih (i + 1) _ H locs ls (by omega) (by omega) hP hD hS (lv_sub hl [1, 0, 2, 3] rfl)
  exact lp 9 0 _ _ _ ls (by omega) (by omega) hP hD hS hl
set_option maxRecDepth 100000 in
set_option maxHeartbeats 4000000 in
theorem c_J7_fill_4 (l : Launch) (g : GG) (h0 : Nat) (ff : Nat → Int32) (p1 : Int32) : Ct l g yJ7_fill_53178 cJ7_fill_53178 4 none { frames := 0, cells := 0, slots := 0, locals := 0 } [.ref h0, .int p1] [(h0, .inl (g.2 0, 4, .inl ff))] (S := Nat → Int32) (fun _ => none) (fun _ => True) (fun u => [(h0, .inl (g.2 0, 4, .inl u))]) := by
  refine Ct.of (by decide) (Nat.le_of_ble_eq_true rfl) ?_
  intro p e s m below meth c A ls FX hP hD hS hl
  obtain ⟨FC, hr, hlk, hKn, hA, hnm⟩ := id FX
  have FC : CallFix p m c cJ7_fill_53178 4 s _ BIG RJ7 := FC
  obtain ⟨hx, hb, hml, hown, hB⟩ := id FC
  have hl : lv_has ls 4 [(0, .ref h0), (1, .int p1)] := hl
  refine lv_iconst (v := 0) hx hb dJ7_fill_53178_0 (by decide) ?_
  refine lv_istore_n (lv' := [(2, .int 0), (0, .ref h0), (1, .int p1)]) hx hb dJ7_fill_53178_1 rfl hl (by decide) rfl (fun ls hl => ?_)
  refine lv_aload_n hx hb dJ7_fill_53178_2 rfl (lv_at hl 1 rfl) ?_
  refine va_alen hx hb hKn.1 hP 0 0 rfl rfl (v := 4) rfl dJ7_fill_53178_3 ?_
  refine lv_istore_n (lv' := [(3, .int 4), (2, .int 0), (0, .ref h0), (1, .int p1)]) hx hb dJ7_fill_53178_4 rfl hl (by decide) rfl (fun ls hl => ?_)
  have lp : ∀ (n i : Nat) (k1 : Nat → Int32) (H : Heap) (locs : List Loc) (ls : Array Slot), i ≤ 4 → 4 < i + n → va_P g.1 vwCl [(h0, .inl (g.2 0, 4, .inl k1))] H → va_D A [(h0, .inl (g.2 0, 4, .inl k1))] → va_S A s.heap H locs → lv_has ls 4 [(3, .int 4), (2, .int (nI i)), (0, .ref h0), (1, .int p1)] → W p l e { frames := 0, cells := 0, slots := 0, locals := 0 } s m ([.ref h0, .int p1].toArray) below meth c H locs 0 0 (MQ below (QX (S := Nat → Int32) (fun _ => none) (fun _ => True) g (fun u => [(h0, .inl (g.2 0, 4, .inl u))]) A) ([.ref h0, .int p1].toArray) s 0 0 A) (F0 m 5 ls []) := by
    intro n
    induction n with
    | zero =>
      intro i k1 H locs ls hi hn
      exact absurd hn (by omega)
    | succ n ih =>
      intro i k1 H locs ls hi hn hP hD hS hl
      refine lv_iload_n hx hb dJ7_fill_53178_5 rfl (lv_at hl 1 rfl) ?_
      refine lv_iload_n hx hb dJ7_fill_53178_6 rfl (lv_at hl 0 rfl) ?_
      refine lv_icmp_ge (tgt := 20) hx hb dJ7_fill_53178_7 (by decide) (fun c2 => ?_) (fun c2 => ?_)
      · have c2 := k_le (a := 4) (b := ((i : Nat) : Int)) (by decide) (nI_toInt (by omega)) c2
        exact rt_v FX k1 rfl trivial (hP.sub [0] rfl) (hD.sub [0] (by decide) rfl) hS (Nat.le_of_ble_eq_true rfl) (Nat.le_of_ble_eq_true rfl) dJ7_fill_53178_20
      · have c2 := k_nle (a := 4) (b := ((i : Nat) : Int)) (by decide) (nI_toInt (by omega)) c2
        refine lv_aload_n hx hb dJ7_fill_53178_10 rfl (lv_at hl 2 rfl) ?_
        refine lv_iload_n hx hb dJ7_fill_53178_11 rfl (lv_at hl 1 rfl) ?_
        refine lv_iload_n hx hb dJ7_fill_53178_12 rfl (lv_at hl 3 rfl) ?_
        refine va_iast hx hb hKn.1 hP hD hS 0 0 rfl rfl (vp_in_nI (by omega) (by decide)) dJ7_fill_53178_13 (fun H locs hP hD hS => ?_)
        have hP : va_P g.1 vwCl [(h0, .inl (g.2 0, 4, .inl (upd k1 ((nI i).toNatClampNeg) p1)))] H := hP
        have hD : va_D A [(h0, .inl (g.2 0, 4, .inl (upd k1 ((nI i).toNatClampNeg) p1)))] := hD
        generalize (upd k1 ((nI i).toNatClampNeg) p1 : Nat → Int32) = f3 at hP hD
        refine lv_iinc (v := nI (i + 1)) (lv' := [(2, .int (nI (i + 1))), (3, .int 4), (0, .ref h0), (1, .int p1)]) hx hb dJ7_fill_53178_14 hl (k := 1) rfl (nI_1 _) (by decide) rfl (fun ls hl => ?_)
        refine lv_goto (tgt := 5) hx hb dJ7_fill_53178_17 (by decide) ?_
        exact ih (i + 1) _ H locs ls (by omega) (by omega) hP hD hS (lv_sub hl [1, 0, 2, 3] rfl)
  exact lp 5 0 _ _ _ ls (by omega) (by omega) hP hD hS hl
set_option maxRecDepth 100000 in
set_option maxHeartbeats 4000000 in
theorem c_J7_fill_60 (l : Launch) (g : GG) (h0 : Nat) (ff : Nat → Int64) (p1 : Int64) : Ct l g yJ7_fill_d0a16 cJ7_fill_d0a16 5 none { frames := 0, cells := 0, slots := 0, locals := 0 } [.ref h0, .long p1] [(h0, .inl (g.2 3, 60, .inr (.inl ff)))] (S := Nat → Int64) (fun _ => none) (fun _ => True) (fun u => [(h0, .inl (g.2 3, 60, .inr (.inl u)))]) := by
  refine Ct.of (by decide) (Nat.le_of_ble_eq_true rfl) ?_
  intro p e s m below meth c A ls FX hP hD hS hl
  obtain ⟨FC, hr, hlk, hKn, hA, hnm⟩ := id FX
  have FC : CallFix p m c cJ7_fill_d0a16 5 s _ BIG RJ7 := FC
  obtain ⟨hx, hb, hml, hown, hB⟩ := id FC
  have hl : lv_has ls 5 [(0, .ref h0), (1, .long p1)] := hl
  refine lv_iconst (v := 0) hx hb dJ7_fill_d0a16_0 (by decide) ?_
  refine lv_istore_n (lv' := [(3, .int 0), (0, .ref h0), (1, .long p1)]) hx hb dJ7_fill_d0a16_1 rfl hl (by decide) rfl (fun ls hl => ?_)
  refine lv_aload_n hx hb dJ7_fill_d0a16_2 rfl (lv_at hl 1 rfl) ?_
  refine va_alen hx hb hKn.1 hP 0 3 rfl rfl (v := 60) rfl dJ7_fill_d0a16_3 ?_
  refine lv_istore (lv' := [(4, .int 60), (3, .int 0), (0, .ref h0), (1, .long p1)]) hx hb dJ7_fill_d0a16_4 hl (by decide) rfl (fun ls hl => ?_)
  have lp : ∀ (n i : Nat) (k1 : Nat → Int64) (H : Heap) (locs : List Loc) (ls : Array Slot), i ≤ 60 → 60 < i + n → va_P g.1 vwCl [(h0, .inl (g.2 3, 60, .inr (.inl k1)))] H → va_D A [(h0, .inl (g.2 3, 60, .inr (.inl k1)))] → va_S A s.heap H locs → lv_has ls 5 [(4, .int 60), (3, .int (nI i)), (0, .ref h0), (1, .long p1)] → W p l e { frames := 0, cells := 0, slots := 0, locals := 0 } s m ([.ref h0, .long p1].toArray) below meth c H locs 0 0 (MQ below (QX (S := Nat → Int64) (fun _ => none) (fun _ => True) g (fun u => [(h0, .inl (g.2 3, 60, .inr (.inl u)))]) A) ([.ref h0, .long p1].toArray) s 0 0 A) (F0 m 6 ls []) := by
    intro n
    induction n with
    | zero =>
      intro i k1 H locs ls hi hn
      exact absurd hn (by omega)
    | succ n ih =>
      intro i k1 H locs ls hi hn hP hD hS hl
      refine lv_iload_n hx hb dJ7_fill_d0a16_6 rfl (lv_at hl 1 rfl) ?_
      refine lv_iload hx hb dJ7_fill_d0a16_7 (lv_at hl 0 rfl) ?_
      refine lv_icmp_ge (tgt := 22) hx hb dJ7_fill_d0a16_9 (by decide) (fun c2 => ?_) (fun c2 => ?_)
      · have c2 := k_le (a := 60) (b := ((i : Nat) : Int)) (by decide) (nI_toInt (by omega)) c2
        exact rt_v FX k1 rfl trivial (hP.sub [0] rfl) (hD.sub [0] (by decide) rfl) hS (Nat.le_of_ble_eq_true rfl) (Nat.le_of_ble_eq_true rfl) dJ7_fill_d0a16_22
      · have c2 := k_nle (a := 60) (b := ((i : Nat) : Int)) (by decide) (nI_toInt (by omega)) c2
        refine lv_aload_n hx hb dJ7_fill_d0a16_12 rfl (lv_at hl 2 rfl) ?_
        refine lv_iload_n hx hb dJ7_fill_d0a16_13 rfl (lv_at hl 1 rfl) ?_
        refine lv_lload_n hx hb dJ7_fill_d0a16_14 rfl (lv_at hl 3 rfl) ?_
        refine va_last hx hb hKn.1 hP hD hS 0 3 rfl rfl (vp_in_nI (by omega) (by decide)) dJ7_fill_d0a16_15 (fun H locs hP hD hS => ?_)
        have hP : va_P g.1 vwCl [(h0, .inl (g.2 3, 60, .inr (.inl (vp_updL k1 ((nI i).toNatClampNeg) p1))))] H := hP
        have hD : va_D A [(h0, .inl (g.2 3, 60, .inr (.inl (vp_updL k1 ((nI i).toNatClampNeg) p1))))] := hD
        generalize (vp_updL k1 ((nI i).toNatClampNeg) p1 : Nat → Int64) = f3 at hP hD
        refine lv_iinc (v := nI (i + 1)) (lv' := [(3, .int (nI (i + 1))), (4, .int 60), (0, .ref h0), (1, .long p1)]) hx hb dJ7_fill_d0a16_16 hl (k := 1) rfl (nI_1 _) (by decide) rfl (fun ls hl => ?_)
        refine lv_goto (tgt := 6) hx hb dJ7_fill_d0a16_19 (by decide) ?_
        exact ih (i + 1) _ H locs ls (by omega) (by omega) hP hD hS (lv_sub hl [1, 0, 2, 3] rfl)
  exact lp 61 0 _ _ _ ls (by omega) (by omega) hP hD hS hl
set_option maxRecDepth 100000 in
set_option maxHeartbeats 4000000 in
theorem c_X3_takeAll (l : Launch) (g : GG) (h0 : Nat) (x0 : Nat) (x1 : Nat) (x2 : Nat) (k0 : Nat) (y0 : Nat) (y1 : Nat) (y2 : Nat) (fa0 : Nat → Int32) (fa1 : Nat → Int32) (fa2 : Nat → Int32) (fb0 : Nat → Int32) (fb1 : Nat → Int32) (fb2 : Nat → Int32) : Ct l g yX3_takeAll cX3_takeAll 2 none { frames := 1, cells := 0, slots := 0, locals := 18 } [.ref h0, .ref k0] [(h0, .inr (3, [.ref x0, .ref x1, .ref x2, .int 0])), (x0, .inl (g.2 0, 60, .inl fa0)), (x1, .inl (g.2 0, 60, .inl fa1)), (x2, .inl (g.2 0, 60, .inl fa2)), (k0, .inr (3, [.ref y0, .ref y1, .ref y2, .int 0])), (y0, .inl (g.2 0, 60, .inl fb0)), (y1, .inl (g.2 0, 60, .inl fb1)), (y2, .inl (g.2 0, 60, .inl fb2))] (S := Unit) (fun _ => none) (fun _ => True) (fun u => []) := by
  refine Ct.of (by decide) (Nat.le_of_ble_eq_true rfl) ?_
  intro p e s m below meth c A ls FX hP hD hS hl
  obtain ⟨FC, hr, hlk, hKn, hA, hnm⟩ := id FX
  have FC : CallFix p m c cX3_takeAll 2 s _ BIG RX3 := FC
  obtain ⟨hx, hb, hml, hown, hB⟩ := id FC
  have hl : lv_has ls 2 [(0, .ref h0), (1, .ref k0)] := hl
  refine lv_aload_n hx hb dX3_takeAll_0 rfl (lv_at hl 1 rfl) ?_
  refine g_get (C := RX3) (T := TX3) (N := 4) (ci := 3) (v := .ref y0) FC hKn hP i_X3 4 rfl rfl 0 (by decide) b_100 rfl dX3_takeAll_1 ?_
  refine lv_iconst (v := 0) hx hb dX3_takeAll_4 (by decide) ?_
  refine lv_aload_n hx hb dX3_takeAll_5 rfl (lv_at hl 0 rfl) ?_
  refine g_get (C := RX3) (T := TX3) (N := 4) (ci := 3) (v := .ref x0) FC hKn hP i_X3 0 rfl rfl 0 (by decide) b_100 rfl dX3_takeAll_6 ?_
  refine lv_iconst (v := 0) hx hb dX3_takeAll_9 (by decide) ?_
  refine lv_bipush (v := 60) hx hb dX3_takeAll_10 (by decide) ?_
  refine va_copyi hx hb (by rw [hml]; exact hl.1.symm) hown (hB _ b_101) (hB _ b_102) (hB _ b_103) (hB _ b_104) hKn.1 hP hD hS 5 1 0 0 rfl rfl rfl rfl rfl (by decide) (by decide) (by decide) (by decide) (by decide) (fun _ _ => rfl) (Nat.le_of_ble_eq_true rfl) (Nat.le_of_ble_eq_true rfl) dX3_takeAll_12 (fun H locs hP hD hS => ?_)
  have hP : va_P g.1 vwCl [(h0, .inr (3, [.ref x0, .ref x1, .ref x2, .int 0])), (x0, .inl (g.2 0, 60, .inl (va_cpy fb0 fa0 (0 : Int32).toNatClampNeg (0 : Int32).toNatClampNeg (60 : Int32).toNatClampNeg))), (x1, .inl (g.2 0, 60, .inl fa1)), (x2, .inl (g.2 0, 60, .inl fa2)), (k0, .inr (3, [.ref y0, .ref y1, .ref y2, .int 0])), (y0, .inl (g.2 0, 60, .inl fb0)), (y1, .inl (g.2 0, 60, .inl fb1)), (y2, .inl (g.2 0, 60, .inl fb2))] H := hP
  have hD : va_D A [(h0, .inr (3, [.ref x0, .ref x1, .ref x2, .int 0])), (x0, .inl (g.2 0, 60, .inl (va_cpy fb0 fa0 (0 : Int32).toNatClampNeg (0 : Int32).toNatClampNeg (60 : Int32).toNatClampNeg))), (x1, .inl (g.2 0, 60, .inl fa1)), (x2, .inl (g.2 0, 60, .inl fa2)), (k0, .inr (3, [.ref y0, .ref y1, .ref y2, .int 0])), (y0, .inl (g.2 0, 60, .inl fb0)), (y1, .inl (g.2 0, 60, .inl fb1)), (y2, .inl (g.2 0, 60, .inl fb2))] := hD
  generalize (va_cpy fb0 fa0 (0 : Int32).toNatClampNeg (0 : Int32).toNatClampNeg (60 : Int32).toNatClampNeg : Nat → Int32) = f1 at hP hD
  refine lv_aload_n hx hb dX3_takeAll_15 rfl (lv_at hl 1 rfl) ?_
  refine g_get (C := RX3) (T := TX3) (N := 4) (ci := 3) (v := .ref y1) FC hKn hP i_X3 4 rfl rfl 1 (by decide) b_105 rfl dX3_takeAll_16 ?_
  refine lv_iconst (v := 0) hx hb dX3_takeAll_19 (by decide) ?_
  refine lv_aload_n hx hb dX3_takeAll_20 rfl (lv_at hl 0 rfl) ?_
  refine g_get (C := RX3) (T := TX3) (N := 4) (ci := 3) (v := .ref x1) FC hKn hP i_X3 0 rfl rfl 1 (by decide) b_105 rfl dX3_takeAll_21 ?_
  refine lv_iconst (v := 0) hx hb dX3_takeAll_24 (by decide) ?_
  refine lv_bipush (v := 60) hx hb dX3_takeAll_25 (by decide) ?_
  refine va_copyi hx hb (by rw [hml]; exact hl.1.symm) hown (hB _ b_101) (hB _ b_102) (hB _ b_103) (hB _ b_104) hKn.1 hP hD hS 6 2 0 0 rfl rfl rfl rfl rfl (by decide) (by decide) (by decide) (by decide) (by decide) (fun _ _ => rfl) (Nat.le_of_ble_eq_true rfl) (Nat.le_of_ble_eq_true rfl) dX3_takeAll_27 (fun H locs hP hD hS => ?_)
  have hP : va_P g.1 vwCl [(h0, .inr (3, [.ref x0, .ref x1, .ref x2, .int 0])), (x0, .inl (g.2 0, 60, .inl f1)), (x1, .inl (g.2 0, 60, .inl (va_cpy fb1 fa1 (0 : Int32).toNatClampNeg (0 : Int32).toNatClampNeg (60 : Int32).toNatClampNeg))), (x2, .inl (g.2 0, 60, .inl fa2)), (k0, .inr (3, [.ref y0, .ref y1, .ref y2, .int 0])), (y0, .inl (g.2 0, 60, .inl fb0)), (y1, .inl (g.2 0, 60, .inl fb1)), (y2, .inl (g.2 0, 60, .inl fb2))] H := hP
  have hD : va_D A [(h0, .inr (3, [.ref x0, .ref x1, .ref x2, .int 0])), (x0, .inl (g.2 0, 60, .inl f1)), (x1, .inl (g.2 0, 60, .inl (va_cpy fb1 fa1 (0 : Int32).toNatClampNeg (0 : Int32).toNatClampNeg (60 : Int32).toNatClampNeg))), (x2, .inl (g.2 0, 60, .inl fa2)), (k0, .inr (3, [.ref y0, .ref y1, .ref y2, .int 0])), (y0, .inl (g.2 0, 60, .inl fb0)), (y1, .inl (g.2 0, 60, .inl fb1)), (y2, .inl (g.2 0, 60, .inl fb2))] := hD
  generalize (va_cpy fb1 fa1 (0 : Int32).toNatClampNeg (0 : Int32).toNatClampNeg (60 : Int32).toNatClampNeg : Nat → Int32) = f2 at hP hD
  refine lv_aload_n hx hb dX3_takeAll_30 rfl (lv_at hl 1 rfl) ?_
  refine g_get (C := RX3) (T := TX3) (N := 4) (ci := 3) (v := .ref y2) FC hKn hP i_X3 4 rfl rfl 2 (by decide) b_106 rfl dX3_takeAll_31 ?_
  refine lv_iconst (v := 0) hx hb dX3_takeAll_34 (by decide) ?_
  refine lv_aload_n hx hb dX3_takeAll_35 rfl (lv_at hl 0 rfl) ?_
  refine g_get (C := RX3) (T := TX3) (N := 4) (ci := 3) (v := .ref x2) FC hKn hP i_X3 0 rfl rfl 2 (by decide) b_106 rfl dX3_takeAll_36 ?_
  refine lv_iconst (v := 0) hx hb dX3_takeAll_39 (by decide) ?_
  refine lv_bipush (v := 60) hx hb dX3_takeAll_40 (by decide) ?_
  refine va_copyi hx hb (by rw [hml]; exact hl.1.symm) hown (hB _ b_101) (hB _ b_102) (hB _ b_103) (hB _ b_104) hKn.1 hP hD hS 7 3 0 0 rfl rfl rfl rfl rfl (by decide) (by decide) (by decide) (by decide) (by decide) (fun _ _ => rfl) (Nat.le_of_ble_eq_true rfl) (Nat.le_of_ble_eq_true rfl) dX3_takeAll_42 (fun H locs hP hD hS => ?_)
  have hP : va_P g.1 vwCl [(h0, .inr (3, [.ref x0, .ref x1, .ref x2, .int 0])), (x0, .inl (g.2 0, 60, .inl f1)), (x1, .inl (g.2 0, 60, .inl f2)), (x2, .inl (g.2 0, 60, .inl (va_cpy fb2 fa2 (0 : Int32).toNatClampNeg (0 : Int32).toNatClampNeg (60 : Int32).toNatClampNeg))), (k0, .inr (3, [.ref y0, .ref y1, .ref y2, .int 0])), (y0, .inl (g.2 0, 60, .inl fb0)), (y1, .inl (g.2 0, 60, .inl fb1)), (y2, .inl (g.2 0, 60, .inl fb2))] H := hP
  have hD : va_D A [(h0, .inr (3, [.ref x0, .ref x1, .ref x2, .int 0])), (x0, .inl (g.2 0, 60, .inl f1)), (x1, .inl (g.2 0, 60, .inl f2)), (x2, .inl (g.2 0, 60, .inl (va_cpy fb2 fa2 (0 : Int32).toNatClampNeg (0 : Int32).toNatClampNeg (60 : Int32).toNatClampNeg))), (k0, .inr (3, [.ref y0, .ref y1, .ref y2, .int 0])), (y0, .inl (g.2 0, 60, .inl fb0)), (y1, .inl (g.2 0, 60, .inl fb1)), (y2, .inl (g.2 0, 60, .inl fb2))] := hD
  generalize (va_cpy fb2 fa2 (0 : Int32).toNatClampNeg (0 : Int32).toNatClampNeg (60 : Int32).toNatClampNeg : Nat → Int32) = f3 at hP hD
  refine lv_aload_n hx hb dX3_takeAll_45 rfl (lv_at hl 0 rfl) ?_
  refine lv_aload_n hx hb dX3_takeAll_46 rfl (lv_at hl 1 rfl) ?_
  refine g_get (C := RX3) (T := TX3) (N := 4) (ci := 3) (v := .int 0) FC hKn hP i_X3 4 rfl rfl 3 (by decide) b_107 rfl dX3_takeAll_47 ?_
  refine g_put (C := RX3) (T := TX3) (N := 4) (ci := 3) (v := .int 0) FC hKn hP hD hS i_X3 tyX3 tyX3_ok nmX3 0 rfl rfl 3 (by decide) b_107 rfl rfl rfl (Nat.le_of_ble_eq_true rfl) dX3_takeAll_50 (fun H locs hP hD hS => ?_)
  have hP : va_P g.1 vwCl [(h0, .inr (3, [.ref x0, .ref x1, .ref x2, .int 0])), (x0, .inl (g.2 0, 60, .inl f1)), (x1, .inl (g.2 0, 60, .inl f2)), (x2, .inl (g.2 0, 60, .inl f3)), (k0, .inr (3, [.ref y0, .ref y1, .ref y2, .int 0])), (y0, .inl (g.2 0, 60, .inl fb0)), (y1, .inl (g.2 0, 60, .inl fb1)), (y2, .inl (g.2 0, 60, .inl fb2))] H := hP
  have hD : va_D A [(h0, .inr (3, [.ref x0, .ref x1, .ref x2, .int 0])), (x0, .inl (g.2 0, 60, .inl f1)), (x1, .inl (g.2 0, 60, .inl f2)), (x2, .inl (g.2 0, 60, .inl f3)), (k0, .inr (3, [.ref y0, .ref y1, .ref y2, .int 0])), (y0, .inl (g.2 0, 60, .inl fb0)), (y1, .inl (g.2 0, 60, .inl fb1)), (y2, .inl (g.2 0, 60, .inl fb2))] := hD
  exact rt_v FX () rfl trivial (hP.sub [] rfl) (hD.sub [] (by decide) rfl) hS (Nat.le_of_ble_eq_true rfl) (Nat.le_of_ble_eq_true rfl) dX3_takeAll_53
set_option maxRecDepth 100000 in
set_option maxHeartbeats 4000000 in
theorem c_X0_copyFrom (l : Launch) (g : GG) (h0 : Nat) (v0 : Nat) (v1 : Nat) (v2 : Nat) (v3 : Nat) (v4 : Nat) (v5 : Nat) (v6 : Nat) (v7 : Nat) (v8 : Nat) (v9 : Nat) (x0 : Nat) (x1 : Nat) (x2 : Nat) (fa0 : Nat → Int32) (fa1 : Nat → Int32) (fa2 : Nat → Int32) (fa3 : Nat → Int32) (fa4 : Nat → Int32) (fa5 : Nat → Int32) (fa6 : Nat → Int32) (fa7 : Nat → Int32) (fa8 : Nat → Int32) (fa9 : Nat → Int32) (fa10 : Nat → Int32) (fa11 : Nat → Int32) (k0 : Nat) (w0 : Nat) (w1 : Nat) (w2 : Nat) (w3 : Nat) (w4 : Nat) (w5 : Nat) (w6 : Nat) (w7 : Nat) (w8 : Nat) (w9 : Nat) (y0 : Nat) (y1 : Nat) (y2 : Nat) (fb0 : Nat → Int32) (fb1 : Nat → Int32) (fb2 : Nat → Int32) (fb3 : Nat → Int32) (fb4 : Nat → Int32) (fb5 : Nat → Int32) (fb6 : Nat → Int32) (fb7 : Nat → Int32) (fb8 : Nat → Int32) (fb9 : Nat → Int32) (fb10 : Nat → Int32) (fb11 : Nat → Int32) : Ct l g yX0_copyFrom cX0_copyFrom 2 none { frames := 2, cells := 0, slots := 0, locals := 39 } [.ref h0, .ref k0] [(h0, .inr (0, [.int 0, .int 0, .int 0, .int 0, .int 0, .int 0, .int 0, .int 0, .int 0, .int 0, .ref v0, .ref v1, .ref v2, .ref v3, .ref v4, .ref v5, .ref v6, .ref v7, .ref v8, .ref v9])), (v0, .inl (g.2 0, 8, .inl fa0)), (v1, .inl (g.2 0, 32, .inl fa1)), (v2, .inl (g.2 0, 4, .inl fa2)), (v3, .inl (g.2 0, 4, .inl fa3)), (v4, .inl (g.2 0, 8, .inl fa4)), (v5, .inl (g.2 0, 8, .inl fa5)), (v6, .inl (g.2 0, 4, .inl fa6)), (v7, .inl (g.2 0, 20, .inl fa7)), (v8, .inl (g.2 0, 6, .inl fa8)), (v9, .inr (3, [.ref x0, .ref x1, .ref x2, .int 0])), (x0, .inl (g.2 0, 60, .inl fa9)), (x1, .inl (g.2 0, 60, .inl fa10)), (x2, .inl (g.2 0, 60, .inl fa11)), (k0, .inr (0, [.int 0, .int 0, .int 0, .int 0, .int 0, .int 0, .int 0, .int 0, .int 0, .int 0, .ref w0, .ref w1, .ref w2, .ref w3, .ref w4, .ref w5, .ref w6, .ref w7, .ref w8, .ref w9])), (w0, .inl (g.2 0, 8, .inl fb0)), (w1, .inl (g.2 0, 32, .inl fb1)), (w2, .inl (g.2 0, 4, .inl fb2)), (w3, .inl (g.2 0, 4, .inl fb3)), (w4, .inl (g.2 0, 8, .inl fb4)), (w5, .inl (g.2 0, 8, .inl fb5)), (w6, .inl (g.2 0, 4, .inl fb6)), (w7, .inl (g.2 0, 20, .inl fb7)), (w8, .inl (g.2 0, 6, .inl fb8)), (w9, .inr (3, [.ref y0, .ref y1, .ref y2, .int 0])), (y0, .inl (g.2 0, 60, .inl fb9)), (y1, .inl (g.2 0, 60, .inl fb10)), (y2, .inl (g.2 0, 60, .inl fb11))] (S := Unit) (fun _ => none) (fun _ => True) (fun u => [(h0, .inr (0, [.int 0, .int 0, .int 0, .int 0, .int 0, .int 0, .int 0, .int 0, .int 0, .int 0, .ref v0, .ref v1, .ref v2, .ref v3, .ref v4, .ref v5, .ref v6, .ref v7, .ref v8, .ref v9]))]) := by
  refine Ct.of (by decide) (Nat.le_of_ble_eq_true rfl) ?_
  intro p e s m below meth c A ls FX hP hD hS hl
  obtain ⟨FC, hr, hlk, hKn, hA, hnm⟩ := id FX
  have FC : CallFix p m c cX0_copyFrom 2 s _ BIG RX0 := FC
  obtain ⟨hx, hb, hml, hown, hB⟩ := id FC
  have hl : lv_has ls 2 [(0, .ref h0), (1, .ref k0)] := hl
  refine lv_aload_n hx hb dX0_copyFrom_0 rfl (lv_at hl 0 rfl) ?_
  refine lv_aload_n hx hb dX0_copyFrom_1 rfl (lv_at hl 1 rfl) ?_
  refine g_get (C := RX0) (T := TX0) (N := 20) (ci := 0) (v := .int 0) FC hKn hP i_X0 14 rfl rfl 0 (by decide) b_0 rfl dX0_copyFrom_2 ?_
  refine g_put (C := RX0) (T := TX0) (N := 20) (ci := 0) (v := .int 0) FC hKn hP hD hS i_X0 tyX0 tyX0_ok nmX0 0 rfl rfl 0 (by decide) b_0 rfl rfl rfl (Nat.le_of_ble_eq_true rfl) dX0_copyFrom_5 (fun H locs hP hD hS => ?_)
  have hP : va_P g.1 vwCl [(h0, .inr (0, [.int 0, .int 0, .int 0, .int 0, .int 0, .int 0, .int 0, .int 0, .int 0, .int 0, .ref v0, .ref v1, .ref v2, .ref v3, .ref v4, .ref v5, .ref v6, .ref v7, .ref v8, .ref v9])), (v0, .inl (g.2 0, 8, .inl fa0)), (v1, .inl (g.2 0, 32, .inl fa1)), (v2, .inl (g.2 0, 4, .inl fa2)), (v3, .inl (g.2 0, 4, .inl fa3)), (v4, .inl (g.2 0, 8, .inl fa4)), (v5, .inl (g.2 0, 8, .inl fa5)), (v6, .inl (g.2 0, 4, .inl fa6)), (v7, .inl (g.2 0, 20, .inl fa7)), (v8, .inl (g.2 0, 6, .inl fa8)), (v9, .inr (3, [.ref x0, .ref x1, .ref x2, .int 0])), (x0, .inl (g.2 0, 60, .inl fa9)), (x1, .inl (g.2 0, 60, .inl fa10)), (x2, .inl (g.2 0, 60, .inl fa11)), (k0, .inr (0, [.int 0, .int 0, .int 0, .int 0, .int 0, .int 0, .int 0, .int 0, .int 0, .int 0, .ref w0, .ref w1, .ref w2, .ref w3, .ref w4, .ref w5, .ref w6, .ref w7, .ref w8, .ref w9])), (w0, .inl (g.2 0, 8, .inl fb0)), (w1, .inl (g.2 0, 32, .inl fb1)), (w2, .inl (g.2 0, 4, .inl fb2)), (w3, .inl (g.2 0, 4, .inl fb3)), (w4, .inl (g.2 0, 8, .inl fb4)), (w5, .inl (g.2 0, 8, .inl fb5)), (w6, .inl (g.2 0, 4, .inl fb6)), (w7, .inl (g.2 0, 20, .inl fb7)), (w8, .inl (g.2 0, 6, .inl fb8)), (w9, .inr (3, [.ref y0, .ref y1, .ref y2, .int 0])), (y0, .inl (g.2 0, 60, .inl fb9)), (y1, .inl (g.2 0, 60, .inl fb10)), (y2, .inl (g.2 0, 60, .inl fb11))] H := hP
  have hD : va_D A [(h0, .inr (0, [.int 0, .int 0, .int 0, .int 0, .int 0, .int 0, .int 0, .int 0, .int 0, .int 0, .ref v0, .ref v1, .ref v2, .ref v3, .ref v4, .ref v5, .ref v6, .ref v7, .ref v8, .ref v9])), (v0, .inl (g.2 0, 8, .inl fa0)), (v1, .inl (g.2 0, 32, .inl fa1)), (v2, .inl (g.2 0, 4, .inl fa2)), (v3, .inl (g.2 0, 4, .inl fa3)), (v4, .inl (g.2 0, 8, .inl fa4)), (v5, .inl (g.2 0, 8, .inl fa5)), (v6, .inl (g.2 0, 4, .inl fa6)), (v7, .inl (g.2 0, 20, .inl fa7)), (v8, .inl (g.2 0, 6, .inl fa8)), (v9, .inr (3, [.ref x0, .ref x1, .ref x2, .int 0])), (x0, .inl (g.2 0, 60, .inl fa9)), (x1, .inl (g.2 0, 60, .inl fa10)), (x2, .inl (g.2 0, 60, .inl fa11)), (k0, .inr (0, [.int 0, .int 0, .int 0, .int 0, .int 0, .int 0, .int 0, .int 0, .int 0, .int 0, .ref w0, .ref w1, .ref w2, .ref w3, .ref w4, .ref w5, .ref w6, .ref w7, .ref w8, .ref w9])), (w0, .inl (g.2 0, 8, .inl fb0)), (w1, .inl (g.2 0, 32, .inl fb1)), (w2, .inl (g.2 0, 4, .inl fb2)), (w3, .inl (g.2 0, 4, .inl fb3)), (w4, .inl (g.2 0, 8, .inl fb4)), (w5, .inl (g.2 0, 8, .inl fb5)), (w6, .inl (g.2 0, 4, .inl fb6)), (w7, .inl (g.2 0, 20, .inl fb7)), (w8, .inl (g.2 0, 6, .inl fb8)), (w9, .inr (3, [.ref y0, .ref y1, .ref y2, .int 0])), (y0, .inl (g.2 0, 60, .inl fb9)), (y1, .inl (g.2 0, 60, .inl fb10)), (y2, .inl (g.2 0, 60, .inl fb11))] := hD
  refine lv_aload_n hx hb dX0_copyFrom_8 rfl (lv_at hl 0 rfl) ?_
  refine lv_aload_n hx hb dX0_copyFrom_9 rfl (lv_at hl 1 rfl) ?_
  refine g_get (C := RX0) (T := TX0) (N := 20) (ci := 0) (v := .int 0) FC hKn hP i_X0 14 rfl rfl 1 (by decide) b_108 rfl dX0_copyFrom_10 ?_
  refine g_put (C := RX0) (T := TX0) (N := 20) (ci := 0) (v := .int 0) FC hKn hP hD hS i_X0 tyX0 tyX0_ok nmX0 0 rfl rfl 1 (by decide) b_108 rfl rfl rfl (Nat.le_of_ble_eq_true rfl) dX0_copyFrom_13 (fun H locs hP hD hS => ?_)
  have hP : va_P g.1 vwCl [(h0, .inr (0, [.int 0, .int 0, .int 0, .int 0, .int 0, .int 0, .int 0, .int 0, .int 0, .int 0, .ref v0, .ref v1, .ref v2, .ref v3, .ref v4, .ref v5, .ref v6, .ref v7, .ref v8, .ref v9])), (v0, .inl (g.2 0, 8, .inl fa0)), (v1, .inl (g.2 0, 32, .inl fa1)), (v2, .inl (g.2 0, 4, .inl fa2)), (v3, .inl (g.2 0, 4, .inl fa3)), (v4, .inl (g.2 0, 8, .inl fa4)), (v5, .inl (g.2 0, 8, .inl fa5)), (v6, .inl (g.2 0, 4, .inl fa6)), (v7, .inl (g.2 0, 20, .inl fa7)), (v8, .inl (g.2 0, 6, .inl fa8)), (v9, .inr (3, [.ref x0, .ref x1, .ref x2, .int 0])), (x0, .inl (g.2 0, 60, .inl fa9)), (x1, .inl (g.2 0, 60, .inl fa10)), (x2, .inl (g.2 0, 60, .inl fa11)), (k0, .inr (0, [.int 0, .int 0, .int 0, .int 0, .int 0, .int 0, .int 0, .int 0, .int 0, .int 0, .ref w0, .ref w1, .ref w2, .ref w3, .ref w4, .ref w5, .ref w6, .ref w7, .ref w8, .ref w9])), (w0, .inl (g.2 0, 8, .inl fb0)), (w1, .inl (g.2 0, 32, .inl fb1)), (w2, .inl (g.2 0, 4, .inl fb2)), (w3, .inl (g.2 0, 4, .inl fb3)), (w4, .inl (g.2 0, 8, .inl fb4)), (w5, .inl (g.2 0, 8, .inl fb5)), (w6, .inl (g.2 0, 4, .inl fb6)), (w7, .inl (g.2 0, 20, .inl fb7)), (w8, .inl (g.2 0, 6, .inl fb8)), (w9, .inr (3, [.ref y0, .ref y1, .ref y2, .int 0])), (y0, .inl (g.2 0, 60, .inl fb9)), (y1, .inl (g.2 0, 60, .inl fb10)), (y2, .inl (g.2 0, 60, .inl fb11))] H := hP
  have hD : va_D A [(h0, .inr (0, [.int 0, .int 0, .int 0, .int 0, .int 0, .int 0, .int 0, .int 0, .int 0, .int 0, .ref v0, .ref v1, .ref v2, .ref v3, .ref v4, .ref v5, .ref v6, .ref v7, .ref v8, .ref v9])), (v0, .inl (g.2 0, 8, .inl fa0)), (v1, .inl (g.2 0, 32, .inl fa1)), (v2, .inl (g.2 0, 4, .inl fa2)), (v3, .inl (g.2 0, 4, .inl fa3)), (v4, .inl (g.2 0, 8, .inl fa4)), (v5, .inl (g.2 0, 8, .inl fa5)), (v6, .inl (g.2 0, 4, .inl fa6)), (v7, .inl (g.2 0, 20, .inl fa7)), (v8, .inl (g.2 0, 6, .inl fa8)), (v9, .inr (3, [.ref x0, .ref x1, .ref x2, .int 0])), (x0, .inl (g.2 0, 60, .inl fa9)), (x1, .inl (g.2 0, 60, .inl fa10)), (x2, .inl (g.2 0, 60, .inl fa11)), (k0, .inr (0, [.int 0, .int 0, .int 0, .int 0, .int 0, .int 0, .int 0, .int 0, .int 0, .int 0, .ref w0, .ref w1, .ref w2, .ref w3, .ref w4, .ref w5, .ref w6, .ref w7, .ref w8, .ref w9])), (w0, .inl (g.2 0, 8, .inl fb0)), (w1, .inl (g.2 0, 32, .inl fb1)), (w2, .inl (g.2 0, 4, .inl fb2)), (w3, .inl (g.2 0, 4, .inl fb3)), (w4, .inl (g.2 0, 8, .inl fb4)), (w5, .inl (g.2 0, 8, .inl fb5)), (w6, .inl (g.2 0, 4, .inl fb6)), (w7, .inl (g.2 0, 20, .inl fb7)), (w8, .inl (g.2 0, 6, .inl fb8)), (w9, .inr (3, [.ref y0, .ref y1, .ref y2, .int 0])), (y0, .inl (g.2 0, 60, .inl fb9)), (y1, .inl (g.2 0, 60, .inl fb10)), (y2, .inl (g.2 0, 60, .inl fb11))] := hD
  refine lv_aload_n hx hb dX0_copyFrom_16 rfl (lv_at hl 0 rfl) ?_
  refine lv_aload_n hx hb dX0_copyFrom_17 rfl (lv_at hl 1 rfl) ?_
  refine g_get (C := RX0) (T := TX0) (N := 20) (ci := 0) (v := .int 0) FC hKn hP i_X0 14 rfl rfl 2 (by decide) b_2 rfl dX0_copyFrom_18 ?_
  refine g_put (C := RX0) (T := TX0) (N := 20) (ci := 0) (v := .int 0) FC hKn hP hD hS i_X0 tyX0 tyX0_ok nmX0 0 rfl rfl 2 (by decide) b_2 rfl rfl rfl (Nat.le_of_ble_eq_true rfl) dX0_copyFrom_21 (fun H locs hP hD hS => ?_)
  have hP : va_P g.1 vwCl [(h0, .inr (0, [.int 0, .int 0, .int 0, .int 0, .int 0, .int 0, .int 0, .int 0, .int 0, .int 0, .ref v0, .ref v1, .ref v2, .ref v3, .ref v4, .ref v5, .ref v6, .ref v7, .ref v8, .ref v9])), (v0, .inl (g.2 0, 8, .inl fa0)), (v1, .inl (g.2 0, 32, .inl fa1)), (v2, .inl (g.2 0, 4, .inl fa2)), (v3, .inl (g.2 0, 4, .inl fa3)), (v4, .inl (g.2 0, 8, .inl fa4)), (v5, .inl (g.2 0, 8, .inl fa5)), (v6, .inl (g.2 0, 4, .inl fa6)), (v7, .inl (g.2 0, 20, .inl fa7)), (v8, .inl (g.2 0, 6, .inl fa8)), (v9, .inr (3, [.ref x0, .ref x1, .ref x2, .int 0])), (x0, .inl (g.2 0, 60, .inl fa9)), (x1, .inl (g.2 0, 60, .inl fa10)), (x2, .inl (g.2 0, 60, .inl fa11)), (k0, .inr (0, [.int 0, .int 0, .int 0, .int 0, .int 0, .int 0, .int 0, .int 0, .int 0, .int 0, .ref w0, .ref w1, .ref w2, .ref w3, .ref w4, .ref w5, .ref w6, .ref w7, .ref w8, .ref w9])), (w0, .inl (g.2 0, 8, .inl fb0)), (w1, .inl (g.2 0, 32, .inl fb1)), (w2, .inl (g.2 0, 4, .inl fb2)), (w3, .inl (g.2 0, 4, .inl fb3)), (w4, .inl (g.2 0, 8, .inl fb4)), (w5, .inl (g.2 0, 8, .inl fb5)), (w6, .inl (g.2 0, 4, .inl fb6)), (w7, .inl (g.2 0, 20, .inl fb7)), (w8, .inl (g.2 0, 6, .inl fb8)), (w9, .inr (3, [.ref y0, .ref y1, .ref y2, .int 0])), (y0, .inl (g.2 0, 60, .inl fb9)), (y1, .inl (g.2 0, 60, .inl fb10)), (y2, .inl (g.2 0, 60, .inl fb11))] H := hP
  have hD : va_D A [(h0, .inr (0, [.int 0, .int 0, .int 0, .int 0, .int 0, .int 0, .int 0, .int 0, .int 0, .int 0, .ref v0, .ref v1, .ref v2, .ref v3, .ref v4, .ref v5, .ref v6, .ref v7, .ref v8, .ref v9])), (v0, .inl (g.2 0, 8, .inl fa0)), (v1, .inl (g.2 0, 32, .inl fa1)), (v2, .inl (g.2 0, 4, .inl fa2)), (v3, .inl (g.2 0, 4, .inl fa3)), (v4, .inl (g.2 0, 8, .inl fa4)), (v5, .inl (g.2 0, 8, .inl fa5)), (v6, .inl (g.2 0, 4, .inl fa6)), (v7, .inl (g.2 0, 20, .inl fa7)), (v8, .inl (g.2 0, 6, .inl fa8)), (v9, .inr (3, [.ref x0, .ref x1, .ref x2, .int 0])), (x0, .inl (g.2 0, 60, .inl fa9)), (x1, .inl (g.2 0, 60, .inl fa10)), (x2, .inl (g.2 0, 60, .inl fa11)), (k0, .inr (0, [.int 0, .int 0, .int 0, .int 0, .int 0, .int 0, .int 0, .int 0, .int 0, .int 0, .ref w0, .ref w1, .ref w2, .ref w3, .ref w4, .ref w5, .ref w6, .ref w7, .ref w8, .ref w9])), (w0, .inl (g.2 0, 8, .inl fb0)), (w1, .inl (g.2 0, 32, .inl fb1)), (w2, .inl (g.2 0, 4, .inl fb2)), (w3, .inl (g.2 0, 4, .inl fb3)), (w4, .inl (g.2 0, 8, .inl fb4)), (w5, .inl (g.2 0, 8, .inl fb5)), (w6, .inl (g.2 0, 4, .inl fb6)), (w7, .inl (g.2 0, 20, .inl fb7)), (w8, .inl (g.2 0, 6, .inl fb8)), (w9, .inr (3, [.ref y0, .ref y1, .ref y2, .int 0])), (y0, .inl (g.2 0, 60, .inl fb9)), (y1, .inl (g.2 0, 60, .inl fb10)), (y2, .inl (g.2 0, 60, .inl fb11))] := hD
  refine lv_aload_n hx hb dX0_copyFrom_24 rfl (lv_at hl 0 rfl) ?_
  refine lv_aload_n hx hb dX0_copyFrom_25 rfl (lv_at hl 1 rfl) ?_
  refine g_get (C := RX0) (T := TX0) (N := 20) (ci := 0) (v := .int 0) FC hKn hP i_X0 14 rfl rfl 3 (by decide) b_109 rfl dX0_copyFrom_26 ?_
  refine g_put (C := RX0) (T := TX0) (N := 20) (ci := 0) (v := .int 0) FC hKn hP hD hS i_X0 tyX0 tyX0_ok nmX0 0 rfl rfl 3 (by decide) b_109 rfl rfl rfl (Nat.le_of_ble_eq_true rfl) dX0_copyFrom_29 (fun H locs hP hD hS => ?_)
  have hP : va_P g.1 vwCl [(h0, .inr (0, [.int 0, .int 0, .int 0, .int 0, .int 0, .int 0, .int 0, .int 0, .int 0, .int 0, .ref v0, .ref v1, .ref v2, .ref v3, .ref v4, .ref v5, .ref v6, .ref v7, .ref v8, .ref v9])), (v0, .inl (g.2 0, 8, .inl fa0)), (v1, .inl (g.2 0, 32, .inl fa1)), (v2, .inl (g.2 0, 4, .inl fa2)), (v3, .inl (g.2 0, 4, .inl fa3)), (v4, .inl (g.2 0, 8, .inl fa4)), (v5, .inl (g.2 0, 8, .inl fa5)), (v6, .inl (g.2 0, 4, .inl fa6)), (v7, .inl (g.2 0, 20, .inl fa7)), (v8, .inl (g.2 0, 6, .inl fa8)), (v9, .inr (3, [.ref x0, .ref x1, .ref x2, .int 0])), (x0, .inl (g.2 0, 60, .inl fa9)), (x1, .inl (g.2 0, 60, .inl fa10)), (x2, .inl (g.2 0, 60, .inl fa11)), (k0, .inr (0, [.int 0, .int 0, .int 0, .int 0, .int 0, .int 0, .int 0, .int 0, .int 0, .int 0, .ref w0, .ref w1, .ref w2, .ref w3, .ref w4, .ref w5, .ref w6, .ref w7, .ref w8, .ref w9])), (w0, .inl (g.2 0, 8, .inl fb0)), (w1, .inl (g.2 0, 32, .inl fb1)), (w2, .inl (g.2 0, 4, .inl fb2)), (w3, .inl (g.2 0, 4, .inl fb3)), (w4, .inl (g.2 0, 8, .inl fb4)), (w5, .inl (g.2 0, 8, .inl fb5)), (w6, .inl (g.2 0, 4, .inl fb6)), (w7, .inl (g.2 0, 20, .inl fb7)), (w8, .inl (g.2 0, 6, .inl fb8)), (w9, .inr (3, [.ref y0, .ref y1, .ref y2, .int 0])), (y0, .inl (g.2 0, 60, .inl fb9)), (y1, .inl (g.2 0, 60, .inl fb10)), (y2, .inl (g.2 0, 60, .inl fb11))] H := hP
  have hD : va_D A [(h0, .inr (0, [.int 0, .int 0, .int 0, .int 0, .int 0, .int 0, .int 0, .int 0, .int 0, .int 0, .ref v0, .ref v1, .ref v2, .ref v3, .ref v4, .ref v5, .ref v6, .ref v7, .ref v8, .ref v9])), (v0, .inl (g.2 0, 8, .inl fa0)), (v1, .inl (g.2 0, 32, .inl fa1)), (v2, .inl (g.2 0, 4, .inl fa2)), (v3, .inl (g.2 0, 4, .inl fa3)), (v4, .inl (g.2 0, 8, .inl fa4)), (v5, .inl (g.2 0, 8, .inl fa5)), (v6, .inl (g.2 0, 4, .inl fa6)), (v7, .inl (g.2 0, 20, .inl fa7)), (v8, .inl (g.2 0, 6, .inl fa8)), (v9, .inr (3, [.ref x0, .ref x1, .ref x2, .int 0])), (x0, .inl (g.2 0, 60, .inl fa9)), (x1, .inl (g.2 0, 60, .inl fa10)), (x2, .inl (g.2 0, 60, .inl fa11)), (k0, .inr (0, [.int 0, .int 0, .int 0, .int 0, .int 0, .int 0, .int 0, .int 0, .int 0, .int 0, .ref w0, .ref w1, .ref w2, .ref w3, .ref w4, .ref w5, .ref w6, .ref w7, .ref w8, .ref w9])), (w0, .inl (g.2 0, 8, .inl fb0)), (w1, .inl (g.2 0, 32, .inl fb1)), (w2, .inl (g.2 0, 4, .inl fb2)), (w3, .inl (g.2 0, 4, .inl fb3)), (w4, .inl (g.2 0, 8, .inl fb4)), (w5, .inl (g.2 0, 8, .inl fb5)), (w6, .inl (g.2 0, 4, .inl fb6)), (w7, .inl (g.2 0, 20, .inl fb7)), (w8, .inl (g.2 0, 6, .inl fb8)), (w9, .inr (3, [.ref y0, .ref y1, .ref y2, .int 0])), (y0, .inl (g.2 0, 60, .inl fb9)), (y1, .inl (g.2 0, 60, .inl fb10)), (y2, .inl (g.2 0, 60, .inl fb11))] := hD
  refine lv_aload_n hx hb dX0_copyFrom_32 rfl (lv_at hl 0 rfl) ?_
  refine lv_aload_n hx hb dX0_copyFrom_33 rfl (lv_at hl 1 rfl) ?_
  refine g_get (C := RX0) (T := TX0) (N := 20) (ci := 0) (v := .int 0) FC hKn hP i_X0 14 rfl rfl 4 (by decide) b_110 rfl dX0_copyFrom_34 ?_
  refine g_put (C := RX0) (T := TX0) (N := 20) (ci := 0) (v := .int 0) FC hKn hP hD hS i_X0 tyX0 tyX0_ok nmX0 0 rfl rfl 4 (by decide) b_110 rfl rfl rfl (Nat.le_of_ble_eq_true rfl) dX0_copyFrom_37 (fun H locs hP hD hS => ?_)
  have hP : va_P g.1 vwCl [(h0, .inr (0, [.int 0, .int 0, .int 0, .int 0, .int 0, .int 0, .int 0, .int 0, .int 0, .int 0, .ref v0, .ref v1, .ref v2, .ref v3, .ref v4, .ref v5, .ref v6, .ref v7, .ref v8, .ref v9])), (v0, .inl (g.2 0, 8, .inl fa0)), (v1, .inl (g.2 0, 32, .inl fa1)), (v2, .inl (g.2 0, 4, .inl fa2)), (v3, .inl (g.2 0, 4, .inl fa3)), (v4, .inl (g.2 0, 8, .inl fa4)), (v5, .inl (g.2 0, 8, .inl fa5)), (v6, .inl (g.2 0, 4, .inl fa6)), (v7, .inl (g.2 0, 20, .inl fa7)), (v8, .inl (g.2 0, 6, .inl fa8)), (v9, .inr (3, [.ref x0, .ref x1, .ref x2, .int 0])), (x0, .inl (g.2 0, 60, .inl fa9)), (x1, .inl (g.2 0, 60, .inl fa10)), (x2, .inl (g.2 0, 60, .inl fa11)), (k0, .inr (0, [.int 0, .int 0, .int 0, .int 0, .int 0, .int 0, .int 0, .int 0, .int 0, .int 0, .ref w0, .ref w1, .ref w2, .ref w3, .ref w4, .ref w5, .ref w6, .ref w7, .ref w8, .ref w9])), (w0, .inl (g.2 0, 8, .inl fb0)), (w1, .inl (g.2 0, 32, .inl fb1)), (w2, .inl (g.2 0, 4, .inl fb2)), (w3, .inl (g.2 0, 4, .inl fb3)), (w4, .inl (g.2 0, 8, .inl fb4)), (w5, .inl (g.2 0, 8, .inl fb5)), (w6, .inl (g.2 0, 4, .inl fb6)), (w7, .inl (g.2 0, 20, .inl fb7)), (w8, .inl (g.2 0, 6, .inl fb8)), (w9, .inr (3, [.ref y0, .ref y1, .ref y2, .int 0])), (y0, .inl (g.2 0, 60, .inl fb9)), (y1, .inl (g.2 0, 60, .inl fb10)), (y2, .inl (g.2 0, 60, .inl fb11))] H := hP
  have hD : va_D A [(h0, .inr (0, [.int 0, .int 0, .int 0, .int 0, .int 0, .int 0, .int 0, .int 0, .int 0, .int 0, .ref v0, .ref v1, .ref v2, .ref v3, .ref v4, .ref v5, .ref v6, .ref v7, .ref v8, .ref v9])), (v0, .inl (g.2 0, 8, .inl fa0)), (v1, .inl (g.2 0, 32, .inl fa1)), (v2, .inl (g.2 0, 4, .inl fa2)), (v3, .inl (g.2 0, 4, .inl fa3)), (v4, .inl (g.2 0, 8, .inl fa4)), (v5, .inl (g.2 0, 8, .inl fa5)), (v6, .inl (g.2 0, 4, .inl fa6)), (v7, .inl (g.2 0, 20, .inl fa7)), (v8, .inl (g.2 0, 6, .inl fa8)), (v9, .inr (3, [.ref x0, .ref x1, .ref x2, .int 0])), (x0, .inl (g.2 0, 60, .inl fa9)), (x1, .inl (g.2 0, 60, .inl fa10)), (x2, .inl (g.2 0, 60, .inl fa11)), (k0, .inr (0, [.int 0, .int 0, .int 0, .int 0, .int 0, .int 0, .int 0, .int 0, .int 0, .int 0, .ref w0, .ref w1, .ref w2, .ref w3, .ref w4, .ref w5, .ref w6, .ref w7, .ref w8, .ref w9])), (w0, .inl (g.2 0, 8, .inl fb0)), (w1, .inl (g.2 0, 32, .inl fb1)), (w2, .inl (g.2 0, 4, .inl fb2)), (w3, .inl (g.2 0, 4, .inl fb3)), (w4, .inl (g.2 0, 8, .inl fb4)), (w5, .inl (g.2 0, 8, .inl fb5)), (w6, .inl (g.2 0, 4, .inl fb6)), (w7, .inl (g.2 0, 20, .inl fb7)), (w8, .inl (g.2 0, 6, .inl fb8)), (w9, .inr (3, [.ref y0, .ref y1, .ref y2, .int 0])), (y0, .inl (g.2 0, 60, .inl fb9)), (y1, .inl (g.2 0, 60, .inl fb10)), (y2, .inl (g.2 0, 60, .inl fb11))] := hD
  refine lv_aload_n hx hb dX0_copyFrom_40 rfl (lv_at hl 0 rfl) ?_
  refine lv_aload_n hx hb dX0_copyFrom_41 rfl (lv_at hl 1 rfl) ?_
  refine g_get (C := RX0) (T := TX0) (N := 20) (ci := 0) (v := .int 0) FC hKn hP i_X0 14 rfl rfl 5 (by decide) b_1 rfl dX0_copyFrom_42 ?_
  refine g_put (C := RX0) (T := TX0) (N := 20) (ci := 0) (v := .int 0) FC hKn hP hD hS i_X0 tyX0 tyX0_ok nmX0 0 rfl rfl 5 (by decide) b_1 rfl rfl rfl (Nat.le_of_ble_eq_true rfl) dX0_copyFrom_45 (fun H locs hP hD hS => ?_)
  have hP : va_P g.1 vwCl [(h0, .inr (0, [.int 0, .int 0, .int 0, .int 0, .int 0, .int 0, .int 0, .int 0, .int 0, .int 0, .ref v0, .ref v1, .ref v2, .ref v3, .ref v4, .ref v5, .ref v6, .ref v7, .ref v8, .ref v9])), (v0, .inl (g.2 0, 8, .inl fa0)), (v1, .inl (g.2 0, 32, .inl fa1)), (v2, .inl (g.2 0, 4, .inl fa2)), (v3, .inl (g.2 0, 4, .inl fa3)), (v4, .inl (g.2 0, 8, .inl fa4)), (v5, .inl (g.2 0, 8, .inl fa5)), (v6, .inl (g.2 0, 4, .inl fa6)), (v7, .inl (g.2 0, 20, .inl fa7)), (v8, .inl (g.2 0, 6, .inl fa8)), (v9, .inr (3, [.ref x0, .ref x1, .ref x2, .int 0])), (x0, .inl (g.2 0, 60, .inl fa9)), (x1, .inl (g.2 0, 60, .inl fa10)), (x2, .inl (g.2 0, 60, .inl fa11)), (k0, .inr (0, [.int 0, .int 0, .int 0, .int 0, .int 0, .int 0, .int 0, .int 0, .int 0, .int 0, .ref w0, .ref w1, .ref w2, .ref w3, .ref w4, .ref w5, .ref w6, .ref w7, .ref w8, .ref w9])), (w0, .inl (g.2 0, 8, .inl fb0)), (w1, .inl (g.2 0, 32, .inl fb1)), (w2, .inl (g.2 0, 4, .inl fb2)), (w3, .inl (g.2 0, 4, .inl fb3)), (w4, .inl (g.2 0, 8, .inl fb4)), (w5, .inl (g.2 0, 8, .inl fb5)), (w6, .inl (g.2 0, 4, .inl fb6)), (w7, .inl (g.2 0, 20, .inl fb7)), (w8, .inl (g.2 0, 6, .inl fb8)), (w9, .inr (3, [.ref y0, .ref y1, .ref y2, .int 0])), (y0, .inl (g.2 0, 60, .inl fb9)), (y1, .inl (g.2 0, 60, .inl fb10)), (y2, .inl (g.2 0, 60, .inl fb11))] H := hP
  have hD : va_D A [(h0, .inr (0, [.int 0, .int 0, .int 0, .int 0, .int 0, .int 0, .int 0, .int 0, .int 0, .int 0, .ref v0, .ref v1, .ref v2, .ref v3, .ref v4, .ref v5, .ref v6, .ref v7, .ref v8, .ref v9])), (v0, .inl (g.2 0, 8, .inl fa0)), (v1, .inl (g.2 0, 32, .inl fa1)), (v2, .inl (g.2 0, 4, .inl fa2)), (v3, .inl (g.2 0, 4, .inl fa3)), (v4, .inl (g.2 0, 8, .inl fa4)), (v5, .inl (g.2 0, 8, .inl fa5)), (v6, .inl (g.2 0, 4, .inl fa6)), (v7, .inl (g.2 0, 20, .inl fa7)), (v8, .inl (g.2 0, 6, .inl fa8)), (v9, .inr (3, [.ref x0, .ref x1, .ref x2, .int 0])), (x0, .inl (g.2 0, 60, .inl fa9)), (x1, .inl (g.2 0, 60, .inl fa10)), (x2, .inl (g.2 0, 60, .inl fa11)), (k0, .inr (0, [.int 0, .int 0, .int 0, .int 0, .int 0, .int 0, .int 0, .int 0, .int 0, .int 0, .ref w0, .ref w1, .ref w2, .ref w3, .ref w4, .ref w5, .ref w6, .ref w7, .ref w8, .ref w9])), (w0, .inl (g.2 0, 8, .inl fb0)), (w1, .inl (g.2 0, 32, .inl fb1)), (w2, .inl (g.2 0, 4, .inl fb2)), (w3, .inl (g.2 0, 4, .inl fb3)), (w4, .inl (g.2 0, 8, .inl fb4)), (w5, .inl (g.2 0, 8, .inl fb5)), (w6, .inl (g.2 0, 4, .inl fb6)), (w7, .inl (g.2 0, 20, .inl fb7)), (w8, .inl (g.2 0, 6, .inl fb8)), (w9, .inr (3, [.ref y0, .ref y1, .ref y2, .int 0])), (y0, .inl (g.2 0, 60, .inl fb9)), (y1, .inl (g.2 0, 60, .inl fb10)), (y2, .inl (g.2 0, 60, .inl fb11))] := hD
  refine lv_aload_n hx hb dX0_copyFrom_48 rfl (lv_at hl 0 rfl) ?_
  refine lv_aload_n hx hb dX0_copyFrom_49 rfl (lv_at hl 1 rfl) ?_
  refine g_get (C := RX0) (T := TX0) (N := 20) (ci := 0) (v := .int 0) FC hKn hP i_X0 14 rfl rfl 6 (by decide) b_3 rfl dX0_copyFrom_50 ?_
  refine g_put (C := RX0) (T := TX0) (N := 20) (ci := 0) (v := .int 0) FC hKn hP hD hS i_X0 tyX0 tyX0_ok nmX0 0 rfl rfl 6 (by decide) b_3 rfl rfl rfl (Nat.le_of_ble_eq_true rfl) dX0_copyFrom_53 (fun H locs hP hD hS => ?_)
  have hP : va_P g.1 vwCl [(h0, .inr (0, [.int 0, .int 0, .int 0, .int 0, .int 0, .int 0, .int 0, .int 0, .int 0, .int 0, .ref v0, .ref v1, .ref v2, .ref v3, .ref v4, .ref v5, .ref v6, .ref v7, .ref v8, .ref v9])), (v0, .inl (g.2 0, 8, .inl fa0)), (v1, .inl (g.2 0, 32, .inl fa1)), (v2, .inl (g.2 0, 4, .inl fa2)), (v3, .inl (g.2 0, 4, .inl fa3)), (v4, .inl (g.2 0, 8, .inl fa4)), (v5, .inl (g.2 0, 8, .inl fa5)), (v6, .inl (g.2 0, 4, .inl fa6)), (v7, .inl (g.2 0, 20, .inl fa7)), (v8, .inl (g.2 0, 6, .inl fa8)), (v9, .inr (3, [.ref x0, .ref x1, .ref x2, .int 0])), (x0, .inl (g.2 0, 60, .inl fa9)), (x1, .inl (g.2 0, 60, .inl fa10)), (x2, .inl (g.2 0, 60, .inl fa11)), (k0, .inr (0, [.int 0, .int 0, .int 0, .int 0, .int 0, .int 0, .int 0, .int 0, .int 0, .int 0, .ref w0, .ref w1, .ref w2, .ref w3, .ref w4, .ref w5, .ref w6, .ref w7, .ref w8, .ref w9])), (w0, .inl (g.2 0, 8, .inl fb0)), (w1, .inl (g.2 0, 32, .inl fb1)), (w2, .inl (g.2 0, 4, .inl fb2)), (w3, .inl (g.2 0, 4, .inl fb3)), (w4, .inl (g.2 0, 8, .inl fb4)), (w5, .inl (g.2 0, 8, .inl fb5)), (w6, .inl (g.2 0, 4, .inl fb6)), (w7, .inl (g.2 0, 20, .inl fb7)), (w8, .inl (g.2 0, 6, .inl fb8)), (w9, .inr (3, [.ref y0, .ref y1, .ref y2, .int 0])), (y0, .inl (g.2 0, 60, .inl fb9)), (y1, .inl (g.2 0, 60, .inl fb10)), (y2, .inl (g.2 0, 60, .inl fb11))] H := hP
  have hD : va_D A [(h0, .inr (0, [.int 0, .int 0, .int 0, .int 0, .int 0, .int 0, .int 0, .int 0, .int 0, .int 0, .ref v0, .ref v1, .ref v2, .ref v3, .ref v4, .ref v5, .ref v6, .ref v7, .ref v8, .ref v9])), (v0, .inl (g.2 0, 8, .inl fa0)), (v1, .inl (g.2 0, 32, .inl fa1)), (v2, .inl (g.2 0, 4, .inl fa2)), (v3, .inl (g.2 0, 4, .inl fa3)), (v4, .inl (g.2 0, 8, .inl fa4)), (v5, .inl (g.2 0, 8, .inl fa5)), (v6, .inl (g.2 0, 4, .inl fa6)), (v7, .inl (g.2 0, 20, .inl fa7)), (v8, .inl (g.2 0, 6, .inl fa8)), (v9, .inr (3, [.ref x0, .ref x1, .ref x2, .int 0])), (x0, .inl (g.2 0, 60, .inl fa9)), (x1, .inl (g.2 0, 60, .inl fa10)), (x2, .inl (g.2 0, 60, .inl fa11)), (k0, .inr (0, [.int 0, .int 0, .int 0, .int 0, .int 0, .int 0, .int 0, .int 0, .int 0, .int 0, .ref w0, .ref w1, .ref w2, .ref w3, .ref w4, .ref w5, .ref w6, .ref w7, .ref w8, .ref w9])), (w0, .inl (g.2 0, 8, .inl fb0)), (w1, .inl (g.2 0, 32, .inl fb1)), (w2, .inl (g.2 0, 4, .inl fb2)), (w3, .inl (g.2 0, 4, .inl fb3)), (w4, .inl (g.2 0, 8, .inl fb4)), (w5, .inl (g.2 0, 8, .inl fb5)), (w6, .inl (g.2 0, 4, .inl fb6)), (w7, .inl (g.2 0, 20, .inl fb7)), (w8, .inl (g.2 0, 6, .inl fb8)), (w9, .inr (3, [.ref y0, .ref y1, .ref y2, .int 0])), (y0, .inl (g.2 0, 60, .inl fb9)), (y1, .inl (g.2 0, 60, .inl fb10)), (y2, .inl (g.2 0, 60, .inl fb11))] := hD
  refine lv_aload_n hx hb dX0_copyFrom_56 rfl (lv_at hl 0 rfl) ?_
  refine lv_aload_n hx hb dX0_copyFrom_57 rfl (lv_at hl 1 rfl) ?_
  refine g_get (C := RX0) (T := TX0) (N := 20) (ci := 0) (v := .int 0) FC hKn hP i_X0 14 rfl rfl 7 (by decide) b_4 rfl dX0_copyFrom_58 ?_
  refine g_put (C := RX0) (T := TX0) (N := 20) (ci := 0) (v := .int 0) FC hKn hP hD hS i_X0 tyX0 tyX0_ok nmX0 0 rfl rfl 7 (by decide) b_4 rfl rfl rfl (Nat.le_of_ble_eq_true rfl) dX0_copyFrom_61 (fun H locs hP hD hS => ?_)
  have hP : va_P g.1 vwCl [(h0, .inr (0, [.int 0, .int 0, .int 0, .int 0, .int 0, .int 0, .int 0, .int 0, .int 0, .int 0, .ref v0, .ref v1, .ref v2, .ref v3, .ref v4, .ref v5, .ref v6, .ref v7, .ref v8, .ref v9])), (v0, .inl (g.2 0, 8, .inl fa0)), (v1, .inl (g.2 0, 32, .inl fa1)), (v2, .inl (g.2 0, 4, .inl fa2)), (v3, .inl (g.2 0, 4, .inl fa3)), (v4, .inl (g.2 0, 8, .inl fa4)), (v5, .inl (g.2 0, 8, .inl fa5)), (v6, .inl (g.2 0, 4, .inl fa6)), (v7, .inl (g.2 0, 20, .inl fa7)), (v8, .inl (g.2 0, 6, .inl fa8)), (v9, .inr (3, [.ref x0, .ref x1, .ref x2, .int 0])), (x0, .inl (g.2 0, 60, .inl fa9)), (x1, .inl (g.2 0, 60, .inl fa10)), (x2, .inl (g.2 0, 60, .inl fa11)), (k0, .inr (0, [.int 0, .int 0, .int 0, .int 0, .int 0, .int 0, .int 0, .int 0, .int 0, .int 0, .ref w0, .ref w1, .ref w2, .ref w3, .ref w4, .ref w5, .ref w6, .ref w7, .ref w8, .ref w9])), (w0, .inl (g.2 0, 8, .inl fb0)), (w1, .inl (g.2 0, 32, .inl fb1)), (w2, .inl (g.2 0, 4, .inl fb2)), (w3, .inl (g.2 0, 4, .inl fb3)), (w4, .inl (g.2 0, 8, .inl fb4)), (w5, .inl (g.2 0, 8, .inl fb5)), (w6, .inl (g.2 0, 4, .inl fb6)), (w7, .inl (g.2 0, 20, .inl fb7)), (w8, .inl (g.2 0, 6, .inl fb8)), (w9, .inr (3, [.ref y0, .ref y1, .ref y2, .int 0])), (y0, .inl (g.2 0, 60, .inl fb9)), (y1, .inl (g.2 0, 60, .inl fb10)), (y2, .inl (g.2 0, 60, .inl fb11))] H := hP
  have hD : va_D A [(h0, .inr (0, [.int 0, .int 0, .int 0, .int 0, .int 0, .int 0, .int 0, .int 0, .int 0, .int 0, .ref v0, .ref v1, .ref v2, .ref v3, .ref v4, .ref v5, .ref v6, .ref v7, .ref v8, .ref v9])), (v0, .inl (g.2 0, 8, .inl fa0)), (v1, .inl (g.2 0, 32, .inl fa1)), (v2, .inl (g.2 0, 4, .inl fa2)), (v3, .inl (g.2 0, 4, .inl fa3)), (v4, .inl (g.2 0, 8, .inl fa4)), (v5, .inl (g.2 0, 8, .inl fa5)), (v6, .inl (g.2 0, 4, .inl fa6)), (v7, .inl (g.2 0, 20, .inl fa7)), (v8, .inl (g.2 0, 6, .inl fa8)), (v9, .inr (3, [.ref x0, .ref x1, .ref x2, .int 0])), (x0, .inl (g.2 0, 60, .inl fa9)), (x1, .inl (g.2 0, 60, .inl fa10)), (x2, .inl (g.2 0, 60, .inl fa11)), (k0, .inr (0, [.int 0, .int 0, .int 0, .int 0, .int 0, .int 0, .int 0, .int 0, .int 0, .int 0, .ref w0, .ref w1, .ref w2, .ref w3, .ref w4, .ref w5, .ref w6, .ref w7, .ref w8, .ref w9])), (w0, .inl (g.2 0, 8, .inl fb0)), (w1, .inl (g.2 0, 32, .inl fb1)), (w2, .inl (g.2 0, 4, .inl fb2)), (w3, .inl (g.2 0, 4, .inl fb3)), (w4, .inl (g.2 0, 8, .inl fb4)), (w5, .inl (g.2 0, 8, .inl fb5)), (w6, .inl (g.2 0, 4, .inl fb6)), (w7, .inl (g.2 0, 20, .inl fb7)), (w8, .inl (g.2 0, 6, .inl fb8)), (w9, .inr (3, [.ref y0, .ref y1, .ref y2, .int 0])), (y0, .inl (g.2 0, 60, .inl fb9)), (y1, .inl (g.2 0, 60, .inl fb10)), (y2, .inl (g.2 0, 60, .inl fb11))] := hD
  refine lv_aload_n hx hb dX0_copyFrom_64 rfl (lv_at hl 0 rfl) ?_
  refine lv_aload_n hx hb dX0_copyFrom_65 rfl (lv_at hl 1 rfl) ?_
  refine g_get (C := RX0) (T := TX0) (N := 20) (ci := 0) (v := .int 0) FC hKn hP i_X0 14 rfl rfl 8 (by decide) b_5 rfl dX0_copyFrom_66 ?_
  refine g_put (C := RX0) (T := TX0) (N := 20) (ci := 0) (v := .int 0) FC hKn hP hD hS i_X0 tyX0 tyX0_ok nmX0 0 rfl rfl 8 (by decide) b_5 rfl rfl rfl (Nat.le_of_ble_eq_true rfl) dX0_copyFrom_69 (fun H locs hP hD hS => ?_)
  have hP : va_P g.1 vwCl [(h0, .inr (0, [.int 0, .int 0, .int 0, .int 0, .int 0, .int 0, .int 0, .int 0, .int 0, .int 0, .ref v0, .ref v1, .ref v2, .ref v3, .ref v4, .ref v5, .ref v6, .ref v7, .ref v8, .ref v9])), (v0, .inl (g.2 0, 8, .inl fa0)), (v1, .inl (g.2 0, 32, .inl fa1)), (v2, .inl (g.2 0, 4, .inl fa2)), (v3, .inl (g.2 0, 4, .inl fa3)), (v4, .inl (g.2 0, 8, .inl fa4)), (v5, .inl (g.2 0, 8, .inl fa5)), (v6, .inl (g.2 0, 4, .inl fa6)), (v7, .inl (g.2 0, 20, .inl fa7)), (v8, .inl (g.2 0, 6, .inl fa8)), (v9, .inr (3, [.ref x0, .ref x1, .ref x2, .int 0])), (x0, .inl (g.2 0, 60, .inl fa9)), (x1, .inl (g.2 0, 60, .inl fa10)), (x2, .inl (g.2 0, 60, .inl fa11)), (k0, .inr (0, [.int 0, .int 0, .int 0, .int 0, .int 0, .int 0, .int 0, .int 0, .int 0, .int 0, .ref w0, .ref w1, .ref w2, .ref w3, .ref w4, .ref w5, .ref w6, .ref w7, .ref w8, .ref w9])), (w0, .inl (g.2 0, 8, .inl fb0)), (w1, .inl (g.2 0, 32, .inl fb1)), (w2, .inl (g.2 0, 4, .inl fb2)), (w3, .inl (g.2 0, 4, .inl fb3)), (w4, .inl (g.2 0, 8, .inl fb4)), (w5, .inl (g.2 0, 8, .inl fb5)), (w6, .inl (g.2 0, 4, .inl fb6)), (w7, .inl (g.2 0, 20, .inl fb7)), (w8, .inl (g.2 0, 6, .inl fb8)), (w9, .inr (3, [.ref y0, .ref y1, .ref y2, .int 0])), (y0, .inl (g.2 0, 60, .inl fb9)), (y1, .inl (g.2 0, 60, .inl fb10)), (y2, .inl (g.2 0, 60, .inl fb11))] H := hP
  have hD : va_D A [(h0, .inr (0, [.int 0, .int 0, .int 0, .int 0, .int 0, .int 0, .int 0, .int 0, .int 0, .int 0, .ref v0, .ref v1, .ref v2, .ref v3, .ref v4, .ref v5, .ref v6, .ref v7, .ref v8, .ref v9])), (v0, .inl (g.2 0, 8, .inl fa0)), (v1, .inl (g.2 0, 32, .inl fa1)), (v2, .inl (g.2 0, 4, .inl fa2)), (v3, .inl (g.2 0, 4, .inl fa3)), (v4, .inl (g.2 0, 8, .inl fa4)), (v5, .inl (g.2 0, 8, .inl fa5)), (v6, .inl (g.2 0, 4, .inl fa6)), (v7, .inl (g.2 0, 20, .inl fa7)), (v8, .inl (g.2 0, 6, .inl fa8)), (v9, .inr (3, [.ref x0, .ref x1, .ref x2, .int 0])), (x0, .inl (g.2 0, 60, .inl fa9)), (x1, .inl (g.2 0, 60, .inl fa10)), (x2, .inl (g.2 0, 60, .inl fa11)), (k0, .inr (0, [.int 0, .int 0, .int 0, .int 0, .int 0, .int 0, .int 0, .int 0, .int 0, .int 0, .ref w0, .ref w1, .ref w2, .ref w3, .ref w4, .ref w5, .ref w6, .ref w7, .ref w8, .ref w9])), (w0, .inl (g.2 0, 8, .inl fb0)), (w1, .inl (g.2 0, 32, .inl fb1)), (w2, .inl (g.2 0, 4, .inl fb2)), (w3, .inl (g.2 0, 4, .inl fb3)), (w4, .inl (g.2 0, 8, .inl fb4)), (w5, .inl (g.2 0, 8, .inl fb5)), (w6, .inl (g.2 0, 4, .inl fb6)), (w7, .inl (g.2 0, 20, .inl fb7)), (w8, .inl (g.2 0, 6, .inl fb8)), (w9, .inr (3, [.ref y0, .ref y1, .ref y2, .int 0])), (y0, .inl (g.2 0, 60, .inl fb9)), (y1, .inl (g.2 0, 60, .inl fb10)), (y2, .inl (g.2 0, 60, .inl fb11))] := hD
  refine lv_aload_n hx hb dX0_copyFrom_72 rfl (lv_at hl 0 rfl) ?_
  refine lv_aload_n hx hb dX0_copyFrom_73 rfl (lv_at hl 1 rfl) ?_
  refine g_get (C := RX0) (T := TX0) (N := 20) (ci := 0) (v := .int 0) FC hKn hP i_X0 14 rfl rfl 9 (by decide) b_6 rfl dX0_copyFrom_74 ?_
  refine g_put (C := RX0) (T := TX0) (N := 20) (ci := 0) (v := .int 0) FC hKn hP hD hS i_X0 tyX0 tyX0_ok nmX0 0 rfl rfl 9 (by decide) b_6 rfl rfl rfl (Nat.le_of_ble_eq_true rfl) dX0_copyFrom_77 (fun H locs hP hD hS => ?_)
  have hP : va_P g.1 vwCl [(h0, .inr (0, [.int 0, .int 0, .int 0, .int 0, .int 0, .int 0, .int 0, .int 0, .int 0, .int 0, .ref v0, .ref v1, .ref v2, .ref v3, .ref v4, .ref v5, .ref v6, .ref v7, .ref v8, .ref v9])), (v0, .inl (g.2 0, 8, .inl fa0)), (v1, .inl (g.2 0, 32, .inl fa1)), (v2, .inl (g.2 0, 4, .inl fa2)), (v3, .inl (g.2 0, 4, .inl fa3)), (v4, .inl (g.2 0, 8, .inl fa4)), (v5, .inl (g.2 0, 8, .inl fa5)), (v6, .inl (g.2 0, 4, .inl fa6)), (v7, .inl (g.2 0, 20, .inl fa7)), (v8, .inl (g.2 0, 6, .inl fa8)), (v9, .inr (3, [.ref x0, .ref x1, .ref x2, .int 0])), (x0, .inl (g.2 0, 60, .inl fa9)), (x1, .inl (g.2 0, 60, .inl fa10)), (x2, .inl (g.2 0, 60, .inl fa11)), (k0, .inr (0, [.int 0, .int 0, .int 0, .int 0, .int 0, .int 0, .int 0, .int 0, .int 0, .int 0, .ref w0, .ref w1, .ref w2, .ref w3, .ref w4, .ref w5, .ref w6, .ref w7, .ref w8, .ref w9])), (w0, .inl (g.2 0, 8, .inl fb0)), (w1, .inl (g.2 0, 32, .inl fb1)), (w2, .inl (g.2 0, 4, .inl fb2)), (w3, .inl (g.2 0, 4, .inl fb3)), (w4, .inl (g.2 0, 8, .inl fb4)), (w5, .inl (g.2 0, 8, .inl fb5)), (w6, .inl (g.2 0, 4, .inl fb6)), (w7, .inl (g.2 0, 20, .inl fb7)), (w8, .inl (g.2 0, 6, .inl fb8)), (w9, .inr (3, [.ref y0, .ref y1, .ref y2, .int 0])), (y0, .inl (g.2 0, 60, .inl fb9)), (y1, .inl (g.2 0, 60, .inl fb10)), (y2, .inl (g.2 0, 60, .inl fb11))] H := hP
  have hD : va_D A [(h0, .inr (0, [.int 0, .int 0, .int 0, .int 0, .int 0, .int 0, .int 0, .int 0, .int 0, .int 0, .ref v0, .ref v1, .ref v2, .ref v3, .ref v4, .ref v5, .ref v6, .ref v7, .ref v8, .ref v9])), (v0, .inl (g.2 0, 8, .inl fa0)), (v1, .inl (g.2 0, 32, .inl fa1)), (v2, .inl (g.2 0, 4, .inl fa2)), (v3, .inl (g.2 0, 4, .inl fa3)), (v4, .inl (g.2 0, 8, .inl fa4)), (v5, .inl (g.2 0, 8, .inl fa5)), (v6, .inl (g.2 0, 4, .inl fa6)), (v7, .inl (g.2 0, 20, .inl fa7)), (v8, .inl (g.2 0, 6, .inl fa8)), (v9, .inr (3, [.ref x0, .ref x1, .ref x2, .int 0])), (x0, .inl (g.2 0, 60, .inl fa9)), (x1, .inl (g.2 0, 60, .inl fa10)), (x2, .inl (g.2 0, 60, .inl fa11)), (k0, .inr (0, [.int 0, .int 0, .int 0, .int 0, .int 0, .int 0, .int 0, .int 0, .int 0, .int 0, .ref w0, .ref w1, .ref w2, .ref w3, .ref w4, .ref w5, .ref w6, .ref w7, .ref w8, .ref w9])), (w0, .inl (g.2 0, 8, .inl fb0)), (w1, .inl (g.2 0, 32, .inl fb1)), (w2, .inl (g.2 0, 4, .inl fb2)), (w3, .inl (g.2 0, 4, .inl fb3)), (w4, .inl (g.2 0, 8, .inl fb4)), (w5, .inl (g.2 0, 8, .inl fb5)), (w6, .inl (g.2 0, 4, .inl fb6)), (w7, .inl (g.2 0, 20, .inl fb7)), (w8, .inl (g.2 0, 6, .inl fb8)), (w9, .inr (3, [.ref y0, .ref y1, .ref y2, .int 0])), (y0, .inl (g.2 0, 60, .inl fb9)), (y1, .inl (g.2 0, 60, .inl fb10)), (y2, .inl (g.2 0, 60, .inl fb11))] := hD
  refine lv_aload_n hx hb dX0_copyFrom_80 rfl (lv_at hl 1 rfl) ?_
  refine g_get (C := RX0) (T := TX0) (N := 20) (ci := 0) (v := .ref w0) FC hKn hP i_X0 14 rfl rfl 10 (by decide) b_111 rfl dX0_copyFrom_81 ?_
  refine lv_iconst (v := 0) hx hb dX0_copyFrom_84 (by decide) ?_
  refine lv_aload_n hx hb dX0_copyFrom_85 rfl (lv_at hl 0 rfl) ?_
  refine g_get (C := RX0) (T := TX0) (N := 20) (ci := 0) (v := .ref v0) FC hKn hP i_X0 0 rfl rfl 10 (by decide) b_111 rfl dX0_copyFrom_86 ?_
  refine lv_iconst (v := 0) hx hb dX0_copyFrom_89 (by decide) ?_
  refine lv_bipush (v := 8) hx hb dX0_copyFrom_90 (by decide) ?_
  refine va_copyi hx hb (by rw [hml]; exact hl.1.symm) hown (hB _ b_112) (hB _ b_102) (hB _ b_103) (hB _ b_104) hKn.1 hP hD hS 15 1 0 0 rfl rfl rfl rfl rfl (by decide) (by decide) (by decide) (by decide) (by decide) (fun _ _ => rfl) (Nat.le_of_ble_eq_true rfl) (Nat.le_of_ble_eq_true rfl) dX0_copyFrom_92 (fun H locs hP hD hS => ?_)
  have hP : va_P g.1 vwCl [(h0, .inr (0, [.int 0, .int 0, .int 0, .int 0, .int 0, .int 0, .int 0, .int 0, .int 0, .int 0, .ref v0, .ref v1, .ref v2, .ref v3, .ref v4, .ref v5, .ref v6, .ref v7, .ref v8, .ref v9])), (v0, .inl (g.2 0, 8, .inl (va_cpy fb0 fa0 (0 : Int32).toNatClampNeg (0 : Int32).toNatClampNeg (8 : Int32).toNatClampNeg))), (v1, .inl (g.2 0, 32, .inl fa1)), (v2, .inl (g.2 0, 4, .inl fa2)), (v3, .inl (g.2 0, 4, .inl fa3)), (v4, .inl (g.2 0, 8, .inl fa4)), (v5, .inl (g.2 0, 8, .inl fa5)), (v6, .inl (g.2 0, 4, .inl fa6)), (v7, .inl (g.2 0, 20, .inl fa7)), (v8, .inl (g.2 0, 6, .inl fa8)), (v9, .inr (3, [.ref x0, .ref x1, .ref x2, .int 0])), (x0, .inl (g.2 0, 60, .inl fa9)), (x1, .inl (g.2 0, 60, .inl fa10)), (x2, .inl (g.2 0, 60, .inl fa11)), (k0, .inr (0, [.int 0, .int 0, .int 0, .int 0, .int 0, .int 0, .int 0, .int 0, .int 0, .int 0, .ref w0, .ref w1, .ref w2, .ref w3, .ref w4, .ref w5, .ref w6, .ref w7, .ref w8, .ref w9])), (w0, .inl (g.2 0, 8, .inl fb0)), (w1, .inl (g.2 0, 32, .inl fb1)), (w2, .inl (g.2 0, 4, .inl fb2)), (w3, .inl (g.2 0, 4, .inl fb3)), (w4, .inl (g.2 0, 8, .inl fb4)), (w5, .inl (g.2 0, 8, .inl fb5)), (w6, .inl (g.2 0, 4, .inl fb6)), (w7, .inl (g.2 0, 20, .inl fb7)), (w8, .inl (g.2 0, 6, .inl fb8)), (w9, .inr (3, [.ref y0, .ref y1, .ref y2, .int 0])), (y0, .inl (g.2 0, 60, .inl fb9)), (y1, .inl (g.2 0, 60, .inl fb10)), (y2, .inl (g.2 0, 60, .inl fb11))] H := hP
  have hD : va_D A [(h0, .inr (0, [.int 0, .int 0, .int 0, .int 0, .int 0, .int 0, .int 0, .int 0, .int 0, .int 0, .ref v0, .ref v1, .ref v2, .ref v3, .ref v4, .ref v5, .ref v6, .ref v7, .ref v8, .ref v9])), (v0, .inl (g.2 0, 8, .inl (va_cpy fb0 fa0 (0 : Int32).toNatClampNeg (0 : Int32).toNatClampNeg (8 : Int32).toNatClampNeg))), (v1, .inl (g.2 0, 32, .inl fa1)), (v2, .inl (g.2 0, 4, .inl fa2)), (v3, .inl (g.2 0, 4, .inl fa3)), (v4, .inl (g.2 0, 8, .inl fa4)), (v5, .inl (g.2 0, 8, .inl fa5)), (v6, .inl (g.2 0, 4, .inl fa6)), (v7, .inl (g.2 0, 20, .inl fa7)), (v8, .inl (g.2 0, 6, .inl fa8)), (v9, .inr (3, [.ref x0, .ref x1, .ref x2, .int 0])), (x0, .inl (g.2 0, 60, .inl fa9)), (x1, .inl (g.2 0, 60, .inl fa10)), (x2, .inl (g.2 0, 60, .inl fa11)), (k0, .inr (0, [.int 0, .int 0, .int 0, .int 0, .int 0, .int 0, .int 0, .int 0, .int 0, .int 0, .ref w0, .ref w1, .ref w2, .ref w3, .ref w4, .ref w5, .ref w6, .ref w7, .ref w8, .ref w9])), (w0, .inl (g.2 0, 8, .inl fb0)), (w1, .inl (g.2 0, 32, .inl fb1)), (w2, .inl (g.2 0, 4, .inl fb2)), (w3, .inl (g.2 0, 4, .inl fb3)), (w4, .inl (g.2 0, 8, .inl fb4)), (w5, .inl (g.2 0, 8, .inl fb5)), (w6, .inl (g.2 0, 4, .inl fb6)), (w7, .inl (g.2 0, 20, .inl fb7)), (w8, .inl (g.2 0, 6, .inl fb8)), (w9, .inr (3, [.ref y0, .ref y1, .ref y2, .int 0])), (y0, .inl (g.2 0, 60, .inl fb9)), (y1, .inl (g.2 0, 60, .inl fb10)), (y2, .inl (g.2 0, 60, .inl fb11))] := hD
  generalize (va_cpy fb0 fa0 (0 : Int32).toNatClampNeg (0 : Int32).toNatClampNeg (8 : Int32).toNatClampNeg : Nat → Int32) = f1 at hP hD
  refine lv_aload_n hx hb dX0_copyFrom_95 rfl (lv_at hl 1 rfl) ?_
  refine g_get (C := RX0) (T := TX0) (N := 20) (ci := 0) (v := .ref w1) FC hKn hP i_X0 14 rfl rfl 11 (by decide) b_113 rfl dX0_copyFrom_96 ?_
  refine lv_iconst (v := 0) hx hb dX0_copyFrom_99 (by decide) ?_
  refine lv_aload_n hx hb dX0_copyFrom_100 rfl (lv_at hl 0 rfl) ?_
  refine g_get (C := RX0) (T := TX0) (N := 20) (ci := 0) (v := .ref v1) FC hKn hP i_X0 0 rfl rfl 11 (by decide) b_113 rfl dX0_copyFrom_101 ?_
  refine lv_iconst (v := 0) hx hb dX0_copyFrom_104 (by decide) ?_
  refine lv_bipush (v := 32) hx hb dX0_copyFrom_105 (by decide) ?_
  refine va_copyi hx hb (by rw [hml]; exact hl.1.symm) hown (hB _ b_112) (hB _ b_102) (hB _ b_103) (hB _ b_104) hKn.1 hP hD hS 16 2 0 0 rfl rfl rfl rfl rfl (by decide) (by decide) (by decide) (by decide) (by decide) (fun _ _ => rfl) (Nat.le_of_ble_eq_true rfl) (Nat.le_of_ble_eq_true rfl) dX0_copyFrom_107 (fun H locs hP hD hS => ?_)
  have hP : va_P g.1 vwCl [(h0, .inr (0, [.int 0, .int 0, .int 0, .int 0, .int 0, .int 0, .int 0, .int 0, .int 0, .int 0, .ref v0, .ref v1, .ref v2, .ref v3, .ref v4, .ref v5, .ref v6, .ref v7, .ref v8, .ref v9])), (v0, .inl (g.2 0, 8, .inl f1)), (v1, .inl (g.2 0, 32, .inl (va_cpy fb1 fa1 (0 : Int32).toNatClampNeg (0 : Int32).toNatClampNeg (32 : Int32).toNatClampNeg))), (v2, .inl (g.2 0, 4, .inl fa2)), (v3, .inl (g.2 0, 4, .inl fa3)), (v4, .inl (g.2 0, 8, .inl fa4)), (v5, .inl (g.2 0, 8, .inl fa5)), (v6, .inl (g.2 0, 4, .inl fa6)), (v7, .inl (g.2 0, 20, .inl fa7)), (v8, .inl (g.2 0, 6, .inl fa8)), (v9, .inr (3, [.ref x0, .ref x1, .ref x2, .int 0])), (x0, .inl (g.2 0, 60, .inl fa9)), (x1, .inl (g.2 0, 60, .inl fa10)), (x2, .inl (g.2 0, 60, .inl fa11)), (k0, .inr (0, [.int 0, .int 0, .int 0, .int 0, .int 0, .int 0, .int 0, .int 0, .int 0, .int 0, .ref w0, .ref w1, .ref w2, .ref w3, .ref w4, .ref w5, .ref w6, .ref w7, .ref w8, .ref w9])), (w0, .inl (g.2 0, 8, .inl fb0)), (w1, .inl (g.2 0, 32, .inl fb1)), (w2, .inl (g.2 0, 4, .inl fb2)), (w3, .inl (g.2 0, 4, .inl fb3)), (w4, .inl (g.2 0, 8, .inl fb4)), (w5, .inl (g.2 0, 8, .inl fb5)), (w6, .inl (g.2 0, 4, .inl fb6)), (w7, .inl (g.2 0, 20, .inl fb7)), (w8, .inl (g.2 0, 6, .inl fb8)), (w9, .inr (3, [.ref y0, .ref y1, .ref y2, .int 0])), (y0, .inl (g.2 0, 60, .inl fb9)), (y1, .inl (g.2 0, 60, .inl fb10)), (y2, .inl (g.2 0, 60, .inl fb11))] H := hP
  have hD : va_D A [(h0, .inr (0, [.int 0, .int 0, .int 0, .int 0, .int 0, .int 0, .int 0, .int 0, .int 0, .int 0, .ref v0, .ref v1, .ref v2, .ref v3, .ref v4, .ref v5, .ref v6, .ref v7, .ref v8, .ref v9])), (v0, .inl (g.2 0, 8, .inl f1)), (v1, .inl (g.2 0, 32, .inl (va_cpy fb1 fa1 (0 : Int32).toNatClampNeg (0 : Int32).toNatClampNeg (32 : Int32).toNatClampNeg))), (v2, .inl (g.2 0, 4, .inl fa2)), (v3, .inl (g.2 0, 4, .inl fa3)), (v4, .inl (g.2 0, 8, .inl fa4)), (v5, .inl (g.2 0, 8, .inl fa5)), (v6, .inl (g.2 0, 4, .inl fa6)), (v7, .inl (g.2 0, 20, .inl fa7)), (v8, .inl (g.2 0, 6, .inl fa8)), (v9, .inr (3, [.ref x0, .ref x1, .ref x2, .int 0])), (x0, .inl (g.2 0, 60, .inl fa9)), (x1, .inl (g.2 0, 60, .inl fa10)), (x2, .inl (g.2 0, 60, .inl fa11)), (k0, .inr (0, [.int 0, .int 0, .int 0, .int 0, .int 0, .int 0, .int 0, .int 0, .int 0, .int 0, .ref w0, .ref w1, .ref w2, .ref w3, .ref w4, .ref w5, .ref w6, .ref w7, .ref w8, .ref w9])), (w0, .inl (g.2 0, 8, .inl fb0)), (w1, .inl (g.2 0, 32, .inl fb1)), (w2, .inl (g.2 0, 4, .inl fb2)), (w3, .inl (g.2 0, 4, .inl fb3)), (w4, .inl (g.2 0, 8, .inl fb4)), (w5, .inl (g.2 0, 8, .inl fb5)), (w6, .inl (g.2 0, 4, .inl fb6)), (w7, .inl (g.2 0, 20, .inl fb7)), (w8, .inl (g.2 0, 6, .inl fb8)), (w9, .inr (3, [.ref y0, .ref y1, .ref y2, .int 0])), (y0, .inl (g.2 0, 60, .inl fb9)), (y1, .inl (g.2 0, 60, .inl fb10)), (y2, .inl (g.2 0, 60, .inl fb11))] := hD
  generalize (va_cpy fb1 fa1 (0 : Int32).toNatClampNeg (0 : Int32).toNatClampNeg (32 : Int32).toNatClampNeg : Nat → Int32) = f2 at hP hD
  refine lv_aload_n hx hb dX0_copyFrom_110 rfl (lv_at hl 1 rfl) ?_
  refine g_get (C := RX0) (T := TX0) (N := 20) (ci := 0) (v := .ref w2) FC hKn hP i_X0 14 rfl rfl 12 (by decide) b_114 rfl dX0_copyFrom_111 ?_
  refine lv_iconst (v := 0) hx hb dX0_copyFrom_114 (by decide) ?_
  refine lv_aload_n hx hb dX0_copyFrom_115 rfl (lv_at hl 0 rfl) ?_
  refine g_get (C := RX0) (T := TX0) (N := 20) (ci := 0) (v := .ref v2) FC hKn hP i_X0 0 rfl rfl 12 (by decide) b_114 rfl dX0_copyFrom_116 ?_
  refine lv_iconst (v := 0) hx hb dX0_copyFrom_119 (by decide) ?_
  refine lv_iconst (v := 4) hx hb dX0_copyFrom_120 (by decide) ?_
  refine va_copyi hx hb (by rw [hml]; exact hl.1.symm) hown (hB _ b_112) (hB _ b_102) (hB _ b_103) (hB _ b_104) hKn.1 hP hD hS 17 3 0 0 rfl rfl rfl rfl rfl (by decide) (by decide) (by decide) (by decide) (by decide) (fun _ _ => rfl) (Nat.le_of_ble_eq_true rfl) (Nat.le_of_ble_eq_true rfl) dX0_copyFrom_121 (fun H locs hP hD hS => ?_)
  have hP : va_P g.1 vwCl [(h0, .inr (0, [.int 0, .int 0, .int 0, .int 0, .int 0, .int 0, .int 0, .int 0, .int 0, .int 0, .ref v0, .ref v1, .ref v2, .ref v3, .ref v4, .ref v5, .ref v6, .ref v7, .ref v8, .ref v9])), (v0, .inl (g.2 0, 8, .inl f1)), (v1, .inl (g.2 0, 32, .inl f2)), (v2, .inl (g.2 0, 4, .inl (va_cpy fb2 fa2 (0 : Int32).toNatClampNeg (0 : Int32).toNatClampNeg (4 : Int32).toNatClampNeg))), (v3, .inl (g.2 0, 4, .inl fa3)), (v4, .inl (g.2 0, 8, .inl fa4)), (v5, .inl (g.2 0, 8, .inl fa5)), (v6, .inl (g.2 0, 4, .inl fa6)), (v7, .inl (g.2 0, 20, .inl fa7)), (v8, .inl (g.2 0, 6, .inl fa8)), (v9, .inr (3, [.ref x0, .ref x1, .ref x2, .int 0])), (x0, .inl (g.2 0, 60, .inl fa9)), (x1, .inl (g.2 0, 60, .inl fa10)), (x2, .inl (g.2 0, 60, .inl fa11)), (k0, .inr (0, [.int 0, .int 0, .int 0, .int 0, .int 0, .int 0, .int 0, .int 0, .int 0, .int 0, .ref w0, .ref w1, .ref w2, .ref w3, .ref w4, .ref w5, .ref w6, .ref w7, .ref w8, .ref w9])), (w0, .inl (g.2 0, 8, .inl fb0)), (w1, .inl (g.2 0, 32, .inl fb1)), (w2, .inl (g.2 0, 4, .inl fb2)), (w3, .inl (g.2 0, 4, .inl fb3)), (w4, .inl (g.2 0, 8, .inl fb4)), (w5, .inl (g.2 0, 8, .inl fb5)), (w6, .inl (g.2 0, 4, .inl fb6)), (w7, .inl (g.2 0, 20, .inl fb7)), (w8, .inl (g.2 0, 6, .inl fb8)), (w9, .inr (3, [.ref y0, .ref y1, .ref y2, .int 0])), (y0, .inl (g.2 0, 60, .inl fb9)), (y1, .inl (g.2 0, 60, .inl fb10)), (y2, .inl (g.2 0, 60, .inl fb11))] H := hP
  have hD : va_D A [(h0, .inr (0, [.int 0, .int 0, .int 0, .int 0, .int 0, .int 0, .int 0, .int 0, .int 0, .int 0, .ref v0, .ref v1, .ref v2, .ref v3, .ref v4, .ref v5, .ref v6, .ref v7, .ref v8, .ref v9])), (v0, .inl (g.2 0, 8, .inl f1)), (v1, .inl (g.2 0, 32, .inl f2)), (v2, .inl (g.2 0, 4, .inl (va_cpy fb2 fa2 (0 : Int32).toNatClampNeg (0 : Int32).toNatClampNeg (4 : Int32).toNatClampNeg))), (v3, .inl (g.2 0, 4, .inl fa3)), (v4, .inl (g.2 0, 8, .inl fa4)), (v5, .inl (g.2 0, 8, .inl fa5)), (v6, .inl (g.2 0, 4, .inl fa6)), (v7, .inl (g.2 0, 20, .inl fa7)), (v8, .inl (g.2 0, 6, .inl fa8)), (v9, .inr (3, [.ref x0, .ref x1, .ref x2, .int 0])), (x0, .inl (g.2 0, 60, .inl fa9)), (x1, .inl (g.2 0, 60, .inl fa10)), (x2, .inl (g.2 0, 60, .inl fa11)), (k0, .inr (0, [.int 0, .int 0, .int 0, .int 0, .int 0, .int 0, .int 0, .int 0, .int 0, .int 0, .ref w0, .ref w1, .ref w2, .ref w3, .ref w4, .ref w5, .ref w6, .ref w7, .ref w8, .ref w9])), (w0, .inl (g.2 0, 8, .inl fb0)), (w1, .inl (g.2 0, 32, .inl fb1)), (w2, .inl (g.2 0, 4, .inl fb2)), (w3, .inl (g.2 0, 4, .inl fb3)), (w4, .inl (g.2 0, 8, .inl fb4)), (w5, .inl (g.2 0, 8, .inl fb5)), (w6, .inl (g.2 0, 4, .inl fb6)), (w7, .inl (g.2 0, 20, .inl fb7)), (w8, .inl (g.2 0, 6, .inl fb8)), (w9, .inr (3, [.ref y0, .ref y1, .ref y2, .int 0])), (y0, .inl (g.2 0, 60, .inl fb9)), (y1, .inl (g.2 0, 60, .inl fb10)), (y2, .inl (g.2 0, 60, .inl fb11))] := hD
  generalize (va_cpy fb2 fa2 (0 : Int32).toNatClampNeg (0 : Int32).toNatClampNeg (4 : Int32).toNatClampNeg : Nat → Int32) = f3 at hP hD
  refine lv_aload_n hx hb dX0_copyFrom_124 rfl (lv_at hl 1 rfl) ?_
  refine g_get (C := RX0) (T := TX0) (N := 20) (ci := 0) (v := .ref w3) FC hKn hP i_X0 14 rfl rfl 13 (by decide) b_115 rfl dX0_copyFrom_125 ?_
  refine lv_iconst (v := 0) hx hb dX0_copyFrom_128 (by decide) ?_
  refine lv_aload_n hx hb dX0_copyFrom_129 rfl (lv_at hl 0 rfl) ?_
  refine g_get (C := RX0) (T := TX0) (N := 20) (ci := 0) (v := .ref v3) FC hKn hP i_X0 0 rfl rfl 13 (by decide) b_115 rfl dX0_copyFrom_130 ?_
  refine lv_iconst (v := 0) hx hb dX0_copyFrom_133 (by decide) ?_
  refine lv_iconst (v := 4) hx hb dX0_copyFrom_134 (by decide) ?_
  refine va_copyi hx hb (by rw [hml]; exact hl.1.symm) hown (hB _ b_112) (hB _ b_102) (hB _ b_103) (hB _ b_104) hKn.1 hP hD hS 18 4 0 0 rfl rfl rfl rfl rfl (by decide) (by decide) (by decide) (by decide) (by decide) (fun _ _ => rfl) (Nat.le_of_ble_eq_true rfl) (Nat.le_of_ble_eq_true rfl) dX0_copyFrom_135 (fun H locs hP hD hS => ?_)
  have hP : va_P g.1 vwCl [(h0, .inr (0, [.int 0, .int 0, .int 0, .int 0, .int 0, .int 0, .int 0, .int 0, .int 0, .int 0, .ref v0, .ref v1, .ref v2, .ref v3, .ref v4, .ref v5, .ref v6, .ref v7, .ref v8, .ref v9])), (v0, .inl (g.2 0, 8, .inl f1)), (v1, .inl (g.2 0, 32, .inl f2)), (v2, .inl (g.2 0, 4, .inl f3)), (v3, .inl (g.2 0, 4, .inl (va_cpy fb3 fa3 (0 : Int32).toNatClampNeg (0 : Int32).toNatClampNeg (4 : Int32).toNatClampNeg))), (v4, .inl (g.2 0, 8, .inl fa4)), (v5, .inl (g.2 0, 8, .inl fa5)), (v6, .inl (g.2 0, 4, .inl fa6)), (v7, .inl (g.2 0, 20, .inl fa7)), (v8, .inl (g.2 0, 6, .inl fa8)), (v9, .inr (3, [.ref x0, .ref x1, .ref x2, .int 0])), (x0, .inl (g.2 0, 60, .inl fa9)), (x1, .inl (g.2 0, 60, .inl fa10)), (x2, .inl (g.2 0, 60, .inl fa11)), (k0, .inr (0, [.int 0, .int 0, .int 0, .int 0, .int 0, .int 0, .int 0, .int 0, .int 0, .int 0, .ref w0, .ref w1, .ref w2, .ref w3, .ref w4, .ref w5, .ref w6, .ref w7, .ref w8, .ref w9])), (w0, .inl (g.2 0, 8, .inl fb0)), (w1, .inl (g.2 0, 32, .inl fb1)), (w2, .inl (g.2 0, 4, .inl fb2)), (w3, .inl (g.2 0, 4, .inl fb3)), (w4, .inl (g.2 0, 8, .inl fb4)), (w5, .inl (g.2 0, 8, .inl fb5)), (w6, .inl (g.2 0, 4, .inl fb6)), (w7, .inl (g.2 0, 20, .inl fb7)), (w8, .inl (g.2 0, 6, .inl fb8)), (w9, .inr (3, [.ref y0, .ref y1, .ref y2, .int 0])), (y0, .inl (g.2 0, 60, .inl fb9)), (y1, .inl (g.2 0, 60, .inl fb10)), (y2, .inl (g.2 0, 60, .inl fb11))] H := hP
  have hD : va_D A [(h0, .inr (0, [.int 0, .int 0, .int 0, .int 0, .int 0, .int 0, .int 0, .int 0, .int 0, .int 0, .ref v0, .ref v1, .ref v2, .ref v3, .ref v4, .ref v5, .ref v6, .ref v7, .ref v8, .ref v9])), (v0, .inl (g.2 0, 8, .inl f1)), (v1, .inl (g.2 0, 32, .inl f2)), (v2, .inl (g.2 0, 4, .inl f3)), (v3, .inl (g.2 0, 4, .inl (va_cpy fb3 fa3 (0 : Int32).toNatClampNeg (0 : Int32).toNatClampNeg (4 : Int32).toNatClampNeg))), (v4, .inl (g.2 0, 8, .inl fa4)), (v5, .inl (g.2 0, 8, .inl fa5)), (v6, .inl (g.2 0, 4, .inl fa6)), (v7, .inl (g.2 0, 20, .inl fa7)), (v8, .inl (g.2 0, 6, .inl fa8)), (v9, .inr (3, [.ref x0, .ref x1, .ref x2, .int 0])), (x0, .inl (g.2 0, 60, .inl fa9)), (x1, .inl (g.2 0, 60, .inl fa10)), (x2, .inl (g.2 0, 60, .inl fa11)), (k0, .inr (0, [.int 0, .int 0, .int 0, .int 0, .int 0, .int 0, .int 0, .int 0, .int 0, .int 0, .ref w0, .ref w1, .ref w2, .ref w3, .ref w4, .ref w5, .ref w6, .ref w7, .ref w8, .ref w9])), (w0, .inl (g.2 0, 8, .inl fb0)), (w1, .inl (g.2 0, 32, .inl fb1)), (w2, .inl (g.2 0, 4, .inl fb2)), (w3, .inl (g.2 0, 4, .inl fb3)), (w4, .inl (g.2 0, 8, .inl fb4)), (w5, .inl (g.2 0, 8, .inl fb5)), (w6, .inl (g.2 0, 4, .inl fb6)), (w7, .inl (g.2 0, 20, .inl fb7)), (w8, .inl (g.2 0, 6, .inl fb8)), (w9, .inr (3, [.ref y0, .ref y1, .ref y2, .int 0])), (y0, .inl (g.2 0, 60, .inl fb9)), (y1, .inl (g.2 0, 60, .inl fb10)), (y2, .inl (g.2 0, 60, .inl fb11))] := hD
  generalize (va_cpy fb3 fa3 (0 : Int32).toNatClampNeg (0 : Int32).toNatClampNeg (4 : Int32).toNatClampNeg : Nat → Int32) = f4 at hP hD
  refine lv_aload_n hx hb dX0_copyFrom_138 rfl (lv_at hl 1 rfl) ?_
  refine g_get (C := RX0) (T := TX0) (N := 20) (ci := 0) (v := .ref w4) FC hKn hP i_X0 14 rfl rfl 14 (by decide) b_116 rfl dX0_copyFrom_139 ?_
  refine lv_iconst (v := 0) hx hb dX0_copyFrom_142 (by decide) ?_
  refine lv_aload_n hx hb dX0_copyFrom_143 rfl (lv_at hl 0 rfl) ?_
  refine g_get (C := RX0) (T := TX0) (N := 20) (ci := 0) (v := .ref v4) FC hKn hP i_X0 0 rfl rfl 14 (by decide) b_116 rfl dX0_copyFrom_144 ?_
  refine lv_iconst (v := 0) hx hb dX0_copyFrom_147 (by decide) ?_
  refine lv_bipush (v := 8) hx hb dX0_copyFrom_148 (by decide) ?_
  refine va_copyi hx hb (by rw [hml]; exact hl.1.symm) hown (hB _ b_112) (hB _ b_102) (hB _ b_103) (hB _ b_104) hKn.1 hP hD hS 19 5 0 0 rfl rfl rfl rfl rfl (by decide) (by decide) (by decide) (by decide) (by decide) (fun _ _ => rfl) (Nat.le_of_ble_eq_true rfl) (Nat.le_of_ble_eq_true rfl) dX0_copyFrom_150 (fun H locs hP hD hS => ?_)
  have hP : va_P g.1 vwCl [(h0, .inr (0, [.int 0, .int 0, .int 0, .int 0, .int 0, .int 0, .int 0, .int 0, .int 0, .int 0, .ref v0, .ref v1, .ref v2, .ref v3, .ref v4, .ref v5, .ref v6, .ref v7, .ref v8, .ref v9])), (v0, .inl (g.2 0, 8, .inl f1)), (v1, .inl (g.2 0, 32, .inl f2)), (v2, .inl (g.2 0, 4, .inl f3)), (v3, .inl (g.2 0, 4, .inl f4)), (v4, .inl (g.2 0, 8, .inl (va_cpy fb4 fa4 (0 : Int32).toNatClampNeg (0 : Int32).toNatClampNeg (8 : Int32).toNatClampNeg))), (v5, .inl (g.2 0, 8, .inl fa5)), (v6, .inl (g.2 0, 4, .inl fa6)), (v7, .inl (g.2 0, 20, .inl fa7)), (v8, .inl (g.2 0, 6, .inl fa8)), (v9, .inr (3, [.ref x0, .ref x1, .ref x2, .int 0])), (x0, .inl (g.2 0, 60, .inl fa9)), (x1, .inl (g.2 0, 60, .inl fa10)), (x2, .inl (g.2 0, 60, .inl fa11)), (k0, .inr (0, [.int 0, .int 0, .int 0, .int 0, .int 0, .int 0, .int 0, .int 0, .int 0, .int 0, .ref w0, .ref w1, .ref w2, .ref w3, .ref w4, .ref w5, .ref w6, .ref w7, .ref w8, .ref w9])), (w0, .inl (g.2 0, 8, .inl fb0)), (w1, .inl (g.2 0, 32, .inl fb1)), (w2, .inl (g.2 0, 4, .inl fb2)), (w3, .inl (g.2 0, 4, .inl fb3)), (w4, .inl (g.2 0, 8, .inl fb4)), (w5, .inl (g.2 0, 8, .inl fb5)), (w6, .inl (g.2 0, 4, .inl fb6)), (w7, .inl (g.2 0, 20, .inl fb7)), (w8, .inl (g.2 0, 6, .inl fb8)), (w9, .inr (3, [.ref y0, .ref y1, .ref y2, .int 0])), (y0, .inl (g.2 0, 60, .inl fb9)), (y1, .inl (g.2 0, 60, .inl fb10)), (y2, .inl (g.2 0, 60, .inl fb11))] H := hP
  have hD : va_D A [(h0, .inr (0, [.int 0, .int 0, .int 0, .int 0, .int 0, .int 0, .int 0, .int 0, .int 0, .int 0, .ref v0, .ref v1, .ref v2, .ref v3, .ref v4, .ref v5, .ref v6, .ref v7, .ref v8, .ref v9])), (v0, .inl (g.2 0, 8, .inl f1)), (v1, .inl (g.2 0, 32, .inl f2)), (v2, .inl (g.2 0, 4, .inl f3)), (v3, .inl (g.2 0, 4, .inl f4)), (v4, .inl (g.2 0, 8, .inl (va_cpy fb4 fa4 (0 : Int32).toNatClampNeg (0 : Int32).toNatClampNeg (8 : Int32).toNatClampNeg))), (v5, .inl (g.2 0, 8, .inl fa5)), (v6, .inl (g.2 0, 4, .inl fa6)), (v7, .inl (g.2 0, 20, .inl fa7)), (v8, .inl (g.2 0, 6, .inl fa8)), (v9, .inr (3, [.ref x0, .ref x1, .ref x2, .int 0])), (x0, .inl (g.2 0, 60, .inl fa9)), (x1, .inl (g.2 0, 60, .inl fa10)), (x2, .inl (g.2 0, 60, .inl fa11)), (k0, .inr (0, [.int 0, .int 0, .int 0, .int 0, .int 0, .int 0, .int 0, .int 0, .int 0, .int 0, .ref w0, .ref w1, .ref w2, .ref w3, .ref w4, .ref w5, .ref w6, .ref w7, .ref w8, .ref w9])), (w0, .inl (g.2 0, 8, .inl fb0)), (w1, .inl (g.2 0, 32, .inl fb1)), (w2, .inl (g.2 0, 4, .inl fb2)), (w3, .inl (g.2 0, 4, .inl fb3)), (w4, .inl (g.2 0, 8, .inl fb4)), (w5, .inl (g.2 0, 8, .inl fb5)), (w6, .inl (g.2 0, 4, .inl fb6)), (w7, .inl (g.2 0, 20, .inl fb7)), (w8, .inl (g.2 0, 6, .inl fb8)), (w9, .inr (3, [.ref y0, .ref y1, .ref y2, .int 0])), (y0, .inl (g.2 0, 60, .inl fb9)), (y1, .inl (g.2 0, 60, .inl fb10)), (y2, .inl (g.2 0, 60, .inl fb11))] := hD
  generalize (va_cpy fb4 fa4 (0 : Int32).toNatClampNeg (0 : Int32).toNatClampNeg (8 : Int32).toNatClampNeg : Nat → Int32) = f5 at hP hD
  refine lv_aload_n hx hb dX0_copyFrom_153 rfl (lv_at hl 1 rfl) ?_
  refine g_get (C := RX0) (T := TX0) (N := 20) (ci := 0) (v := .ref w5) FC hKn hP i_X0 14 rfl rfl 15 (by decide) b_117 rfl dX0_copyFrom_154 ?_
  refine lv_iconst (v := 0) hx hb dX0_copyFrom_157 (by decide) ?_
  refine lv_aload_n hx hb dX0_copyFrom_158 rfl (lv_at hl 0 rfl) ?_
  refine g_get (C := RX0) (T := TX0) (N := 20) (ci := 0) (v := .ref v5) FC hKn hP i_X0 0 rfl rfl 15 (by decide) b_117 rfl dX0_copyFrom_159 ?_
  refine lv_iconst (v := 0) hx hb dX0_copyFrom_162 (by decide) ?_
  refine lv_bipush (v := 8) hx hb dX0_copyFrom_163 (by decide) ?_
  refine va_copyi hx hb (by rw [hml]; exact hl.1.symm) hown (hB _ b_112) (hB _ b_102) (hB _ b_103) (hB _ b_104) hKn.1 hP hD hS 20 6 0 0 rfl rfl rfl rfl rfl (by decide) (by decide) (by decide) (by decide) (by decide) (fun _ _ => rfl) (Nat.le_of_ble_eq_true rfl) (Nat.le_of_ble_eq_true rfl) dX0_copyFrom_165 (fun H locs hP hD hS => ?_)
  have hP : va_P g.1 vwCl [(h0, .inr (0, [.int 0, .int 0, .int 0, .int 0, .int 0, .int 0, .int 0, .int 0, .int 0, .int 0, .ref v0, .ref v1, .ref v2, .ref v3, .ref v4, .ref v5, .ref v6, .ref v7, .ref v8, .ref v9])), (v0, .inl (g.2 0, 8, .inl f1)), (v1, .inl (g.2 0, 32, .inl f2)), (v2, .inl (g.2 0, 4, .inl f3)), (v3, .inl (g.2 0, 4, .inl f4)), (v4, .inl (g.2 0, 8, .inl f5)), (v5, .inl (g.2 0, 8, .inl (va_cpy fb5 fa5 (0 : Int32).toNatClampNeg (0 : Int32).toNatClampNeg (8 : Int32).toNatClampNeg))), (v6, .inl (g.2 0, 4, .inl fa6)), (v7, .inl (g.2 0, 20, .inl fa7)), (v8, .inl (g.2 0, 6, .inl fa8)), (v9, .inr (3, [.ref x0, .ref x1, .ref x2, .int 0])), (x0, .inl (g.2 0, 60, .inl fa9)), (x1, .inl (g.2 0, 60, .inl fa10)), (x2, .inl (g.2 0, 60, .inl fa11)), (k0, .inr (0, [.int 0, .int 0, .int 0, .int 0, .int 0, .int 0, .int 0, .int 0, .int 0, .int 0, .ref w0, .ref w1, .ref w2, .ref w3, .ref w4, .ref w5, .ref w6, .ref w7, .ref w8, .ref w9])), (w0, .inl (g.2 0, 8, .inl fb0)), (w1, .inl (g.2 0, 32, .inl fb1)), (w2, .inl (g.2 0, 4, .inl fb2)), (w3, .inl (g.2 0, 4, .inl fb3)), (w4, .inl (g.2 0, 8, .inl fb4)), (w5, .inl (g.2 0, 8, .inl fb5)), (w6, .inl (g.2 0, 4, .inl fb6)), (w7, .inl (g.2 0, 20, .inl fb7)), (w8, .inl (g.2 0, 6, .inl fb8)), (w9, .inr (3, [.ref y0, .ref y1, .ref y2, .int 0])), (y0, .inl (g.2 0, 60, .inl fb9)), (y1, .inl (g.2 0, 60, .inl fb10)), (y2, .inl (g.2 0, 60, .inl fb11))] H := hP
  have hD : va_D A [(h0, .inr (0, [.int 0, .int 0, .int 0, .int 0, .int 0, .int 0, .int 0, .int 0, .int 0, .int 0, .ref v0, .ref v1, .ref v2, .ref v3, .ref v4, .ref v5, .ref v6, .ref v7, .ref v8, .ref v9])), (v0, .inl (g.2 0, 8, .inl f1)), (v1, .inl (g.2 0, 32, .inl f2)), (v2, .inl (g.2 0, 4, .inl f3)), (v3, .inl (g.2 0, 4, .inl f4)), (v4, .inl (g.2 0, 8, .inl f5)), (v5, .inl (g.2 0, 8, .inl (va_cpy fb5 fa5 (0 : Int32).toNatClampNeg (0 : Int32).toNatClampNeg (8 : Int32).toNatClampNeg))), (v6, .inl (g.2 0, 4, .inl fa6)), (v7, .inl (g.2 0, 20, .inl fa7)), (v8, .inl (g.2 0, 6, .inl fa8)), (v9, .inr (3, [.ref x0, .ref x1, .ref x2, .int 0])), (x0, .inl (g.2 0, 60, .inl fa9)), (x1, .inl (g.2 0, 60, .inl fa10)), (x2, .inl (g.2 0, 60, .inl fa11)), (k0, .inr (0, [.int 0, .int 0, .int 0, .int 0, .int 0, .int 0, .int 0, .int 0, .int 0, .int 0, .ref w0, .ref w1, .ref w2, .ref w3, .ref w4, .ref w5, .ref w6, .ref w7, .ref w8, .ref w9])), (w0, .inl (g.2 0, 8, .inl fb0)), (w1, .inl (g.2 0, 32, .inl fb1)), (w2, .inl (g.2 0, 4, .inl fb2)), (w3, .inl (g.2 0, 4, .inl fb3)), (w4, .inl (g.2 0, 8, .inl fb4)), (w5, .inl (g.2 0, 8, .inl fb5)), (w6, .inl (g.2 0, 4, .inl fb6)), (w7, .inl (g.2 0, 20, .inl fb7)), (w8, .inl (g.2 0, 6, .inl fb8)), (w9, .inr (3, [.ref y0, .ref y1, .ref y2, .int 0])), (y0, .inl (g.2 0, 60, .inl fb9)), (y1, .inl (g.2 0, 60, .inl fb10)), (y2, .inl (g.2 0, 60, .inl fb11))] := hD
  generalize (va_cpy fb5 fa5 (0 : Int32).toNatClampNeg (0 : Int32).toNatClampNeg (8 : Int32).toNatClampNeg : Nat → Int32) = f6 at hP hD
  refine lv_aload_n hx hb dX0_copyFrom_168 rfl (lv_at hl 1 rfl) ?_
  refine g_get (C := RX0) (T := TX0) (N := 20) (ci := 0) (v := .ref w6) FC hKn hP i_X0 14 rfl rfl 16 (by decide) b_118 rfl dX0_copyFrom_169 ?_
  refine lv_iconst (v := 0) hx hb dX0_copyFrom_172 (by decide) ?_
  refine lv_aload_n hx hb dX0_copyFrom_173 rfl (lv_at hl 0 rfl) ?_
  refine g_get (C := RX0) (T := TX0) (N := 20) (ci := 0) (v := .ref v6) FC hKn hP i_X0 0 rfl rfl 16 (by decide) b_118 rfl dX0_copyFrom_174 ?_
  refine lv_iconst (v := 0) hx hb dX0_copyFrom_177 (by decide) ?_
  refine lv_iconst (v := 4) hx hb dX0_copyFrom_178 (by decide) ?_
  refine va_copyi hx hb (by rw [hml]; exact hl.1.symm) hown (hB _ b_112) (hB _ b_102) (hB _ b_103) (hB _ b_104) hKn.1 hP hD hS 21 7 0 0 rfl rfl rfl rfl rfl (by decide) (by decide) (by decide) (by decide) (by decide) (fun _ _ => rfl) (Nat.le_of_ble_eq_true rfl) (Nat.le_of_ble_eq_true rfl) dX0_copyFrom_179 (fun H locs hP hD hS => ?_)
  have hP : va_P g.1 vwCl [(h0, .inr (0, [.int 0, .int 0, .int 0, .int 0, .int 0, .int 0, .int 0, .int 0, .int 0, .int 0, .ref v0, .ref v1, .ref v2, .ref v3, .ref v4, .ref v5, .ref v6, .ref v7, .ref v8, .ref v9])), (v0, .inl (g.2 0, 8, .inl f1)), (v1, .inl (g.2 0, 32, .inl f2)), (v2, .inl (g.2 0, 4, .inl f3)), (v3, .inl (g.2 0, 4, .inl f4)), (v4, .inl (g.2 0, 8, .inl f5)), (v5, .inl (g.2 0, 8, .inl f6)), (v6, .inl (g.2 0, 4, .inl (va_cpy fb6 fa6 (0 : Int32).toNatClampNeg (0 : Int32).toNatClampNeg (4 : Int32).toNatClampNeg))), (v7, .inl (g.2 0, 20, .inl fa7)), (v8, .inl (g.2 0, 6, .inl fa8)), (v9, .inr (3, [.ref x0, .ref x1, .ref x2, .int 0])), (x0, .inl (g.2 0, 60, .inl fa9)), (x1, .inl (g.2 0, 60, .inl fa10)), (x2, .inl (g.2 0, 60, .inl fa11)), (k0, .inr (0, [.int 0, .int 0, .int 0, .int 0, .int 0, .int 0, .int 0, .int 0, .int 0, .int 0, .ref w0, .ref w1, .ref w2, .ref w3, .ref w4, .ref w5, .ref w6, .ref w7, .ref w8, .ref w9])), (w0, .inl (g.2 0, 8, .inl fb0)), (w1, .inl (g.2 0, 32, .inl fb1)), (w2, .inl (g.2 0, 4, .inl fb2)), (w3, .inl (g.2 0, 4, .inl fb3)), (w4, .inl (g.2 0, 8, .inl fb4)), (w5, .inl (g.2 0, 8, .inl fb5)), (w6, .inl (g.2 0, 4, .inl fb6)), (w7, .inl (g.2 0, 20, .inl fb7)), (w8, .inl (g.2 0, 6, .inl fb8)), (w9, .inr (3, [.ref y0, .ref y1, .ref y2, .int 0])), (y0, .inl (g.2 0, 60, .inl fb9)), (y1, .inl (g.2 0, 60, .inl fb10)), (y2, .inl (g.2 0, 60, .inl fb11))] H := hP
  have hD : va_D A [(h0, .inr (0, [.int 0, .int 0, .int 0, .int 0, .int 0, .int 0, .int 0, .int 0, .int 0, .int 0, .ref v0, .ref v1, .ref v2, .ref v3, .ref v4, .ref v5, .ref v6, .ref v7, .ref v8, .ref v9])), (v0, .inl (g.2 0, 8, .inl f1)), (v1, .inl (g.2 0, 32, .inl f2)), (v2, .inl (g.2 0, 4, .inl f3)), (v3, .inl (g.2 0, 4, .inl f4)), (v4, .inl (g.2 0, 8, .inl f5)), (v5, .inl (g.2 0, 8, .inl f6)), (v6, .inl (g.2 0, 4, .inl (va_cpy fb6 fa6 (0 : Int32).toNatClampNeg (0 : Int32).toNatClampNeg (4 : Int32).toNatClampNeg))), (v7, .inl (g.2 0, 20, .inl fa7)), (v8, .inl (g.2 0, 6, .inl fa8)), (v9, .inr (3, [.ref x0, .ref x1, .ref x2, .int 0])), (x0, .inl (g.2 0, 60, .inl fa9)), (x1, .inl (g.2 0, 60, .inl fa10)), (x2, .inl (g.2 0, 60, .inl fa11)), (k0, .inr (0, [.int 0, .int 0, .int 0, .int 0, .int 0, .int 0, .int 0, .int 0, .int 0, .int 0, .ref w0, .ref w1, .ref w2, .ref w3, .ref w4, .ref w5, .ref w6, .ref w7, .ref w8, .ref w9])), (w0, .inl (g.2 0, 8, .inl fb0)), (w1, .inl (g.2 0, 32, .inl fb1)), (w2, .inl (g.2 0, 4, .inl fb2)), (w3, .inl (g.2 0, 4, .inl fb3)), (w4, .inl (g.2 0, 8, .inl fb4)), (w5, .inl (g.2 0, 8, .inl fb5)), (w6, .inl (g.2 0, 4, .inl fb6)), (w7, .inl (g.2 0, 20, .inl fb7)), (w8, .inl (g.2 0, 6, .inl fb8)), (w9, .inr (3, [.ref y0, .ref y1, .ref y2, .int 0])), (y0, .inl (g.2 0, 60, .inl fb9)), (y1, .inl (g.2 0, 60, .inl fb10)), (y2, .inl (g.2 0, 60, .inl fb11))] := hD
  generalize (va_cpy fb6 fa6 (0 : Int32).toNatClampNeg (0 : Int32).toNatClampNeg (4 : Int32).toNatClampNeg : Nat → Int32) = f7 at hP hD
  refine lv_aload_n hx hb dX0_copyFrom_182 rfl (lv_at hl 1 rfl) ?_
  refine g_get (C := RX0) (T := TX0) (N := 20) (ci := 0) (v := .ref w7) FC hKn hP i_X0 14 rfl rfl 17 (by decide) b_119 rfl dX0_copyFrom_183 ?_
  refine lv_iconst (v := 0) hx hb dX0_copyFrom_186 (by decide) ?_
  refine lv_aload_n hx hb dX0_copyFrom_187 rfl (lv_at hl 0 rfl) ?_
  refine g_get (C := RX0) (T := TX0) (N := 20) (ci := 0) (v := .ref v7) FC hKn hP i_X0 0 rfl rfl 17 (by decide) b_119 rfl dX0_copyFrom_188 ?_
  refine lv_iconst (v := 0) hx hb dX0_copyFrom_191 (by decide) ?_
  refine lv_bipush (v := 20) hx hb dX0_copyFrom_192 (by decide) ?_
  refine va_copyi hx hb (by rw [hml]; exact hl.1.symm) hown (hB _ b_112) (hB _ b_102) (hB _ b_103) (hB _ b_104) hKn.1 hP hD hS 22 8 0 0 rfl rfl rfl rfl rfl (by decide) (by decide) (by decide) (by decide) (by decide) (fun _ _ => rfl) (Nat.le_of_ble_eq_true rfl) (Nat.le_of_ble_eq_true rfl) dX0_copyFrom_194 (fun H locs hP hD hS => ?_)
  have hP : va_P g.1 vwCl [(h0, .inr (0, [.int 0, .int 0, .int 0, .int 0, .int 0, .int 0, .int 0, .int 0, .int 0, .int 0, .ref v0, .ref v1, .ref v2, .ref v3, .ref v4, .ref v5, .ref v6, .ref v7, .ref v8, .ref v9])), (v0, .inl (g.2 0, 8, .inl f1)), (v1, .inl (g.2 0, 32, .inl f2)), (v2, .inl (g.2 0, 4, .inl f3)), (v3, .inl (g.2 0, 4, .inl f4)), (v4, .inl (g.2 0, 8, .inl f5)), (v5, .inl (g.2 0, 8, .inl f6)), (v6, .inl (g.2 0, 4, .inl f7)), (v7, .inl (g.2 0, 20, .inl (va_cpy fb7 fa7 (0 : Int32).toNatClampNeg (0 : Int32).toNatClampNeg (20 : Int32).toNatClampNeg))), (v8, .inl (g.2 0, 6, .inl fa8)), (v9, .inr (3, [.ref x0, .ref x1, .ref x2, .int 0])), (x0, .inl (g.2 0, 60, .inl fa9)), (x1, .inl (g.2 0, 60, .inl fa10)), (x2, .inl (g.2 0, 60, .inl fa11)), (k0, .inr (0, [.int 0, .int 0, .int 0, .int 0, .int 0, .int 0, .int 0, .int 0, .int 0, .int 0, .ref w0, .ref w1, .ref w2, .ref w3, .ref w4, .ref w5, .ref w6, .ref w7, .ref w8, .ref w9])), (w0, .inl (g.2 0, 8, .inl fb0)), (w1, .inl (g.2 0, 32, .inl fb1)), (w2, .inl (g.2 0, 4, .inl fb2)), (w3, .inl (g.2 0, 4, .inl fb3)), (w4, .inl (g.2 0, 8, .inl fb4)), (w5, .inl (g.2 0, 8, .inl fb5)), (w6, .inl (g.2 0, 4, .inl fb6)), (w7, .inl (g.2 0, 20, .inl fb7)), (w8, .inl (g.2 0, 6, .inl fb8)), (w9, .inr (3, [.ref y0, .ref y1, .ref y2, .int 0])), (y0, .inl (g.2 0, 60, .inl fb9)), (y1, .inl (g.2 0, 60, .inl fb10)), (y2, .inl (g.2 0, 60, .inl fb11))] H := hP
  have hD : va_D A [(h0, .inr (0, [.int 0, .int 0, .int 0, .int 0, .int 0, .int 0, .int 0, .int 0, .int 0, .int 0, .ref v0, .ref v1, .ref v2, .ref v3, .ref v4, .ref v5, .ref v6, .ref v7, .ref v8, .ref v9])), (v0, .inl (g.2 0, 8, .inl f1)), (v1, .inl (g.2 0, 32, .inl f2)), (v2, .inl (g.2 0, 4, .inl f3)), (v3, .inl (g.2 0, 4, .inl f4)), (v4, .inl (g.2 0, 8, .inl f5)), (v5, .inl (g.2 0, 8, .inl f6)), (v6, .inl (g.2 0, 4, .inl f7)), (v7, .inl (g.2 0, 20, .inl (va_cpy fb7 fa7 (0 : Int32).toNatClampNeg (0 : Int32).toNatClampNeg (20 : Int32).toNatClampNeg))), (v8, .inl (g.2 0, 6, .inl fa8)), (v9, .inr (3, [.ref x0, .ref x1, .ref x2, .int 0])), (x0, .inl (g.2 0, 60, .inl fa9)), (x1, .inl (g.2 0, 60, .inl fa10)), (x2, .inl (g.2 0, 60, .inl fa11)), (k0, .inr (0, [.int 0, .int 0, .int 0, .int 0, .int 0, .int 0, .int 0, .int 0, .int 0, .int 0, .ref w0, .ref w1, .ref w2, .ref w3, .ref w4, .ref w5, .ref w6, .ref w7, .ref w8, .ref w9])), (w0, .inl (g.2 0, 8, .inl fb0)), (w1, .inl (g.2 0, 32, .inl fb1)), (w2, .inl (g.2 0, 4, .inl fb2)), (w3, .inl (g.2 0, 4, .inl fb3)), (w4, .inl (g.2 0, 8, .inl fb4)), (w5, .inl (g.2 0, 8, .inl fb5)), (w6, .inl (g.2 0, 4, .inl fb6)), (w7, .inl (g.2 0, 20, .inl fb7)), (w8, .inl (g.2 0, 6, .inl fb8)), (w9, .inr (3, [.ref y0, .ref y1, .ref y2, .int 0])), (y0, .inl (g.2 0, 60, .inl fb9)), (y1, .inl (g.2 0, 60, .inl fb10)), (y2, .inl (g.2 0, 60, .inl fb11))] := hD
  generalize (va_cpy fb7 fa7 (0 : Int32).toNatClampNeg (0 : Int32).toNatClampNeg (20 : Int32).toNatClampNeg : Nat → Int32) = f8 at hP hD
  refine lv_aload_n hx hb dX0_copyFrom_197 rfl (lv_at hl 1 rfl) ?_
  refine g_get (C := RX0) (T := TX0) (N := 20) (ci := 0) (v := .ref w8) FC hKn hP i_X0 14 rfl rfl 18 (by decide) b_120 rfl dX0_copyFrom_198 ?_
  refine lv_iconst (v := 0) hx hb dX0_copyFrom_201 (by decide) ?_
  refine lv_aload_n hx hb dX0_copyFrom_202 rfl (lv_at hl 0 rfl) ?_
  refine g_get (C := RX0) (T := TX0) (N := 20) (ci := 0) (v := .ref v8) FC hKn hP i_X0 0 rfl rfl 18 (by decide) b_120 rfl dX0_copyFrom_203 ?_
  refine lv_iconst (v := 0) hx hb dX0_copyFrom_206 (by decide) ?_
  refine lv_bipush (v := 6) hx hb dX0_copyFrom_207 (by decide) ?_
  refine va_copyi hx hb (by rw [hml]; exact hl.1.symm) hown (hB _ b_112) (hB _ b_102) (hB _ b_103) (hB _ b_104) hKn.1 hP hD hS 23 9 0 0 rfl rfl rfl rfl rfl (by decide) (by decide) (by decide) (by decide) (by decide) (fun _ _ => rfl) (Nat.le_of_ble_eq_true rfl) (Nat.le_of_ble_eq_true rfl) dX0_copyFrom_209 (fun H locs hP hD hS => ?_)
  have hP : va_P g.1 vwCl [(h0, .inr (0, [.int 0, .int 0, .int 0, .int 0, .int 0, .int 0, .int 0, .int 0, .int 0, .int 0, .ref v0, .ref v1, .ref v2, .ref v3, .ref v4, .ref v5, .ref v6, .ref v7, .ref v8, .ref v9])), (v0, .inl (g.2 0, 8, .inl f1)), (v1, .inl (g.2 0, 32, .inl f2)), (v2, .inl (g.2 0, 4, .inl f3)), (v3, .inl (g.2 0, 4, .inl f4)), (v4, .inl (g.2 0, 8, .inl f5)), (v5, .inl (g.2 0, 8, .inl f6)), (v6, .inl (g.2 0, 4, .inl f7)), (v7, .inl (g.2 0, 20, .inl f8)), (v8, .inl (g.2 0, 6, .inl (va_cpy fb8 fa8 (0 : Int32).toNatClampNeg (0 : Int32).toNatClampNeg (6 : Int32).toNatClampNeg))), (v9, .inr (3, [.ref x0, .ref x1, .ref x2, .int 0])), (x0, .inl (g.2 0, 60, .inl fa9)), (x1, .inl (g.2 0, 60, .inl fa10)), (x2, .inl (g.2 0, 60, .inl fa11)), (k0, .inr (0, [.int 0, .int 0, .int 0, .int 0, .int 0, .int 0, .int 0, .int 0, .int 0, .int 0, .ref w0, .ref w1, .ref w2, .ref w3, .ref w4, .ref w5, .ref w6, .ref w7, .ref w8, .ref w9])), (w0, .inl (g.2 0, 8, .inl fb0)), (w1, .inl (g.2 0, 32, .inl fb1)), (w2, .inl (g.2 0, 4, .inl fb2)), (w3, .inl (g.2 0, 4, .inl fb3)), (w4, .inl (g.2 0, 8, .inl fb4)), (w5, .inl (g.2 0, 8, .inl fb5)), (w6, .inl (g.2 0, 4, .inl fb6)), (w7, .inl (g.2 0, 20, .inl fb7)), (w8, .inl (g.2 0, 6, .inl fb8)), (w9, .inr (3, [.ref y0, .ref y1, .ref y2, .int 0])), (y0, .inl (g.2 0, 60, .inl fb9)), (y1, .inl (g.2 0, 60, .inl fb10)), (y2, .inl (g.2 0, 60, .inl fb11))] H := hP
  have hD : va_D A [(h0, .inr (0, [.int 0, .int 0, .int 0, .int 0, .int 0, .int 0, .int 0, .int 0, .int 0, .int 0, .ref v0, .ref v1, .ref v2, .ref v3, .ref v4, .ref v5, .ref v6, .ref v7, .ref v8, .ref v9])), (v0, .inl (g.2 0, 8, .inl f1)), (v1, .inl (g.2 0, 32, .inl f2)), (v2, .inl (g.2 0, 4, .inl f3)), (v3, .inl (g.2 0, 4, .inl f4)), (v4, .inl (g.2 0, 8, .inl f5)), (v5, .inl (g.2 0, 8, .inl f6)), (v6, .inl (g.2 0, 4, .inl f7)), (v7, .inl (g.2 0, 20, .inl f8)), (v8, .inl (g.2 0, 6, .inl (va_cpy fb8 fa8 (0 : Int32).toNatClampNeg (0 : Int32).toNatClampNeg (6 : Int32).toNatClampNeg))), (v9, .inr (3, [.ref x0, .ref x1, .ref x2, .int 0])), (x0, .inl (g.2 0, 60, .inl fa9)), (x1, .inl (g.2 0, 60, .inl fa10)), (x2, .inl (g.2 0, 60, .inl fa11)), (k0, .inr (0, [.int 0, .int 0, .int 0, .int 0, .int 0, .int 0, .int 0, .int 0, .int 0, .int 0, .ref w0, .ref w1, .ref w2, .ref w3, .ref w4, .ref w5, .ref w6, .ref w7, .ref w8, .ref w9])), (w0, .inl (g.2 0, 8, .inl fb0)), (w1, .inl (g.2 0, 32, .inl fb1)), (w2, .inl (g.2 0, 4, .inl fb2)), (w3, .inl (g.2 0, 4, .inl fb3)), (w4, .inl (g.2 0, 8, .inl fb4)), (w5, .inl (g.2 0, 8, .inl fb5)), (w6, .inl (g.2 0, 4, .inl fb6)), (w7, .inl (g.2 0, 20, .inl fb7)), (w8, .inl (g.2 0, 6, .inl fb8)), (w9, .inr (3, [.ref y0, .ref y1, .ref y2, .int 0])), (y0, .inl (g.2 0, 60, .inl fb9)), (y1, .inl (g.2 0, 60, .inl fb10)), (y2, .inl (g.2 0, 60, .inl fb11))] := hD
  generalize (va_cpy fb8 fa8 (0 : Int32).toNatClampNeg (0 : Int32).toNatClampNeg (6 : Int32).toNatClampNeg : Nat → Int32) = f9 at hP hD
  refine lv_aload_n hx hb dX0_copyFrom_212 rfl (lv_at hl 0 rfl) ?_
  refine g_get (C := RX0) (T := TX0) (N := 20) (ci := 0) (v := .ref v9) FC hKn hP i_X0 0 rfl rfl 19 (by decide) b_121 rfl dX0_copyFrom_213 ?_
  refine lv_aload_n hx hb dX0_copyFrom_216 rfl (lv_at hl 1 rfl) ?_
  refine g_get (C := RX0) (T := TX0) (N := 20) (ci := 0) (v := .ref w9) FC hKn hP i_X0 14 rfl rfl 19 (by decide) b_121 rfl dX0_copyFrom_217 ?_
  refine call_VN (As := [.ref w9]) (rest := []) (wr := [(h0, .inr (0, [.int 0, .int 0, .int 0, .int 0, .int 0, .int 0, .int 0, .int 0, .int 0, .int 0, .ref v0, .ref v1, .ref v2, .ref v3, .ref v4, .ref v5, .ref v6, .ref v7, .ref v8, .ref v9])), (v0, .inl (g.2 0, 8, .inl f1)), (v1, .inl (g.2 0, 32, .inl f2)), (v2, .inl (g.2 0, 4, .inl f3)), (v3, .inl (g.2 0, 4, .inl f4)), (v4, .inl (g.2 0, 8, .inl f5)), (v5, .inl (g.2 0, 8, .inl f6)), (v6, .inl (g.2 0, 4, .inl f7)), (v7, .inl (g.2 0, 20, .inl f8)), (v8, .inl (g.2 0, 6, .inl f9)), (k0, .inr (0, [.int 0, .int 0, .int 0, .int 0, .int 0, .int 0, .int 0, .int 0, .int 0, .int 0, .ref w0, .ref w1, .ref w2, .ref w3, .ref w4, .ref w5, .ref w6, .ref w7, .ref w8, .ref w9])), (w0, .inl (g.2 0, 8, .inl fb0)), (w1, .inl (g.2 0, 32, .inl fb1)), (w2, .inl (g.2 0, 4, .inl fb2)), (w3, .inl (g.2 0, 4, .inl fb3)), (w4, .inl (g.2 0, 8, .inl fb4)), (w5, .inl (g.2 0, 8, .inl fb5)), (w6, .inl (g.2 0, 4, .inl fb6)), (w7, .inl (g.2 0, 20, .inl fb7)), (w8, .inl (g.2 0, 6, .inl fb8))]) FC hKn (c_X3_takeAll l g v9 x0 x1 x2 w9 y0 y1 y2 fa9 fa10 fa11 fb9 fb10 fb11) m_yX3_takeAll b_122 (ci := 3) rfl rfl rfl hP hD hS hA [10, 11, 12, 13, 24, 25, 26, 27] [0, 1, 2, 3, 4, 5, 6, 7, 8, 9, 14, 15, 16, 17, 18, 19, 20, 21, 22, 23] rfl (by decide) rfl (by decide) (by decide) rfl hl.1 rfl (Nat.le_of_ble_eq_true rfl) dX0_copyFrom_220 ⟨(Nat.le_of_ble_eq_true rfl), (Nat.le_of_ble_eq_true rfl)⟩ ⟨(Nat.le_of_ble_eq_true rfl), (Nat.le_of_ble_eq_true rfl)⟩ (fun u10 H locs _ hP hD hS => ?_)
  have hP : va_P g.1 vwCl [(h0, .inr (0, [.int 0, .int 0, .int 0, .int 0, .int 0, .int 0, .int 0, .int 0, .int 0, .int 0, .ref v0, .ref v1, .ref v2, .ref v3, .ref v4, .ref v5, .ref v6, .ref v7, .ref v8, .ref v9])), (v0, .inl (g.2 0, 8, .inl f1)), (v1, .inl (g.2 0, 32, .inl f2)), (v2, .inl (g.2 0, 4, .inl f3)), (v3, .inl (g.2 0, 4, .inl f4)), (v4, .inl (g.2 0, 8, .inl f5)), (v5, .inl (g.2 0, 8, .inl f6)), (v6, .inl (g.2 0, 4, .inl f7)), (v7, .inl (g.2 0, 20, .inl f8)), (v8, .inl (g.2 0, 6, .inl f9)), (k0, .inr (0, [.int 0, .int 0, .int 0, .int 0, .int 0, .int 0, .int 0, .int 0, .int 0, .int 0, .ref w0, .ref w1, .ref w2, .ref w3, .ref w4, .ref w5, .ref w6, .ref w7, .ref w8, .ref w9])), (w0, .inl (g.2 0, 8, .inl fb0)), (w1, .inl (g.2 0, 32, .inl fb1)), (w2, .inl (g.2 0, 4, .inl fb2)), (w3, .inl (g.2 0, 4, .inl fb3)), (w4, .inl (g.2 0, 8, .inl fb4)), (w5, .inl (g.2 0, 8, .inl fb5)), (w6, .inl (g.2 0, 4, .inl fb6)), (w7, .inl (g.2 0, 20, .inl fb7)), (w8, .inl (g.2 0, 6, .inl fb8))] H := hP
  have hD : va_D A [(h0, .inr (0, [.int 0, .int 0, .int 0, .int 0, .int 0, .int 0, .int 0, .int 0, .int 0, .int 0, .ref v0, .ref v1, .ref v2, .ref v3, .ref v4, .ref v5, .ref v6, .ref v7, .ref v8, .ref v9])), (v0, .inl (g.2 0, 8, .inl f1)), (v1, .inl (g.2 0, 32, .inl f2)), (v2, .inl (g.2 0, 4, .inl f3)), (v3, .inl (g.2 0, 4, .inl f4)), (v4, .inl (g.2 0, 8, .inl f5)), (v5, .inl (g.2 0, 8, .inl f6)), (v6, .inl (g.2 0, 4, .inl f7)), (v7, .inl (g.2 0, 20, .inl f8)), (v8, .inl (g.2 0, 6, .inl f9)), (k0, .inr (0, [.int 0, .int 0, .int 0, .int 0, .int 0, .int 0, .int 0, .int 0, .int 0, .int 0, .ref w0, .ref w1, .ref w2, .ref w3, .ref w4, .ref w5, .ref w6, .ref w7, .ref w8, .ref w9])), (w0, .inl (g.2 0, 8, .inl fb0)), (w1, .inl (g.2 0, 32, .inl fb1)), (w2, .inl (g.2 0, 4, .inl fb2)), (w3, .inl (g.2 0, 4, .inl fb3)), (w4, .inl (g.2 0, 8, .inl fb4)), (w5, .inl (g.2 0, 8, .inl fb5)), (w6, .inl (g.2 0, 4, .inl fb6)), (w7, .inl (g.2 0, 20, .inl fb7)), (w8, .inl (g.2 0, 6, .inl fb8))] := hD
  refine W.eq (g2 := F0 m 223 ls []) rfl ?_
  exact rt_v FX () rfl trivial (hP.sub [0] rfl) (hD.sub [0] (by decide) rfl) hS (Nat.le_of_ble_eq_true rfl) (Nat.le_of_ble_eq_true rfl) dX0_copyFrom_223
set_option maxRecDepth 100000 in
set_option maxHeartbeats 4000000 in
theorem c_X0_clear (l : Launch) (g : GG) (h0 : Nat) (v0 : Nat) (v1 : Nat) (v2 : Nat) (v3 : Nat) (v4 : Nat) (v5 : Nat) (v6 : Nat) (v7 : Nat) (v8 : Nat) (v9 : Nat) (x0 : Nat) (x1 : Nat) (x2 : Nat) (fa0 : Nat → Int32) (fa2 : Nat → Int32) (fa3 : Nat → Int32) : Ct l g yX0_clear cX0_clear 1 none { frames := 1, cells := 0, slots := 0, locals := 23 } [.ref h0] [(h0, .inr (0, [.int 0, .int 0, .int 0, .int 0, .int 0, .int 0, .int 0, .int 0, .int 0, .int 0, .ref v0, .ref v1, .ref v2, .ref v3, .ref v4, .ref v5, .ref v6, .ref v7, .ref v8, .ref v9])), (v9, .inr (3, [.ref x0, .ref x1, .ref x2, .int 0])), (v0, .inl (g.2 0, 8, .inl fa0)), (v2, .inl (g.2 0, 4, .inl fa2)), (v3, .inl (g.2 0, 4, .inl fa3))] (S := Nat → Nat → Int32) (fun _ => none) (fun _ => True) (fun u => [(h0, .inr (0, [.int 0, .int 0, .int 0, .int 0, .int 0, .int 0, .int 0, .int 0, .int 0, .int 0, .ref v0, .ref v1, .ref v2, .ref v3, .ref v4, .ref v5, .ref v6, .ref v7, .ref v8, .ref v9])), (v9, .inr (3, [.ref x0, .ref x1, .ref x2, .int 0])), (v0, .inl (g.2 0, 8, .inl (u 0))), (v2, .inl (g.2 0, 4, .inl (u 1))), (v3, .inl (g.2 0, 4, .inl (u 2)))]) := by
  refine Ct.of (by decide) (Nat.le_of_ble_eq_true rfl) ?_
  intro p e s m below meth c A ls FX hP hD hS hl
  obtain ⟨FC, hr, hlk, hKn, hA, hnm⟩ := id FX
  have FC : CallFix p m c cX0_clear 1 s _ BIG RX0 := FC
  obtain ⟨hx, hb, hml, hown, hB⟩ := id FC
  have hl : lv_has ls 1 [(0, .ref h0)] := hl
  refine lv_aload_n hx hb dX0_clear_0 rfl (lv_at hl 0 rfl) ?_
  refine lv_iconst (v := 0) hx hb dX0_clear_1 (by decide) ?_
  refine g_put (C := RX0) (T := TX0) (N := 20) (ci := 0) (v := .int 0) FC hKn hP hD hS i_X0 tyX0 tyX0_ok nmX0 0 rfl rfl 0 (by decide) b_0 rfl rfl rfl (Nat.le_of_ble_eq_true rfl) dX0_clear_2 (fun H locs hP hD hS => ?_)
  have hP : va_P g.1 vwCl [(h0, .inr (0, [.int 0, .int 0, .int 0, .int 0, .int 0, .int 0, .int 0, .int 0, .int 0, .int 0, .ref v0, .ref v1, .ref v2, .ref v3, .ref v4, .ref v5, .ref v6, .ref v7, .ref v8, .ref v9])), (v9, .inr (3, [.ref x0, .ref x1, .ref x2, .int 0])), (v0, .inl (g.2 0, 8, .inl fa0)), (v2, .inl (g.2 0, 4, .inl fa2)), (v3, .inl (g.2 0, 4, .inl fa3))] H := hP
  have hD : va_D A [(h0, .inr (0, [.int 0, .int 0, .int 0, .int 0, .int 0, .int 0, .int 0, .int 0, .int 0, .int 0, .ref v0, .ref v1, .ref v2, .ref v3, .ref v4, .ref v5, .ref v6, .ref v7, .ref v8, .ref v9])), (v9, .inr (3, [.ref x0, .ref x1, .ref x2, .int 0])), (v0, .inl (g.2 0, 8, .inl fa0)), (v2, .inl (g.2 0, 4, .inl fa2)), (v3, .inl (g.2 0, 4, .inl fa3))] := hD
  refine lv_aload_n hx hb dX0_clear_5 rfl (lv_at hl 0 rfl) ?_
  refine lv_iconst (v := 0) hx hb dX0_clear_6 (by decide) ?_
  refine g_put (C := RX0) (T := TX0) (N := 20) (ci := 0) (v := .int 0) FC hKn hP hD hS i_X0 tyX0 tyX0_ok nmX0 0 rfl rfl 1 (by decide) b_108 rfl rfl rfl (Nat.le_of_ble_eq_true rfl) dX0_clear_7 (fun H locs hP hD hS => ?_)
  have hP : va_P g.1 vwCl [(h0, .inr (0, [.int 0, .int 0, .int 0, .int 0, .int 0, .int 0, .int 0, .int 0, .int 0, .int 0, .ref v0, .ref v1, .ref v2, .ref v3, .ref v4, .ref v5, .ref v6, .ref v7, .ref v8, .ref v9])), (v9, .inr (3, [.ref x0, .ref x1, .ref x2, .int 0])), (v0, .inl (g.2 0, 8, .inl fa0)), (v2, .inl (g.2 0, 4, .inl fa2)), (v3, .inl (g.2 0, 4, .inl fa3))] H := hP
  have hD : va_D A [(h0, .inr (0, [.int 0, .int 0, .int 0, .int 0, .int 0, .int 0, .int 0, .int 0, .int 0, .int 0, .ref v0, .ref v1, .ref v2, .ref v3, .ref v4, .ref v5, .ref v6, .ref v7, .ref v8, .ref v9])), (v9, .inr (3, [.ref x0, .ref x1, .ref x2, .int 0])), (v0, .inl (g.2 0, 8, .inl fa0)), (v2, .inl (g.2 0, 4, .inl fa2)), (v3, .inl (g.2 0, 4, .inl fa3))] := hD
  refine lv_aload_n hx hb dX0_clear_10 rfl (lv_at hl 0 rfl) ?_
  refine lv_iconst (v := 0) hx hb dX0_clear_11 (by decide) ?_
  refine g_put (C := RX0) (T := TX0) (N := 20) (ci := 0) (v := .int 0) FC hKn hP hD hS i_X0 tyX0 tyX0_ok nmX0 0 rfl rfl 2 (by decide) b_2 rfl rfl rfl (Nat.le_of_ble_eq_true rfl) dX0_clear_12 (fun H locs hP hD hS => ?_)
  have hP : va_P g.1 vwCl [(h0, .inr (0, [.int 0, .int 0, .int 0, .int 0, .int 0, .int 0, .int 0, .int 0, .int 0, .int 0, .ref v0, .ref v1, .ref v2, .ref v3, .ref v4, .ref v5, .ref v6, .ref v7, .ref v8, .ref v9])), (v9, .inr (3, [.ref x0, .ref x1, .ref x2, .int 0])), (v0, .inl (g.2 0, 8, .inl fa0)), (v2, .inl (g.2 0, 4, .inl fa2)), (v3, .inl (g.2 0, 4, .inl fa3))] H := hP
  have hD : va_D A [(h0, .inr (0, [.int 0, .int 0, .int 0, .int 0, .int 0, .int 0, .int 0, .int 0, .int 0, .int 0, .ref v0, .ref v1, .ref v2, .ref v3, .ref v4, .ref v5, .ref v6, .ref v7, .ref v8, .ref v9])), (v9, .inr (3, [.ref x0, .ref x1, .ref x2, .int 0])), (v0, .inl (g.2 0, 8, .inl fa0)), (v2, .inl (g.2 0, 4, .inl fa2)), (v3, .inl (g.2 0, 4, .inl fa3))] := hD
  refine lv_aload_n hx hb dX0_clear_15 rfl (lv_at hl 0 rfl) ?_
  refine lv_iconst (v := 0) hx hb dX0_clear_16 (by decide) ?_
  refine g_put (C := RX0) (T := TX0) (N := 20) (ci := 0) (v := .int 0) FC hKn hP hD hS i_X0 tyX0 tyX0_ok nmX0 0 rfl rfl 3 (by decide) b_109 rfl rfl rfl (Nat.le_of_ble_eq_true rfl) dX0_clear_17 (fun H locs hP hD hS => ?_)
  have hP : va_P g.1 vwCl [(h0, .inr (0, [.int 0, .int 0, .int 0, .int 0, .int 0, .int 0, .int 0, .int 0, .int 0, .int 0, .ref v0, .ref v1, .ref v2, .ref v3, .ref v4, .ref v5, .ref v6, .ref v7, .ref v8, .ref v9])), (v9, .inr (3, [.ref x0, .ref x1, .ref x2, .int 0])), (v0, .inl (g.2 0, 8, .inl fa0)), (v2, .inl (g.2 0, 4, .inl fa2)), (v3, .inl (g.2 0, 4, .inl fa3))] H := hP
  have hD : va_D A [(h0, .inr (0, [.int 0, .int 0, .int 0, .int 0, .int 0, .int 0, .int 0, .int 0, .int 0, .int 0, .ref v0, .ref v1, .ref v2, .ref v3, .ref v4, .ref v5, .ref v6, .ref v7, .ref v8, .ref v9])), (v9, .inr (3, [.ref x0, .ref x1, .ref x2, .int 0])), (v0, .inl (g.2 0, 8, .inl fa0)), (v2, .inl (g.2 0, 4, .inl fa2)), (v3, .inl (g.2 0, 4, .inl fa3))] := hD
  refine lv_aload_n hx hb dX0_clear_20 rfl (lv_at hl 0 rfl) ?_
  refine lv_iconst (v := 0) hx hb dX0_clear_21 (by decide) ?_
  refine g_put (C := RX0) (T := TX0) (N := 20) (ci := 0) (v := .int 0) FC hKn hP hD hS i_X0 tyX0 tyX0_ok nmX0 0 rfl rfl 4 (by decide) b_110 rfl rfl rfl (Nat.le_of_ble_eq_true rfl) dX0_clear_22 (fun H locs hP hD hS => ?_)
  have hP : va_P g.1 vwCl [(h0, .inr (0, [.int 0, .int 0, .int 0, .int 0, .int 0, .int 0, .int 0, .int 0, .int 0, .int 0, .ref v0, .ref v1, .ref v2, .ref v3, .ref v4, .ref v5, .ref v6, .ref v7, .ref v8, .ref v9])), (v9, .inr (3, [.ref x0, .ref x1, .ref x2, .int 0])), (v0, .inl (g.2 0, 8, .inl fa0)), (v2, .inl (g.2 0, 4, .inl fa2)), (v3, .inl (g.2 0, 4, .inl fa3))] H := hP
  have hD : va_D A [(h0, .inr (0, [.int 0, .int 0, .int 0, .int 0, .int 0, .int 0, .int 0, .int 0, .int 0, .int 0, .ref v0, .ref v1, .ref v2, .ref v3, .ref v4, .ref v5, .ref v6, .ref v7, .ref v8, .ref v9])), (v9, .inr (3, [.ref x0, .ref x1, .ref x2, .int 0])), (v0, .inl (g.2 0, 8, .inl fa0)), (v2, .inl (g.2 0, 4, .inl fa2)), (v3, .inl (g.2 0, 4, .inl fa3))] := hD
  refine lv_aload_n hx hb dX0_clear_25 rfl (lv_at hl 0 rfl) ?_
  refine lv_iconst (v := 0) hx hb dX0_clear_26 (by decide) ?_
  refine g_put (C := RX0) (T := TX0) (N := 20) (ci := 0) (v := .int 0) FC hKn hP hD hS i_X0 tyX0 tyX0_ok nmX0 0 rfl rfl 5 (by decide) b_1 rfl rfl rfl (Nat.le_of_ble_eq_true rfl) dX0_clear_27 (fun H locs hP hD hS => ?_)
  have hP : va_P g.1 vwCl [(h0, .inr (0, [.int 0, .int 0, .int 0, .int 0, .int 0, .int 0, .int 0, .int 0, .int 0, .int 0, .ref v0, .ref v1, .ref v2, .ref v3, .ref v4, .ref v5, .ref v6, .ref v7, .ref v8, .ref v9])), (v9, .inr (3, [.ref x0, .ref x1, .ref x2, .int 0])), (v0, .inl (g.2 0, 8, .inl fa0)), (v2, .inl (g.2 0, 4, .inl fa2)), (v3, .inl (g.2 0, 4, .inl fa3))] H := hP
  have hD : va_D A [(h0, .inr (0, [.int 0, .int 0, .int 0, .int 0, .int 0, .int 0, .int 0, .int 0, .int 0, .int 0, .ref v0, .ref v1, .ref v2, .ref v3, .ref v4, .ref v5, .ref v6, .ref v7, .ref v8, .ref v9])), (v9, .inr (3, [.ref x0, .ref x1, .ref x2, .int 0])), (v0, .inl (g.2 0, 8, .inl fa0)), (v2, .inl (g.2 0, 4, .inl fa2)), (v3, .inl (g.2 0, 4, .inl fa3))] := hD
  refine lv_aload_n hx hb dX0_clear_30 rfl (lv_at hl 0 rfl) ?_
  refine lv_iconst (v := 0) hx hb dX0_clear_31 (by decide) ?_
  refine g_put (C := RX0) (T := TX0) (N := 20) (ci := 0) (v := .int 0) FC hKn hP hD hS i_X0 tyX0 tyX0_ok nmX0 0 rfl rfl 6 (by decide) b_3 rfl rfl rfl (Nat.le_of_ble_eq_true rfl) dX0_clear_32 (fun H locs hP hD hS => ?_)
  have hP : va_P g.1 vwCl [(h0, .inr (0, [.int 0, .int 0, .int 0, .int 0, .int 0, .int 0, .int 0, .int 0, .int 0, .int 0, .ref v0, .ref v1, .ref v2, .ref v3, .ref v4, .ref v5, .ref v6, .ref v7, .ref v8, .ref v9])), (v9, .inr (3, [.ref x0, .ref x1, .ref x2, .int 0])), (v0, .inl (g.2 0, 8, .inl fa0)), (v2, .inl (g.2 0, 4, .inl fa2)), (v3, .inl (g.2 0, 4, .inl fa3))] H := hP
  have hD : va_D A [(h0, .inr (0, [.int 0, .int 0, .int 0, .int 0, .int 0, .int 0, .int 0, .int 0, .int 0, .int 0, .ref v0, .ref v1, .ref v2, .ref v3, .ref v4, .ref v5, .ref v6, .ref v7, .ref v8, .ref v9])), (v9, .inr (3, [.ref x0, .ref x1, .ref x2, .int 0])), (v0, .inl (g.2 0, 8, .inl fa0)), (v2, .inl (g.2 0, 4, .inl fa2)), (v3, .inl (g.2 0, 4, .inl fa3))] := hD
  refine lv_aload_n hx hb dX0_clear_35 rfl (lv_at hl 0 rfl) ?_
  refine lv_iconst (v := 0) hx hb dX0_clear_36 (by decide) ?_
  refine g_put (C := RX0) (T := TX0) (N := 20) (ci := 0) (v := .int 0) FC hKn hP hD hS i_X0 tyX0 tyX0_ok nmX0 0 rfl rfl 7 (by decide) b_4 rfl rfl rfl (Nat.le_of_ble_eq_true rfl) dX0_clear_37 (fun H locs hP hD hS => ?_)
  have hP : va_P g.1 vwCl [(h0, .inr (0, [.int 0, .int 0, .int 0, .int 0, .int 0, .int 0, .int 0, .int 0, .int 0, .int 0, .ref v0, .ref v1, .ref v2, .ref v3, .ref v4, .ref v5, .ref v6, .ref v7, .ref v8, .ref v9])), (v9, .inr (3, [.ref x0, .ref x1, .ref x2, .int 0])), (v0, .inl (g.2 0, 8, .inl fa0)), (v2, .inl (g.2 0, 4, .inl fa2)), (v3, .inl (g.2 0, 4, .inl fa3))] H := hP
  have hD : va_D A [(h0, .inr (0, [.int 0, .int 0, .int 0, .int 0, .int 0, .int 0, .int 0, .int 0, .int 0, .int 0, .ref v0, .ref v1, .ref v2, .ref v3, .ref v4, .ref v5, .ref v6, .ref v7, .ref v8, .ref v9])), (v9, .inr (3, [.ref x0, .ref x1, .ref x2, .int 0])), (v0, .inl (g.2 0, 8, .inl fa0)), (v2, .inl (g.2 0, 4, .inl fa2)), (v3, .inl (g.2 0, 4, .inl fa3))] := hD
  refine lv_aload_n hx hb dX0_clear_40 rfl (lv_at hl 0 rfl) ?_
  refine lv_iconst (v := 0) hx hb dX0_clear_41 (by decide) ?_
  refine g_put (C := RX0) (T := TX0) (N := 20) (ci := 0) (v := .int 0) FC hKn hP hD hS i_X0 tyX0 tyX0_ok nmX0 0 rfl rfl 8 (by decide) b_5 rfl rfl rfl (Nat.le_of_ble_eq_true rfl) dX0_clear_42 (fun H locs hP hD hS => ?_)
  have hP : va_P g.1 vwCl [(h0, .inr (0, [.int 0, .int 0, .int 0, .int 0, .int 0, .int 0, .int 0, .int 0, .int 0, .int 0, .ref v0, .ref v1, .ref v2, .ref v3, .ref v4, .ref v5, .ref v6, .ref v7, .ref v8, .ref v9])), (v9, .inr (3, [.ref x0, .ref x1, .ref x2, .int 0])), (v0, .inl (g.2 0, 8, .inl fa0)), (v2, .inl (g.2 0, 4, .inl fa2)), (v3, .inl (g.2 0, 4, .inl fa3))] H := hP
  have hD : va_D A [(h0, .inr (0, [.int 0, .int 0, .int 0, .int 0, .int 0, .int 0, .int 0, .int 0, .int 0, .int 0, .ref v0, .ref v1, .ref v2, .ref v3, .ref v4, .ref v5, .ref v6, .ref v7, .ref v8, .ref v9])), (v9, .inr (3, [.ref x0, .ref x1, .ref x2, .int 0])), (v0, .inl (g.2 0, 8, .inl fa0)), (v2, .inl (g.2 0, 4, .inl fa2)), (v3, .inl (g.2 0, 4, .inl fa3))] := hD
  refine lv_aload_n hx hb dX0_clear_45 rfl (lv_at hl 0 rfl) ?_
  refine lv_iconst (v := 0) hx hb dX0_clear_46 (by decide) ?_
  refine g_put (C := RX0) (T := TX0) (N := 20) (ci := 0) (v := .int 0) FC hKn hP hD hS i_X0 tyX0 tyX0_ok nmX0 0 rfl rfl 9 (by decide) b_6 rfl rfl rfl (Nat.le_of_ble_eq_true rfl) dX0_clear_47 (fun H locs hP hD hS => ?_)
  have hP : va_P g.1 vwCl [(h0, .inr (0, [.int 0, .int 0, .int 0, .int 0, .int 0, .int 0, .int 0, .int 0, .int 0, .int 0, .ref v0, .ref v1, .ref v2, .ref v3, .ref v4, .ref v5, .ref v6, .ref v7, .ref v8, .ref v9])), (v9, .inr (3, [.ref x0, .ref x1, .ref x2, .int 0])), (v0, .inl (g.2 0, 8, .inl fa0)), (v2, .inl (g.2 0, 4, .inl fa2)), (v3, .inl (g.2 0, 4, .inl fa3))] H := hP
  have hD : va_D A [(h0, .inr (0, [.int 0, .int 0, .int 0, .int 0, .int 0, .int 0, .int 0, .int 0, .int 0, .int 0, .ref v0, .ref v1, .ref v2, .ref v3, .ref v4, .ref v5, .ref v6, .ref v7, .ref v8, .ref v9])), (v9, .inr (3, [.ref x0, .ref x1, .ref x2, .int 0])), (v0, .inl (g.2 0, 8, .inl fa0)), (v2, .inl (g.2 0, 4, .inl fa2)), (v3, .inl (g.2 0, 4, .inl fa3))] := hD
  refine lv_aload_n hx hb dX0_clear_50 rfl (lv_at hl 0 rfl) ?_
  refine g_get (C := RX0) (T := TX0) (N := 20) (ci := 0) (v := .ref v9) FC hKn hP i_X0 0 rfl rfl 19 (by decide) b_121 rfl dX0_clear_51 ?_
  refine lv_iconst (v := 0) hx hb dX0_clear_54 (by decide) ?_
  refine g_putN (C := RX3) (T := TX3) (N := 4) (ci := 3) (v := .int 0) FC hKn hP hD hS i_X3 tyX3 tyX3_ok nmX3 1 rfl rfl 3 (by decide) b_123 rfl rfl rfl (Nat.le_of_ble_eq_true rfl) dX0_clear_55 (fun H locs hP hD hS => ?_)
  have hP : va_P g.1 vwCl [(h0, .inr (0, [.int 0, .int 0, .int 0, .int 0, .int 0, .int 0, .int 0, .int 0, .int 0, .int 0, .ref v0, .ref v1, .ref v2, .ref v3, .ref v4, .ref v5, .ref v6, .ref v7, .ref v8, .ref v9])), (v9, .inr (3, [.ref x0, .ref x1, .ref x2, .int 0])), (v0, .inl (g.2 0, 8, .inl fa0)), (v2, .inl (g.2 0, 4, .inl fa2)), (v3, .inl (g.2 0, 4, .inl fa3))] H := hP
  have hD : va_D A [(h0, .inr (0, [.int 0, .int 0, .int 0, .int 0, .int 0, .int 0, .int 0, .int 0, .int 0, .int 0, .ref v0, .ref v1, .ref v2, .ref v3, .ref v4, .ref v5, .ref v6, .ref v7, .ref v8, .ref v9])), (v9, .inr (3, [.ref x0, .ref x1, .ref x2, .int 0])), (v0, .inl (g.2 0, 8, .inl fa0)), (v2, .inl (g.2 0, 4, .inl fa2)), (v3, .inl (g.2 0, 4, .inl fa3))] := hD
  refine lv_aload_n hx hb dX0_clear_58 rfl (lv_at hl 0 rfl) ?_
  refine g_get (C := RX0) (T := TX0) (N := 20) (ci := 0) (v := .ref v0) FC hKn hP i_X0 0 rfl rfl 10 (by decide) b_111 rfl dX0_clear_59 ?_
  refine lv_iconst (v := 0) hx hb dX0_clear_62 (by decide) ?_
  refine call_S (As := [.ref v0, .int 0]) (rest := []) (wr := [(h0, .inr (0, [.int 0, .int 0, .int 0, .int 0, .int 0, .int 0, .int 0, .int 0, .int 0, .int 0, .ref v0, .ref v1, .ref v2, .ref v3, .ref v4, .ref v5, .ref v6, .ref v7, .ref v8, .ref v9])), (v9, .inr (3, [.ref x0, .ref x1, .ref x2, .int 0])), (v2, .inl (g.2 0, 4, .inl fa2)), (v3, .inl (g.2 0, 4, .inl fa3))]) FC hKn (c_J7_fill_8 l g v0 fa0 0) m_yJ7_fill_53178 b_124 hP hD hS hA [2] [0, 1, 3, 4] rfl (by decide) rfl (by decide) (by decide) rfl hl.1 rfl (Nat.le_of_ble_eq_true rfl) dX0_clear_63 ⟨(Nat.le_of_ble_eq_true rfl), (Nat.le_of_ble_eq_true rfl)⟩ ⟨(Nat.le_of_ble_eq_true rfl), (Nat.le_of_ble_eq_true rfl)⟩ (fun u1 H locs _ hP hD hS => ?_)
  have hP : va_P g.1 vwCl [(h0, .inr (0, [.int 0, .int 0, .int 0, .int 0, .int 0, .int 0, .int 0, .int 0, .int 0, .int 0, .ref v0, .ref v1, .ref v2, .ref v3, .ref v4, .ref v5, .ref v6, .ref v7, .ref v8, .ref v9])), (v9, .inr (3, [.ref x0, .ref x1, .ref x2, .int 0])), (v2, .inl (g.2 0, 4, .inl fa2)), (v3, .inl (g.2 0, 4, .inl fa3)), (v0, .inl (g.2 0, 8, .inl u1))] H := hP
  have hD : va_D A [(h0, .inr (0, [.int 0, .int 0, .int 0, .int 0, .int 0, .int 0, .int 0, .int 0, .int 0, .int 0, .ref v0, .ref v1, .ref v2, .ref v3, .ref v4, .ref v5, .ref v6, .ref v7, .ref v8, .ref v9])), (v9, .inr (3, [.ref x0, .ref x1, .ref x2, .int 0])), (v2, .inl (g.2 0, 4, .inl fa2)), (v3, .inl (g.2 0, 4, .inl fa3)), (v0, .inl (g.2 0, 8, .inl u1))] := hD
  refine W.eq (g2 := F0 m 66 ls []) rfl ?_
  refine lv_aload_n hx hb dX0_clear_66 rfl (lv_at hl 0 rfl) ?_
  refine g_get (C := RX0) (T := TX0) (N := 20) (ci := 0) (v := .ref v2) FC hKn hP i_X0 0 rfl rfl 12 (by decide) b_114 rfl dX0_clear_67 ?_
  refine lv_iconst (v := 0) hx hb dX0_clear_70 (by decide) ?_
  refine call_S (As := [.ref v2, .int 0]) (rest := []) (wr := [(h0, .inr (0, [.int 0, .int 0, .int 0, .int 0, .int 0, .int 0, .int 0, .int 0, .int 0, .int 0, .ref v0, .ref v1, .ref v2, .ref v3, .ref v4, .ref v5, .ref v6, .ref v7, .ref v8, .ref v9])), (v9, .inr (3, [.ref x0, .ref x1, .ref x2, .int 0])), (v3, .inl (g.2 0, 4, .inl fa3)), (v0, .inl (g.2 0, 8, .inl u1))]) FC hKn (c_J7_fill_4 l g v2 fa2 0) m_yJ7_fill_53178 b_124 hP hD hS hA [2] [0, 1, 3, 4] rfl (by decide) rfl (by decide) (by decide) rfl hl.1 rfl (Nat.le_of_ble_eq_true rfl) dX0_clear_71 ⟨(Nat.le_of_ble_eq_true rfl), (Nat.le_of_ble_eq_true rfl)⟩ ⟨(Nat.le_of_ble_eq_true rfl), (Nat.le_of_ble_eq_true rfl)⟩ (fun u2 H locs _ hP hD hS => ?_)
  have hP : va_P g.1 vwCl [(h0, .inr (0, [.int 0, .int 0, .int 0, .int 0, .int 0, .int 0, .int 0, .int 0, .int 0, .int 0, .ref v0, .ref v1, .ref v2, .ref v3, .ref v4, .ref v5, .ref v6, .ref v7, .ref v8, .ref v9])), (v9, .inr (3, [.ref x0, .ref x1, .ref x2, .int 0])), (v3, .inl (g.2 0, 4, .inl fa3)), (v0, .inl (g.2 0, 8, .inl u1)), (v2, .inl (g.2 0, 4, .inl u2))] H := hP
  have hD : va_D A [(h0, .inr (0, [.int 0, .int 0, .int 0, .int 0, .int 0, .int 0, .int 0, .int 0, .int 0, .int 0, .ref v0, .ref v1, .ref v2, .ref v3, .ref v4, .ref v5, .ref v6, .ref v7, .ref v8, .ref v9])), (v9, .inr (3, [.ref x0, .ref x1, .ref x2, .int 0])), (v3, .inl (g.2 0, 4, .inl fa3)), (v0, .inl (g.2 0, 8, .inl u1)), (v2, .inl (g.2 0, 4, .inl u2))] := hD
  refine W.eq (g2 := F0 m 74 ls []) rfl ?_
  refine lv_aload_n hx hb dX0_clear_74 rfl (lv_at hl 0 rfl) ?_
  refine g_get (C := RX0) (T := TX0) (N := 20) (ci := 0) (v := .ref v3) FC hKn hP i_X0 0 rfl rfl 13 (by decide) b_115 rfl dX0_clear_75 ?_
  refine lv_iconst (v := 0) hx hb dX0_clear_78 (by decide) ?_
  refine call_S (As := [.ref v3, .int 0]) (rest := []) (wr := [(h0, .inr (0, [.int 0, .int 0, .int 0, .int 0, .int 0, .int 0, .int 0, .int 0, .int 0, .int 0, .ref v0, .ref v1, .ref v2, .ref v3, .ref v4, .ref v5, .ref v6, .ref v7, .ref v8, .ref v9])), (v9, .inr (3, [.ref x0, .ref x1, .ref x2, .int 0])), (v0, .inl (g.2 0, 8, .inl u1)), (v2, .inl (g.2 0, 4, .inl u2))]) FC hKn (c_J7_fill_4 l g v3 fa3 0) m_yJ7_fill_53178 b_124 hP hD hS hA [2] [0, 1, 3, 4] rfl (by decide) rfl (by decide) (by decide) rfl hl.1 rfl (Nat.le_of_ble_eq_true rfl) dX0_clear_79 ⟨(Nat.le_of_ble_eq_true rfl), (Nat.le_of_ble_eq_true rfl)⟩ ⟨(Nat.le_of_ble_eq_true rfl), (Nat.le_of_ble_eq_true rfl)⟩ (fun u3 H locs _ hP hD hS => ?_)
  have hP : va_P g.1 vwCl [(h0, .inr (0, [.int 0, .int 0, .int 0, .int 0, .int 0, .int 0, .int 0, .int 0, .int 0, .int 0, .ref v0, .ref v1, .ref v2, .ref v3, .ref v4, .ref v5, .ref v6, .ref v7, .ref v8, .ref v9])), (v9, .inr (3, [.ref x0, .ref x1, .ref x2, .int 0])), (v0, .inl (g.2 0, 8, .inl u1)), (v2, .inl (g.2 0, 4, .inl u2)), (v3, .inl (g.2 0, 4, .inl u3))] H := hP
  have hD : va_D A [(h0, .inr (0, [.int 0, .int 0, .int 0, .int 0, .int 0, .int 0, .int 0, .int 0, .int 0, .int 0, .ref v0, .ref v1, .ref v2, .ref v3, .ref v4, .ref v5, .ref v6, .ref v7, .ref v8, .ref v9])), (v9, .inr (3, [.ref x0, .ref x1, .ref x2, .int 0])), (v0, .inl (g.2 0, 8, .inl u1)), (v2, .inl (g.2 0, 4, .inl u2)), (v3, .inl (g.2 0, 4, .inl u3))] := hD
  refine W.eq (g2 := F0 m 82 ls []) rfl ?_
  exact rt_v FX (fun k => match k with | 0 => u1 | 1 => u2 | _ => u3) rfl trivial (hP.sub [0, 1, 2, 3, 4] rfl) (hD.sub [0, 1, 2, 3, 4] (by decide) rfl) hS (Nat.le_of_ble_eq_true rfl) (Nat.le_of_ble_eq_true rfl) dX0_clear_82
set_option maxRecDepth 100000 in
set_option maxHeartbeats 4000000 in
theorem c_X9_advance (l : Launch) (g : GG) (h0 : Nat) (b0 : Nat) : Ct l g yX9_advance cX9_advance 1 none { frames := 0, cells := 0, slots := 0, locals := 0 } [.ref h0] [(h0, .inr (9, [.ref b0, .int 0, .int 0, .int 0, .int 0, .int 0]))] (S := Unit) (fun _ => none) (fun _ => True) (fun u => [(h0, .inr (9, [.ref b0, .int 0, .int 0, .int 0, .int 0, .int 0]))]) := by
  refine Ct.of (by decide) (Nat.le_of_ble_eq_true rfl) ?_
  intro p e s m below meth c A ls FX hP hD hS hl
  obtain ⟨FC, hr, hlk, hKn, hA, hnm⟩ := id FX
  have FC : CallFix p m c cX9_advance 1 s _ BIG RX9 := FC
  obtain ⟨hx, hb, hml, hown, hB⟩ := id FC
  have hl : lv_has ls 1 [(0, .ref h0)] := hl
  refine lv_aload_n hx hb dX9_advance_0 rfl (lv_at hl 0 rfl) ?_
  refine lv_aload_n hx hb dX9_advance_1 rfl (lv_at hl 0 rfl) ?_
  refine g_get (C := RX9) (T := TX9) (N := 6) (ci := 9) (v := .int 0) FC hKn hP i_X9 0 rfl rfl 4 (by decide) b_125 rfl dX9_advance_2 ?_
  refine g_put (C := RX9) (T := TX9) (N := 6) (ci := 9) (v := .int 0) FC hKn hP hD hS i_X9 tyX9 tyX9_ok nmX9 0 rfl rfl 3 (by decide) b_126 rfl rfl rfl (Nat.le_of_ble_eq_true rfl) dX9_advance_5 (fun H locs hP hD hS => ?_)
  have hP : va_P g.1 vwCl [(h0, .inr (9, [.ref b0, .int 0, .int 0, .int 0, .int 0, .int 0]))] H := hP
  have hD : va_D A [(h0, .inr (9, [.ref b0, .int 0, .int 0, .int 0, .int 0, .int 0]))] := hD
  refine lv_aload_n hx hb dX9_advance_8 rfl (lv_at hl 0 rfl) ?_
  refine g_get (C := RX9) (T := TX9) (N := 6) (ci := 9) (v := .int 0) FC hKn hP i_X9 0 rfl rfl 3 (by decide) b_126 rfl dX9_advance_9 ?_
  refine lv_aload_n hx hb dX9_advance_12 rfl (lv_at hl 0 rfl) ?_
  refine g_get (C := RX9) (T := TX9) (N := 6) (ci := 9) (v := .int 0) FC hKn hP i_X9 0 rfl rfl 1 (by decide) b_127 rfl dX9_advance_13 ?_
  refine lv_icmp_ge (tgt := 48) hx hb dX9_advance_16 (by decide) (fun _ => ?_) (fun h => absurd h (by decide))
  refine lv_aload_n hx hb dX9_advance_48 rfl (lv_at hl 0 rfl) ?_
  refine lv_aload_n hx hb dX9_advance_49 rfl (lv_at hl 0 rfl) ?_
  refine g_get (C := RX9) (T := TX9) (N := 6) (ci := 9) (v := .int 0) FC hKn hP i_X9 0 rfl rfl 3 (by decide) b_126 rfl dX9_advance_50 ?_
  refine g_put (C := RX9) (T := TX9) (N := 6) (ci := 9) (v := .int 0) FC hKn hP hD hS i_X9 tyX9 tyX9_ok nmX9 0 rfl rfl 4 (by decide) b_125 rfl rfl rfl (Nat.le_of_ble_eq_true rfl) dX9_advance_53 (fun H locs hP hD hS => ?_)
  have hP : va_P g.1 vwCl [(h0, .inr (9, [.ref b0, .int 0, .int 0, .int 0, .int 0, .int 0]))] H := hP
  have hD : va_D A [(h0, .inr (9, [.ref b0, .int 0, .int 0, .int 0, .int 0, .int 0]))] := hD
  refine lv_aload_n hx hb dX9_advance_56 rfl (lv_at hl 0 rfl) ?_
  refine lv_aload_n hx hb dX9_advance_57 rfl (lv_at hl 0 rfl) ?_
  refine g_get (C := RX9) (T := TX9) (N := 6) (ci := 9) (v := .int 0) FC hKn hP i_X9 0 rfl rfl 3 (by decide) b_126 rfl dX9_advance_58 ?_
  refine lv_aload_n hx hb dX9_advance_61 rfl (lv_at hl 0 rfl) ?_
  refine g_get (C := RX9) (T := TX9) (N := 6) (ci := 9) (v := .int 0) FC hKn hP i_X9 0 rfl rfl 1 (by decide) b_127 rfl dX9_advance_62 ?_
  refine lv_icmp_ge (tgt := 83) hx hb dX9_advance_65 (by decide) (fun _ => ?_) (fun h => absurd h (by decide))
  refine lv_iconst (v := 0) hx hb dX9_advance_83 (by decide) ?_
  refine g_put (C := RX9) (T := TX9) (N := 6) (ci := 9) (v := .int 0) FC hKn hP hD hS i_X9 tyX9 tyX9_ok nmX9 0 rfl rfl 2 (by decide) b_128 rfl rfl rfl (Nat.le_of_ble_eq_true rfl) dX9_advance_84 (fun H locs hP hD hS => ?_)
  have hP : va_P g.1 vwCl [(h0, .inr (9, [.ref b0, .int 0, .int 0, .int 0, .int 0, .int 0]))] H := hP
  have hD : va_D A [(h0, .inr (9, [.ref b0, .int 0, .int 0, .int 0, .int 0, .int 0]))] := hD
  refine lv_aload_n hx hb dX9_advance_87 rfl (lv_at hl 0 rfl) ?_
  refine lv_iconst (v := 0) hx hb dX9_advance_88 (by decide) ?_
  refine g_put (C := RX9) (T := TX9) (N := 6) (ci := 9) (v := .int 0) FC hKn hP hD hS i_X9 tyX9 tyX9_ok nmX9 0 rfl rfl 5 (by decide) b_129 rfl rfl rfl (Nat.le_of_ble_eq_true rfl) dX9_advance_89 (fun H locs hP hD hS => ?_)
  have hP : va_P g.1 vwCl [(h0, .inr (9, [.ref b0, .int 0, .int 0, .int 0, .int 0, .int 0]))] H := hP
  have hD : va_D A [(h0, .inr (9, [.ref b0, .int 0, .int 0, .int 0, .int 0, .int 0]))] := hD
  refine lv_aload_n hx hb dX9_advance_92 rfl (lv_at hl 0 rfl) ?_
  refine g_get (C := RX9) (T := TX9) (N := 6) (ci := 9) (v := .int 0) FC hKn hP i_X9 0 rfl rfl 2 (by decide) b_128 rfl dX9_advance_93 ?_
  refine lv_iconst (v := 3) hx hb dX9_advance_96 (by decide) ?_
  refine lv_icmp_eq (tgt := 108) hx hb dX9_advance_97 (by decide) (fun h => absurd h (by decide)) (fun _ => ?_)
  refine lv_aload_n hx hb dX9_advance_100 rfl (lv_at hl 0 rfl) ?_
  refine g_get (C := RX9) (T := TX9) (N := 6) (ci := 9) (v := .int 0) FC hKn hP i_X9 0 rfl rfl 2 (by decide) b_128 rfl dX9_advance_101 ?_
  refine lv_iconst (v := 4) hx hb dX9_advance_104 (by decide) ?_
  refine lv_icmp_ne (tgt := 119) hx hb dX9_advance_105 (by decide) (fun _ => ?_) (fun h => absurd h (by decide))
  refine lv_aload_n hx hb dX9_advance_119 rfl (lv_at hl 0 rfl) ?_
  refine g_get (C := RX9) (T := TX9) (N := 6) (ci := 9) (v := .int 0) FC hKn hP i_X9 0 rfl rfl 4 (by decide) b_125 rfl dX9_advance_120 ?_
  refine lv_aload_n hx hb dX9_advance_123 rfl (lv_at hl 0 rfl) ?_
  refine g_get (C := RX9) (T := TX9) (N := 6) (ci := 9) (v := .int 0) FC hKn hP i_X9 0 rfl rfl 1 (by decide) b_127 rfl dX9_advance_124 ?_
  refine lv_icmp_ge (tgt := 199) hx hb dX9_advance_127 (by decide) (fun _ => ?_) (fun h => absurd h (by decide))
  exact rt_v FX () rfl trivial (hP.sub [0] rfl) (hD.sub [0] (by decide) rfl) hS (Nat.le_of_ble_eq_true rfl) (Nat.le_of_ble_eq_true rfl) dX9_advance_199
set_option maxRecDepth 100000 in
set_option maxHeartbeats 4000000 in
theorem c_X9_rewind (l : Launch) (g : GG) (h0 : Nat) (b0 : Nat) : Ct l g yX9_rewind cX9_rewind 1 none { frames := 1, cells := 0, slots := 0, locals := 20 } [.ref h0] [(h0, .inr (9, [.ref b0, .int 0, .int 0, .int 0, .int 0, .int 0]))] (S := Unit) (fun _ => none) (fun _ => True) (fun u => [(h0, .inr (9, [.ref b0, .int 0, .int 0, .int 0, .int 0, .int 0]))]) := by
  refine Ct.of (by decide) (Nat.le_of_ble_eq_true rfl) ?_
  intro p e s m below meth c A ls FX hP hD hS hl
  obtain ⟨FC, hr, hlk, hKn, hA, hnm⟩ := id FX
  have FC : CallFix p m c cX9_rewind 1 s _ BIG RX9 := FC
  obtain ⟨hx, hb, hml, hown, hB⟩ := id FC
  have hl : lv_has ls 1 [(0, .ref h0)] := hl
  refine lv_aload_n hx hb dX9_rewind_0 rfl (lv_at hl 0 rfl) ?_
  refine lv_iconst (v := 0) hx hb dX9_rewind_1 (by decide) ?_
  refine g_put (C := RX9) (T := TX9) (N := 6) (ci := 9) (v := .int 0) FC hKn hP hD hS i_X9 tyX9 tyX9_ok nmX9 0 rfl rfl 4 (by decide) b_125 rfl rfl rfl (Nat.le_of_ble_eq_true rfl) dX9_rewind_2 (fun H locs hP hD hS => ?_)
  have hP : va_P g.1 vwCl [(h0, .inr (9, [.ref b0, .int 0, .int 0, .int 0, .int 0, .int 0]))] H := hP
  have hD : va_D A [(h0, .inr (9, [.ref b0, .int 0, .int 0, .int 0, .int 0, .int 0]))] := hD
  refine lv_aload_n hx hb dX9_rewind_5 rfl (lv_at hl 0 rfl) ?_
  refine call_V (As := []) (rest := []) (wr := []) FC hKn (c_X9_advance l g h0 b0) m_yX9_advance b_130 (ci := 9) rfl rfl rfl hP hD hS hA [0] [] rfl (by decide) rfl (by decide) (by decide) rfl hl.1 rfl (Nat.le_of_ble_eq_true rfl) dX9_rewind_6 ⟨(Nat.le_of_ble_eq_true rfl), (Nat.le_of_ble_eq_true rfl)⟩ ⟨(Nat.le_of_ble_eq_true rfl), (Nat.le_of_ble_eq_true rfl)⟩ (fun u1 H locs _ hP hD hS => ?_)
  have hP : va_P g.1 vwCl [(h0, .inr (9, [.ref b0, .int 0, .int 0, .int 0, .int 0, .int 0]))] H := hP
  have hD : va_D A [(h0, .inr (9, [.ref b0, .int 0, .int 0, .int 0, .int 0, .int 0]))] := hD
  refine W.eq (g2 := F0 m 9 ls []) rfl ?_
  exact rt_v FX () rfl trivial (hP.sub [0] rfl) (hD.sub [0] (by decide) rfl) hS (Nat.le_of_ble_eq_true rfl) (Nat.le_of_ble_eq_true rfl) dX9_rewind_9
set_option maxRecDepth 100000 in
set_option maxHeartbeats 4000000 in
theorem c_X9_put_0 (l : Launch) (g : GG) (h0 : Nat) (b0 : Nat) (ff : Nat → Int32) (p1 : Int32) : Ct l g yX9_put cX9_put 3 none { frames := 0, cells := 0, slots := 0, locals := 0 } [.ref h0, .int p1] [(h0, .inr (9, [.ref b0, .int 0, .int 0, .int 0, .int 0, .int 0])), (b0, .inl (g.2 1, 900, .inl ff))] (S := Nat → Int32) (fun _ => none) (fun _ => True) (fun u => [(h0, .inr (9, [.ref b0, .int 4, .int 0, .int 0, .int 0, .int 0])), (b0, .inl (g.2 1, 900, .inl u))]) := by
  refine Ct.of (by decide) (Nat.le_of_ble_eq_true rfl) ?_
  intro p e s m below meth c A ls FX hP hD hS hl
  obtain ⟨FC, hr, hlk, hKn, hA, hnm⟩ := id FX
  have FC : CallFix p m c cX9_put 3 s _ BIG RX9 := FC
  obtain ⟨hx, hb, hml, hown, hB⟩ := id FC
  have hl : lv_has ls 3 [(0, .ref h0), (1, .int p1)] := hl
  refine lv_bipush (v := 24) hx hb dX9_put_0 (by decide) ?_
  refine lv_istore_n (lv' := [(2, .int 24), (0, .ref h0), (1, .int p1)]) hx hb dX9_put_2 rfl hl (by decide) rfl (fun ls hl => ?_)
  refine lv_iload_n hx hb dX9_put_3 rfl (lv_at hl 0 rfl) ?_
  refine lv_if_lt (tgt := 46) hx hb dX9_put_4 (by decide) (fun h => absurd h (by decide)) (fun _ => ?_)
  refine lv_aload_n hx hb dX9_put_7 rfl (lv_at hl 1 rfl) ?_
  refine g_get (C := RX9) (T := TX9) (N := 6) (ci := 9) (v := .int 0) FC hKn hP i_X9 0 rfl rfl 1 (by decide) b_127 rfl dX9_put_8 ?_
  refine lv_sipush (v := 900) hx hb dX9_put_11 (by decide) ?_
  refine lv_icmp_ge (tgt := 46) hx hb dX9_put_14 (by decide) (fun h => absurd h (by decide)) (fun _ => ?_)
  refine lv_aload_n hx hb dX9_put_17 rfl (lv_at hl 1 rfl) ?_
  refine g_get (C := RX9) (T := TX9) (N := 6) (ci := 9) (v := .ref b0) FC hKn hP i_X9 0 rfl rfl 0 (by decide) b_131 rfl dX9_put_18 ?_
  refine lv_aload_n hx hb dX9_put_21 rfl (lv_at hl 1 rfl) ?_
  refine g_get (C := RX9) (T := TX9) (N := 6) (ci := 9) (v := .int 0) FC hKn hP i_X9 0 rfl rfl 1 (by decide) b_127 rfl dX9_put_22 ?_
  refine lv_iload_n hx hb dX9_put_25 rfl (lv_at hl 2 rfl) ?_
  refine lv_iload_n hx hb dX9_put_26 rfl (lv_at hl 0 rfl) ?_
  refine lv_ishr hx hb dX9_put_27 ?_
  refine lv_topi (fun z1 e_z1 => ?_)
  refine lv_i2b hx hb dX9_put_28 rfl ?_
  refine lv_topi (fun z2 e_z2 => ?_)
  refine va_bast hx hb hKn.1 hP hD hS 1 1 rfl rfl (by unfold vp_in; decide) dX9_put_29 (fun H locs hP hD hS => ?_)
  have hP : va_P g.1 vwCl [(h0, .inr (9, [.ref b0, .int 0, .int 0, .int 0, .int 0, .int 0])), (b0, .inl (g.2 1, 900, .inl (upd ff ((0 : Int32).toNatClampNeg) (vp_nar .byte z2))))] H := hP
  have hD : va_D A [(h0, .inr (9, [.ref b0, .int 0, .int 0, .int 0, .int 0, .int 0])), (b0, .inl (g.2 1, 900, .inl (upd ff ((0 : Int32).toNatClampNeg) (vp_nar .byte z2))))] := hD
  generalize (upd ff ((0 : Int32).toNatClampNeg) (vp_nar .byte z2) : Nat → Int32) = f3 at hP hD
  refine lv_aload_n hx hb dX9_put_30 rfl (lv_at hl 1 rfl) ?_
  refine lv_dup hx hb dX9_put_31 rfl ?_
  refine g_get (C := RX9) (T := TX9) (N := 6) (ci := 9) (v := .int 0) FC hKn hP i_X9 0 rfl rfl 1 (by decide) b_127 rfl dX9_put_32 ?_
  refine lv_iconst (v := 1) hx hb dX9_put_35 (by decide) ?_
  refine lv_iadd hx hb dX9_put_36 ?_
  refine tp_i (v := 1) (by decide) ?_
  refine g_put (C := RX9) (T := TX9) (N := 6) (ci := 9) (v := .int 1) FC hKn hP hD hS i_X9 tyX9 tyX9_ok nmX9 0 rfl rfl 1 (by decide) b_127 rfl rfl rfl (Nat.le_of_ble_eq_true rfl) dX9_put_37 (fun H locs hP hD hS => ?_)
  have hP : va_P g.1 vwCl [(h0, .inr (9, [.ref b0, .int 1, .int 0, .int 0, .int 0, .int 0])), (b0, .inl (g.2 1, 900, .inl f3))] H := hP
  have hD : va_D A [(h0, .inr (9, [.ref b0, .int 1, .int 0, .int 0, .int 0, .int 0])), (b0, .inl (g.2 1, 900, .inl f3))] := hD
  refine lv_iinc (v := 16) (lv' := [(2, .int 16), (0, .ref h0), (1, .int p1)]) hx hb dX9_put_40 hl (k := 0) rfl (by decide) (by decide) rfl (fun ls hl => ?_)
  refine lv_goto (tgt := 3) hx hb dX9_put_43 (by decide) ?_
  refine lv_iload_n hx hb dX9_put_3 rfl (lv_at hl 0 rfl) ?_
  refine lv_if_lt (tgt := 46) hx hb dX9_put_4 (by decide) (fun h => absurd h (by decide)) (fun _ => ?_)
  refine lv_aload_n hx hb dX9_put_7 rfl (lv_at hl 1 rfl) ?_
  refine g_get (C := RX9) (T := TX9) (N := 6) (ci := 9) (v := .int 1) FC hKn hP i_X9 0 rfl rfl 1 (by decide) b_127 rfl dX9_put_8 ?_
  refine lv_sipush (v := 900) hx hb dX9_put_11 (by decide) ?_
  refine lv_icmp_ge (tgt := 46) hx hb dX9_put_14 (by decide) (fun h => absurd h (by decide)) (fun _ => ?_)
  refine lv_aload_n hx hb dX9_put_17 rfl (lv_at hl 1 rfl) ?_
  refine g_get (C := RX9) (T := TX9) (N := 6) (ci := 9) (v := .ref b0) FC hKn hP i_X9 0 rfl rfl 0 (by decide) b_131 rfl dX9_put_18 ?_
  refine lv_aload_n hx hb dX9_put_21 rfl (lv_at hl 1 rfl) ?_
  refine g_get (C := RX9) (T := TX9) (N := 6) (ci := 9) (v := .int 1) FC hKn hP i_X9 0 rfl rfl 1 (by decide) b_127 rfl dX9_put_22 ?_
  refine lv_iload_n hx hb dX9_put_25 rfl (lv_at hl 2 rfl) ?_
  refine lv_iload_n hx hb dX9_put_26 rfl (lv_at hl 0 rfl) ?_
  refine lv_ishr hx hb dX9_put_27 ?_
  refine lv_topi (fun z4 e_z4 => ?_)
  refine lv_i2b hx hb dX9_put_28 rfl ?_
  refine lv_topi (fun z5 e_z5 => ?_)
  refine va_bast hx hb hKn.1 hP hD hS 1 1 rfl rfl (by unfold vp_in; decide) dX9_put_29 (fun H locs hP hD hS => ?_)
  have hP : va_P g.1 vwCl [(h0, .inr (9, [.ref b0, .int 1, .int 0, .int 0, .int 0, .int 0])), (b0, .inl (g.2 1, 900, .inl (upd f3 ((1 : Int32).toNatClampNeg) (vp_nar .byte z5))))] H := hP
  have hD : va_D A [(h0, .inr (9, [.ref b0, .int 1, .int 0, .int 0, .int 0, .int 0])), (b0, .inl (g.2 1, 900, .inl (upd f3 ((1 : Int32).toNatClampNeg) (vp_nar .byte z5))))] := hD
  generalize (upd f3 ((1 : Int32).toNatClampNeg) (vp_nar .byte z5) : Nat → Int32) = f6 at hP hD
  refine lv_aload_n hx hb dX9_put_30 rfl (lv_at hl 1 rfl) ?_
  refine lv_dup hx hb dX9_put_31 rfl ?_
  refine g_get (C := RX9) (T := TX9) (N := 6) (ci := 9) (v := .int 1) FC hKn hP i_X9 0 rfl rfl 1 (by decide) b_127 rfl dX9_put_32 ?_
  refine lv_iconst (v := 1) hx hb dX9_put_35 (by decide) ?_
  refine lv_iadd hx hb dX9_put_36 ?_
  refine tp_i (v := 2) (by decide) ?_
  refine g_put (C := RX9) (T := TX9) (N := 6) (ci := 9) (v := .int 2) FC hKn hP hD hS i_X9 tyX9 tyX9_ok nmX9 0 rfl rfl 1 (by decide) b_127 rfl rfl rfl (Nat.le_of_ble_eq_true rfl) dX9_put_37 (fun H locs hP hD hS => ?_)
  have hP : va_P g.1 vwCl [(h0, .inr (9, [.ref b0, .int 2, .int 0, .int 0, .int 0, .int 0])), (b0, .inl (g.2 1, 900, .inl f6))] H := hP
  have hD : va_D A [(h0, .inr (9, [.ref b0, .int 2, .int 0, .int 0, .int 0, .int 0])), (b0, .inl (g.2 1, 900, .inl f6))] := hD
  refine lv_iinc (v := 8) (lv' := [(2, .int 8), (0, .ref h0), (1, .int p1)]) hx hb dX9_put_40 hl (k := 0) rfl (by decide) (by decide) rfl (fun ls hl => ?_)
  refine lv_goto (tgt := 3) hx hb dX9_put_43 (by decide) ?_
  refine lv_iload_n hx hb dX9_put_3 rfl (lv_at hl 0 rfl) ?_
  refine lv_if_lt (tgt := 46) hx hb dX9_put_4 (by decide) (fun h => absurd h (by decide)) (fun _ => ?_)
  refine lv_aload_n hx hb dX9_put_7 rfl (lv_at hl 1 rfl) ?_
  refine g_get (C := RX9) (T := TX9) (N := 6) (ci := 9) (v := .int 2) FC hKn hP i_X9 0 rfl rfl 1 (by decide) b_127 rfl dX9_put_8 ?_
  refine lv_sipush (v := 900) hx hb dX9_put_11 (by decide) ?_
  refine lv_icmp_ge (tgt := 46) hx hb dX9_put_14 (by decide) (fun h => absurd h (by decide)) (fun _ => ?_)
  refine lv_aload_n hx hb dX9_put_17 rfl (lv_at hl 1 rfl) ?_
  refine g_get (C := RX9) (T := TX9) (N := 6) (ci := 9) (v := .ref b0) FC hKn hP i_X9 0 rfl rfl 0 (by decide) b_131 rfl dX9_put_18 ?_
  refine lv_aload_n hx hb dX9_put_21 rfl (lv_at hl 1 rfl) ?_
  refine g_get (C := RX9) (T := TX9) (N := 6) (ci := 9) (v := .int 2) FC hKn hP i_X9 0 rfl rfl 1 (by decide) b_127 rfl dX9_put_22 ?_
  refine lv_iload_n hx hb dX9_put_25 rfl (lv_at hl 2 rfl) ?_
  refine lv_iload_n hx hb dX9_put_26 rfl (lv_at hl 0 rfl) ?_
  refine lv_ishr hx hb dX9_put_27 ?_
  refine lv_topi (fun z7 e_z7 => ?_)
  refine lv_i2b hx hb dX9_put_28 rfl ?_
  refine lv_topi (fun z8 e_z8 => ?_)
  refine va_bast hx hb hKn.1 hP hD hS 1 1 rfl rfl (by unfold vp_in; decide) dX9_put_29 (fun H locs hP hD hS => ?_)
  have hP : va_P g.1 vwCl [(h0, .inr (9, [.ref b0, .int 2, .int 0, .int 0, .int 0, .int 0])), (b0, .inl (g.2 1, 900, .inl (upd f6 ((2 : Int32).toNatClampNeg) (vp_nar .byte z8))))] H := hP
  have hD : va_D A [(h0, .inr (9, [.ref b0, .int 2, .int 0, .int 0, .int 0, .int 0])), (b0, .inl (g.2 1, 900, .inl (upd f6 ((2 : Int32).toNatClampNeg) (vp_nar .byte z8))))] := hD
  generalize (upd f6 ((2 : Int32).toNatClampNeg) (vp_nar .byte z8) : Nat → Int32) = f9 at hP hD
  refine lv_aload_n hx hb dX9_put_30 rfl (lv_at hl 1 rfl) ?_
  refine lv_dup hx hb dX9_put_31 rfl ?_
  refine g_get (C := RX9) (T := TX9) (N := 6) (ci := 9) (v := .int 2) FC hKn hP i_X9 0 rfl rfl 1 (by decide) b_127 rfl dX9_put_32 ?_
  refine lv_iconst (v := 1) hx hb dX9_put_35 (by decide) ?_
  refine lv_iadd hx hb dX9_put_36 ?_
  refine tp_i (v := 3) (by decide) ?_
  refine g_put (C := RX9) (T := TX9) (N := 6) (ci := 9) (v := .int 3) FC hKn hP hD hS i_X9 tyX9 tyX9_ok nmX9 0 rfl rfl 1 (by decide) b_127 rfl rfl rfl (Nat.le_of_ble_eq_true rfl) dX9_put_37 (fun H locs hP hD hS => ?_)
  have hP : va_P g.1 vwCl [(h0, .inr (9, [.ref b0, .int 3, .int 0, .int 0, .int 0, .int 0])), (b0, .inl (g.2 1, 900, .inl f9))] H := hP
  have hD : va_D A [(h0, .inr (9, [.ref b0, .int 3, .int 0, .int 0, .int 0, .int 0])), (b0, .inl (g.2 1, 900, .inl f9))] := hD
  refine lv_iinc (v := 0) (lv' := [(2, .int 0), (0, .ref h0), (1, .int p1)]) hx hb dX9_put_40 hl (k := 0) rfl (by decide) (by decide) rfl (fun ls hl => ?_)
  refine lv_goto (tgt := 3) hx hb dX9_put_43 (by decide) ?_
  refine lv_iload_n hx hb dX9_put_3 rfl (lv_at hl 0 rfl) ?_
  refine lv_if_lt (tgt := 46) hx hb dX9_put_4 (by decide) (fun h => absurd h (by decide)) (fun _ => ?_)
  refine lv_aload_n hx hb dX9_put_7 rfl (lv_at hl 1 rfl) ?_
  refine g_get (C := RX9) (T := TX9) (N := 6) (ci := 9) (v := .int 3) FC hKn hP i_X9 0 rfl rfl 1 (by decide) b_127 rfl dX9_put_8 ?_
  refine lv_sipush (v := 900) hx hb dX9_put_11 (by decide) ?_
  refine lv_icmp_ge (tgt := 46) hx hb dX9_put_14 (by decide) (fun h => absurd h (by decide)) (fun _ => ?_)
  refine lv_aload_n hx hb dX9_put_17 rfl (lv_at hl 1 rfl) ?_
  refine g_get (C := RX9) (T := TX9) (N := 6) (ci := 9) (v := .ref b0) FC hKn hP i_X9 0 rfl rfl 0 (by decide) b_131 rfl dX9_put_18 ?_
  refine lv_aload_n hx hb dX9_put_21 rfl (lv_at hl 1 rfl) ?_
  refine g_get (C := RX9) (T := TX9) (N := 6) (ci := 9) (v := .int 3) FC hKn hP i_X9 0 rfl rfl 1 (by decide) b_127 rfl dX9_put_22 ?_
  refine lv_iload_n hx hb dX9_put_25 rfl (lv_at hl 2 rfl) ?_
  refine lv_iload_n hx hb dX9_put_26 rfl (lv_at hl 0 rfl) ?_
  refine lv_ishr hx hb dX9_put_27 ?_
  refine lv_topi (fun z10 e_z10 => ?_)
  refine lv_i2b hx hb dX9_put_28 rfl ?_
  refine lv_topi (fun z11 e_z11 => ?_)
  refine va_bast hx hb hKn.1 hP hD hS 1 1 rfl rfl (by unfold vp_in; decide) dX9_put_29 (fun H locs hP hD hS => ?_)
  have hP : va_P g.1 vwCl [(h0, .inr (9, [.ref b0, .int 3, .int 0, .int 0, .int 0, .int 0])), (b0, .inl (g.2 1, 900, .inl (upd f9 ((3 : Int32).toNatClampNeg) (vp_nar .byte z11))))] H := hP
  have hD : va_D A [(h0, .inr (9, [.ref b0, .int 3, .int 0, .int 0, .int 0, .int 0])), (b0, .inl (g.2 1, 900, .inl (upd f9 ((3 : Int32).toNatClampNeg) (vp_nar .byte z11))))] := hD
  generalize (upd f9 ((3 : Int32).toNatClampNeg) (vp_nar .byte z11) : Nat → Int32) = f12 at hP hD
  refine lv_aload_n hx hb dX9_put_30 rfl (lv_at hl 1 rfl) ?_
  refine lv_dup hx hb dX9_put_31 rfl ?_
  refine g_get (C := RX9) (T := TX9) (N := 6) (ci := 9) (v := .int 3) FC hKn hP i_X9 0 rfl rfl 1 (by decide) b_127 rfl dX9_put_32 ?_
  refine lv_iconst (v := 1) hx hb dX9_put_35 (by decide) ?_
  refine lv_iadd hx hb dX9_put_36 ?_
  refine tp_i (v := 4) (by decide) ?_
  refine g_put (C := RX9) (T := TX9) (N := 6) (ci := 9) (v := .int 4) FC hKn hP hD hS i_X9 tyX9 tyX9_ok nmX9 0 rfl rfl 1 (by decide) b_127 rfl rfl rfl (Nat.le_of_ble_eq_true rfl) dX9_put_37 (fun H locs hP hD hS => ?_)
  have hP : va_P g.1 vwCl [(h0, .inr (9, [.ref b0, .int 4, .int 0, .int 0, .int 0, .int 0])), (b0, .inl (g.2 1, 900, .inl f12))] H := hP
  have hD : va_D A [(h0, .inr (9, [.ref b0, .int 4, .int 0, .int 0, .int 0, .int 0])), (b0, .inl (g.2 1, 900, .inl f12))] := hD
  refine lv_iinc (v := -8) (lv' := [(2, .int (-8)), (0, .ref h0), (1, .int p1)]) hx hb dX9_put_40 hl (k := 0) rfl (by decide) (by decide) rfl (fun ls hl => ?_)
  refine lv_goto (tgt := 3) hx hb dX9_put_43 (by decide) ?_
  refine lv_iload_n hx hb dX9_put_3 rfl (lv_at hl 0 rfl) ?_
  refine lv_if_lt (tgt := 46) hx hb dX9_put_4 (by decide) (fun _ => ?_) (fun h => absurd h (by decide))
  exact rt_v FX f12 rfl trivial (hP.sub [0, 1] rfl) (hD.sub [0, 1] (by decide) rfl) hS (Nat.le_of_ble_eq_true rfl) (Nat.le_of_ble_eq_true rfl) dX9_put_46
set_option maxRecDepth 100000 in
set_option maxHeartbeats 4000000 in
theorem c_X9_put_1 (l : Launch) (g : GG) (h0 : Nat) (b0 : Nat) (ff : Nat → Int32) (p1 : Int32) : Ct l g yX9_put cX9_put 3 none { frames := 0, cells := 0, slots := 0, locals := 0 } [.ref h0, .int p1] [(h0, .inr (9, [.ref b0, .int 4, .int 0, .int 0, .int 0, .int 0])), (b0, .inl (g.2 1, 900, .inl ff))] (S := Nat → Int32) (fun _ => none) (fun _ => True) (fun u => [(h0, .inr (9, [.ref b0, .int 8, .int 0, .int 0, .int 0, .int 0])), (b0, .inl (g.2 1, 900, .inl u))]) := by
  refine Ct.of (by decide) (Nat.le_of_ble_eq_true rfl) ?_
  intro p e s m below meth c A ls FX hP hD hS hl
  obtain ⟨FC, hr, hlk, hKn, hA, hnm⟩ := id FX
  have FC : CallFix p m c cX9_put 3 s _ BIG RX9 := FC
  obtain ⟨hx, hb, hml, hown, hB⟩ := id FC
  have hl : lv_has ls 3 [(0, .ref h0), (1, .int p1)] := hl
  refine lv_bipush (v := 24) hx hb dX9_put_0 (by decide) ?_
  refine lv_istore_n (lv' := [(2, .int 24), (0, .ref h0), (1, .int p1)]) hx hb dX9_put_2 rfl hl (by decide) rfl (fun ls hl => ?_)
  refine lv_iload_n hx hb dX9_put_3 rfl (lv_at hl 0 rfl) ?_
  refine lv_if_lt (tgt := 46) hx hb dX9_put_4 (by decide) (fun h => absurd h (by decide)) (fun _ => ?_)
  refine lv_aload_n hx hb dX9_put_7 rfl (lv_at hl 1 rfl) ?_
  refine g_get (C := RX9) (T := TX9) (N := 6) (ci := 9) (v := .int 4) FC hKn hP i_X9 0 rfl rfl 1 (by decide) b_127 rfl dX9_put_8 ?_
  refine lv_sipush (v := 900) hx hb dX9_put_11 (by decide) ?_
  refine lv_icmp_ge (tgt := 46) hx hb dX9_put_14 (by decide) (fun h => absurd h (by decide)) (fun _ => ?_)
  refine lv_aload_n hx hb dX9_put_17 rfl (lv_at hl 1 rfl) ?_
  refine g_get (C := RX9) (T := TX9) (N := 6) (ci := 9) (v := .ref b0) FC hKn hP i_X9 0 rfl rfl 0 (by decide) b_131 rfl dX9_put_18 ?_
  refine lv_aload_n hx hb dX9_put_21 rfl (lv_at hl 1 rfl) ?_
  refine g_get (C := RX9) (T := TX9) (N := 6) (ci := 9) (v := .int 4) FC hKn hP i_X9 0 rfl rfl 1 (by decide) b_127 rfl dX9_put_22 ?_
  refine lv_iload_n hx hb dX9_put_25 rfl (lv_at hl 2 rfl) ?_
  refine lv_iload_n hx hb dX9_put_26 rfl (lv_at hl 0 rfl) ?_
  refine lv_ishr hx hb dX9_put_27 ?_
  refine lv_topi (fun z1 e_z1 => ?_)
  refine lv_i2b hx hb dX9_put_28 rfl ?_
  refine lv_topi (fun z2 e_z2 => ?_)
  refine va_bast hx hb hKn.1 hP hD hS 1 1 rfl rfl (by unfold vp_in; decide) dX9_put_29 (fun H locs hP hD hS => ?_)
  have hP : va_P g.1 vwCl [(h0, .inr (9, [.ref b0, .int 4, .int 0, .int 0, .int 0, .int 0])), (b0, .inl (g.2 1, 900, .inl (upd ff ((4 : Int32).toNatClampNeg) (vp_nar .byte z2))))] H := hP
  have hD : va_D A [(h0, .inr (9, [.ref b0, .int 4, .int 0, .int 0, .int 0, .int 0])), (b0, .inl (g.2 1, 900, .inl (upd ff ((4 : Int32).toNatClampNeg) (vp_nar .byte z2))))] := hD
  generalize (upd ff ((4 : Int32).toNatClampNeg) (vp_nar .byte z2) : Nat → Int32) = f3 at hP hD
  refine lv_aload_n hx hb dX9_put_30 rfl (lv_at hl 1 rfl) ?_
  refine lv_dup hx hb dX9_put_31 rfl ?_
  refine g_get (C := RX9) (T := TX9) (N := 6) (ci := 9) (v := .int 4) FC hKn hP i_X9 0 rfl rfl 1 (by decide) b_127 rfl dX9_put_32 ?_
  refine lv_iconst (v := 1) hx hb dX9_put_35 (by decide) ?_
  refine lv_iadd hx hb dX9_put_36 ?_
  refine tp_i (v := 5) (by decide) ?_
  refine g_put (C := RX9) (T := TX9) (N := 6) (ci := 9) (v := .int 5) FC hKn hP hD hS i_X9 tyX9 tyX9_ok nmX9 0 rfl rfl 1 (by decide) b_127 rfl rfl rfl (Nat.le_of_ble_eq_true rfl) dX9_put_37 (fun H locs hP hD hS => ?_)
  have hP : va_P g.1 vwCl [(h0, .inr (9, [.ref b0, .int 5, .int 0, .int 0, .int 0, .int 0])), (b0, .inl (g.2 1, 900, .inl f3))] H := hP
  have hD : va_D A [(h0, .inr (9, [.ref b0, .int 5, .int 0, .int 0, .int 0, .int 0])), (b0, .inl (g.2 1, 900, .inl f3))] := hD
  refine lv_iinc (v := 16) (lv' := [(2, .int 16), (0, .ref h0), (1, .int p1)]) hx hb dX9_put_40 hl (k := 0) rfl (by decide) (by decide) rfl (fun ls hl => ?_)
  refine lv_goto (tgt := 3) hx hb dX9_put_43 (by decide) ?_
  refine lv_iload_n hx hb dX9_put_3 rfl (lv_at hl 0 rfl) ?_
  refine lv_if_lt (tgt := 46) hx hb dX9_put_4 (by decide) (fun h => absurd h (by decide)) (fun _ => ?_)
  refine lv_aload_n hx hb dX9_put_7 rfl (lv_at hl 1 rfl) ?_
  refine g_get (C := RX9) (T := TX9) (N := 6) (ci := 9) (v := .int 5) FC hKn hP i_X9 0 rfl rfl 1 (by decide) b_127 rfl dX9_put_8 ?_
  refine lv_sipush (v := 900) hx hb dX9_put_11 (by decide) ?_
  refine lv_icmp_ge (tgt := 46) hx hb dX9_put_14 (by decide) (fun h => absurd h (by decide)) (fun _ => ?_)
  refine lv_aload_n hx hb dX9_put_17 rfl (lv_at hl 1 rfl) ?_
  refine g_get (C := RX9) (T := TX9) (N := 6) (ci := 9) (v := .ref b0) FC hKn hP i_X9 0 rfl rfl 0 (by decide) b_131 rfl dX9_put_18 ?_
  refine lv_aload_n hx hb dX9_put_21 rfl (lv_at hl 1 rfl) ?_
  refine g_get (C := RX9) (T := TX9) (N := 6) (ci := 9) (v := .int 5) FC hKn hP i_X9 0 rfl rfl 1 (by decide) b_127 rfl dX9_put_22 ?_
  refine lv_iload_n hx hb dX9_put_25 rfl (lv_at hl 2 rfl) ?_
  refine lv_iload_n hx hb dX9_put_26 rfl (lv_at hl 0 rfl) ?_
  refine lv_ishr hx hb dX9_put_27 ?_
  refine lv_topi (fun z4 e_z4 => ?_)
  refine lv_i2b hx hb dX9_put_28 rfl ?_
  refine lv_topi (fun z5 e_z5 => ?_)
  refine va_bast hx hb hKn.1 hP hD hS 1 1 rfl rfl (by unfold vp_in; decide) dX9_put_29 (fun H locs hP hD hS => ?_)
  have hP : va_P g.1 vwCl [(h0, .inr (9, [.ref b0, .int 5, .int 0, .int 0, .int 0, .int 0])), (b0, .inl (g.2 1, 900, .inl (upd f3 ((5 : Int32).toNatClampNeg) (vp_nar .byte z5))))] H := hP
  have hD : va_D A [(h0, .inr (9, [.ref b0, .int 5, .int 0, .int 0, .int 0, .int 0])), (b0, .inl (g.2 1, 900, .inl (upd f3 ((5 : Int32).toNatClampNeg) (vp_nar .byte z5))))] := hD
  generalize (upd f3 ((5 : Int32).toNatClampNeg) (vp_nar .byte z5) : Nat → Int32) = f6 at hP hD
  refine lv_aload_n hx hb dX9_put_30 rfl (lv_at hl 1 rfl) ?_
  refine lv_dup hx hb dX9_put_31 rfl ?_
  refine g_get (C := RX9) (T := TX9) (N := 6) (ci := 9) (v := .int 5) FC hKn hP i_X9 0 rfl rfl 1 (by decide) b_127 rfl dX9_put_32 ?_
  refine lv_iconst (v := 1) hx hb dX9_put_35 (by decide) ?_
  refine lv_iadd hx hb dX9_put_36 ?_
  refine tp_i (v := 6) (by decide) ?_
  refine g_put (C := RX9) (T := TX9) (N := 6) (ci := 9) (v := .int 6) FC hKn hP hD hS i_X9 tyX9 tyX9_ok nmX9 0 rfl rfl 1 (by decide) b_127 rfl rfl rfl (Nat.le_of_ble_eq_true rfl) dX9_put_37 (fun H locs hP hD hS => ?_)
  have hP : va_P g.1 vwCl [(h0, .inr (9, [.ref b0, .int 6, .int 0, .int 0, .int 0, .int 0])), (b0, .inl (g.2 1, 900, .inl f6))] H := hP
  have hD : va_D A [(h0, .inr (9, [.ref b0, .int 6, .int 0, .int 0, .int 0, .int 0])), (b0, .inl (g.2 1, 900, .inl f6))] := hD
  refine lv_iinc (v := 8) (lv' := [(2, .int 8), (0, .ref h0), (1, .int p1)]) hx hb dX9_put_40 hl (k := 0) rfl (by decide) (by decide) rfl (fun ls hl => ?_)
  refine lv_goto (tgt := 3) hx hb dX9_put_43 (by decide) ?_
  refine lv_iload_n hx hb dX9_put_3 rfl (lv_at hl 0 rfl) ?_
  refine lv_if_lt (tgt := 46) hx hb dX9_put_4 (by decide) (fun h => absurd h (by decide)) (fun _ => ?_)
  refine lv_aload_n hx hb dX9_put_7 rfl (lv_at hl 1 rfl) ?_
  refine g_get (C := RX9) (T := TX9) (N := 6) (ci := 9) (v := .int 6) FC hKn hP i_X9 0 rfl rfl 1 (by decide) b_127 rfl dX9_put_8 ?_
  refine lv_sipush (v := 900) hx hb dX9_put_11 (by decide) ?_
  refine lv_icmp_ge (tgt := 46) hx hb dX9_put_14 (by decide) (fun h => absurd h (by decide)) (fun _ => ?_)
  refine lv_aload_n hx hb dX9_put_17 rfl (lv_at hl 1 rfl) ?_
  refine g_get (C := RX9) (T := TX9) (N := 6) (ci := 9) (v := .ref b0) FC hKn hP i_X9 0 rfl rfl 0 (by decide) b_131 rfl dX9_put_18 ?_
  refine lv_aload_n hx hb dX9_put_21 rfl (lv_at hl 1 rfl) ?_
  refine g_get (C := RX9) (T := TX9) (N := 6) (ci := 9) (v := .int 6) FC hKn hP i_X9 0 rfl rfl 1 (by decide) b_127 rfl dX9_put_22 ?_
  refine lv_iload_n hx hb dX9_put_25 rfl (lv_at hl 2 rfl) ?_
  refine lv_iload_n hx hb dX9_put_26 rfl (lv_at hl 0 rfl) ?_
  refine lv_ishr hx hb dX9_put_27 ?_
  refine lv_topi (fun z7 e_z7 => ?_)
  refine lv_i2b hx hb dX9_put_28 rfl ?_
  refine lv_topi (fun z8 e_z8 => ?_)
  refine va_bast hx hb hKn.1 hP hD hS 1 1 rfl rfl (by unfold vp_in; decide) dX9_put_29 (fun H locs hP hD hS => ?_)
  have hP : va_P g.1 vwCl [(h0, .inr (9, [.ref b0, .int 6, .int 0, .int 0, .int 0, .int 0])), (b0, .inl (g.2 1, 900, .inl (upd f6 ((6 : Int32).toNatClampNeg) (vp_nar .byte z8))))] H := hP
  have hD : va_D A [(h0, .inr (9, [.ref b0, .int 6, .int 0, .int 0, .int 0, .int 0])), (b0, .inl (g.2 1, 900, .inl (upd f6 ((6 : Int32).toNatClampNeg) (vp_nar .byte z8))))] := hD
  generalize (upd f6 ((6 : Int32).toNatClampNeg) (vp_nar .byte z8) : Nat → Int32) = f9 at hP hD
  refine lv_aload_n hx hb dX9_put_30 rfl (lv_at hl 1 rfl) ?_
  refine lv_dup hx hb dX9_put_31 rfl ?_
  refine g_get (C := RX9) (T := TX9) (N := 6) (ci := 9) (v := .int 6) FC hKn hP i_X9 0 rfl rfl 1 (by decide) b_127 rfl dX9_put_32 ?_
  refine lv_iconst (v := 1) hx hb dX9_put_35 (by decide) ?_
  refine lv_iadd hx hb dX9_put_36 ?_
  refine tp_i (v := 7) (by decide) ?_
  refine g_put (C := RX9) (T := TX9) (N := 6) (ci := 9) (v := .int 7) FC hKn hP hD hS i_X9 tyX9 tyX9_ok nmX9 0 rfl rfl 1 (by decide) b_127 rfl rfl rfl (Nat.le_of_ble_eq_true rfl) dX9_put_37 (fun H locs hP hD hS => ?_)
  have hP : va_P g.1 vwCl [(h0, .inr (9, [.ref b0, .int 7, .int 0, .int 0, .int 0, .int 0])), (b0, .inl (g.2 1, 900, .inl f9))] H := hP
  have hD : va_D A [(h0, .inr (9, [.ref b0, .int 7, .int 0, .int 0, .int 0, .int 0])), (b0, .inl (g.2 1, 900, .inl f9))] := hD
  refine lv_iinc (v := 0) (lv' := [(2, .int 0), (0, .ref h0), (1, .int p1)]) hx hb dX9_put_40 hl (k := 0) rfl (by decide) (by decide) rfl (fun ls hl => ?_)
  refine lv_goto (tgt := 3) hx hb dX9_put_43 (by decide) ?_
  refine lv_iload_n hx hb dX9_put_3 rfl (lv_at hl 0 rfl) ?_
  refine lv_if_lt (tgt := 46) hx hb dX9_put_4 (by decide) (fun h => absurd h (by decide)) (fun _ => ?_)
  refine lv_aload_n hx hb dX9_put_7 rfl (lv_at hl 1 rfl) ?_
  refine g_get (C := RX9) (T := TX9) (N := 6) (ci := 9) (v := .int 7) FC hKn hP i_X9 0 rfl rfl 1 (by decide) b_127 rfl dX9_put_8 ?_
  refine lv_sipush (v := 900) hx hb dX9_put_11 (by decide) ?_
  refine lv_icmp_ge (tgt := 46) hx hb dX9_put_14 (by decide) (fun h => absurd h (by decide)) (fun _ => ?_)
  refine lv_aload_n hx hb dX9_put_17 rfl (lv_at hl 1 rfl) ?_
  refine g_get (C := RX9) (T := TX9) (N := 6) (ci := 9) (v := .ref b0) FC hKn hP i_X9 0 rfl rfl 0 (by decide) b_131 rfl dX9_put_18 ?_
  refine lv_aload_n hx hb dX9_put_21 rfl (lv_at hl 1 rfl) ?_
  refine g_get (C := RX9) (T := TX9) (N := 6) (ci := 9) (v := .int 7) FC hKn hP i_X9 0 rfl rfl 1 (by decide) b_127 rfl dX9_put_22 ?_
  refine lv_iload_n hx hb dX9_put_25 rfl (lv_at hl 2 rfl) ?_
  refine lv_iload_n hx hb dX9_put_26 rfl (lv_at hl 0 rfl) ?_
  refine lv_ishr hx hb dX9_put_27 ?_
  refine lv_topi (fun z10 e_z10 => ?_)
  refine lv_i2b hx hb dX9_put_28 rfl ?_
  refine lv_topi (fun z11 e_z11 => ?_)
  refine va_bast hx hb hKn.1 hP hD hS 1 1 rfl rfl (by unfold vp_in; decide) dX9_put_29 (fun H locs hP hD hS => ?_)
  have hP : va_P g.1 vwCl [(h0, .inr (9, [.ref b0, .int 7, .int 0, .int 0, .int 0, .int 0])), (b0, .inl (g.2 1, 900, .inl (upd f9 ((7 : Int32).toNatClampNeg) (vp_nar .byte z11))))] H := hP
  have hD : va_D A [(h0, .inr (9, [.ref b0, .int 7, .int 0, .int 0, .int 0, .int 0])), (b0, .inl (g.2 1, 900, .inl (upd f9 ((7 : Int32).toNatClampNeg) (vp_nar .byte z11))))] := hD
  generalize (upd f9 ((7 : Int32).toNatClampNeg) (vp_nar .byte z11) : Nat → Int32) = f12 at hP hD
  refine lv_aload_n hx hb dX9_put_30 rfl (lv_at hl 1 rfl) ?_
  refine lv_dup hx hb dX9_put_31 rfl ?_
  refine g_get (C := RX9) (T := TX9) (N := 6) (ci := 9) (v := .int 7) FC hKn hP i_X9 0 rfl rfl 1 (by decide) b_127 rfl dX9_put_32 ?_
  refine lv_iconst (v := 1) hx hb dX9_put_35 (by decide) ?_
  refine lv_iadd hx hb dX9_put_36 ?_
  refine tp_i (v := 8) (by decide) ?_
  refine g_put (C := RX9) (T := TX9) (N := 6) (ci := 9) (v := .int 8) FC hKn hP hD hS i_X9 tyX9 tyX9_ok nmX9 0 rfl rfl 1 (by decide) b_127 rfl rfl rfl (Nat.le_of_ble_eq_true rfl) dX9_put_37 (fun H locs hP hD hS => ?_)
  have hP : va_P g.1 vwCl [(h0, .inr (9, [.ref b0, .int 8, .int 0, .int 0, .int 0, .int 0])), (b0, .inl (g.2 1, 900, .inl f12))] H := hP
  have hD : va_D A [(h0, .inr (9, [.ref b0, .int 8, .int 0, .int 0, .int 0, .int 0])), (b0, .inl (g.2 1, 900, .inl f12))] := hD
  refine lv_iinc (v := -8) (lv' := [(2, .int (-8)), (0, .ref h0), (1, .int p1)]) hx hb dX9_put_40 hl (k := 0) rfl (by decide) (by decide) rfl (fun ls hl => ?_)
  refine lv_goto (tgt := 3) hx hb dX9_put_43 (by decide) ?_
  refine lv_iload_n hx hb dX9_put_3 rfl (lv_at hl 0 rfl) ?_
  refine lv_if_lt (tgt := 46) hx hb dX9_put_4 (by decide) (fun _ => ?_) (fun h => absurd h (by decide))
  exact rt_v FX f12 rfl trivial (hP.sub [0, 1] rfl) (hD.sub [0, 1] (by decide) rfl) hS (Nat.le_of_ble_eq_true rfl) (Nat.le_of_ble_eq_true rfl) dX9_put_46
set_option maxRecDepth 100000 in
set_option maxHeartbeats 4000000 in
theorem c_X9_put_2 (l : Launch) (g : GG) (h0 : Nat) (b0 : Nat) (ff : Nat → Int32) (p1 : Int32) : Ct l g yX9_put cX9_put 3 none { frames := 0, cells := 0, slots := 0, locals := 0 } [.ref h0, .int p1] [(h0, .inr (9, [.ref b0, .int 8, .int 0, .int 0, .int 0, .int 0])), (b0, .inl (g.2 1, 900, .inl ff))] (S := Nat → Int32) (fun _ => none) (fun _ => True) (fun u => [(h0, .inr (9, [.ref b0, .int 12, .int 0, .int 0, .int 0, .int 0])), (b0, .inl (g.2 1, 900, .inl u))]) := by
  refine Ct.of (by decide) (Nat.le_of_ble_eq_true rfl) ?_
  intro p e s m below meth c A ls FX hP hD hS hl
  obtain ⟨FC, hr, hlk, hKn, hA, hnm⟩ := id FX
  have FC : CallFix p m c cX9_put 3 s _ BIG RX9 := FC
  obtain ⟨hx, hb, hml, hown, hB⟩ := id FC
  have hl : lv_has ls 3 [(0, .ref h0), (1, .int p1)] := hl
  refine lv_bipush (v := 24) hx hb dX9_put_0 (by decide) ?_
  refine lv_istore_n (lv' := [(2, .int 24), (0, .ref h0), (1, .int p1)]) hx hb dX9_put_2 rfl hl (by decide) rfl (fun ls hl => ?_)
  refine lv_iload_n hx hb dX9_put_3 rfl (lv_at hl 0 rfl) ?_
  refine lv_if_lt (tgt := 46) hx hb dX9_put_4 (by decide) (fun h => absurd h (by decide)) (fun _ => ?_)
  refine lv_aload_n hx hb dX9_put_7 rfl (lv_at hl 1 rfl) ?_
  refine g_get (C := RX9) (T := TX9) (N := 6) (ci := 9) (v := .int 8) FC hKn hP i_X9 0 rfl rfl 1 (by decide) b_127 rfl dX9_put_8 ?_
  refine lv_sipush (v := 900) hx hb dX9_put_11 (by decide) ?_
  refine lv_icmp_ge (tgt := 46) hx hb dX9_put_14 (by decide) (fun h => absurd h (by decide)) (fun _ => ?_)
  refine lv_aload_n hx hb dX9_put_17 rfl (lv_at hl 1 rfl) ?_
  refine g_get (C := RX9) (T := TX9) (N := 6) (ci := 9) (v := .ref b0) FC hKn hP i_X9 0 rfl rfl 0 (by decide) b_131 rfl dX9_put_18 ?_
  refine lv_aload_n hx hb dX9_put_21 rfl (lv_at hl 1 rfl) ?_
  refine g_get (C := RX9) (T := TX9) (N := 6) (ci := 9) (v := .int 8) FC hKn hP i_X9 0 rfl rfl 1 (by decide) b_127 rfl dX9_put_22 ?_
  refine lv_iload_n hx hb dX9_put_25 rfl (lv_at hl 2 rfl) ?_
  refine lv_iload_n hx hb dX9_put_26 rfl (lv_at hl 0 rfl) ?_
  refine lv_ishr hx hb dX9_put_27 ?_
  refine lv_topi (fun z1 e_z1 => ?_)
  refine lv_i2b hx hb dX9_put_28 rfl ?_
  refine lv_topi (fun z2 e_z2 => ?_)
  refine va_bast hx hb hKn.1 hP hD hS 1 1 rfl rfl (by unfold vp_in; decide) dX9_put_29 (fun H locs hP hD hS => ?_)
  have hP : va_P g.1 vwCl [(h0, .inr (9, [.ref b0, .int 8, .int 0, .int 0, .int 0, .int 0])), (b0, .inl (g.2 1, 900, .inl (upd ff ((8 : Int32).toNatClampNeg) (vp_nar .byte z2))))] H := hP
  have hD : va_D A [(h0, .inr (9, [.ref b0, .int 8, .int 0, .int 0, .int 0, .int 0])), (b0, .inl (g.2 1, 900, .inl (upd ff ((8 : Int32).toNatClampNeg) (vp_nar .byte z2))))] := hD
  generalize (upd ff ((8 : Int32).toNatClampNeg) (vp_nar .byte z2) : Nat → Int32) = f3 at hP hD
  refine lv_aload_n hx hb dX9_put_30 rfl (lv_at hl 1 rfl) ?_
  refine lv_dup hx hb dX9_put_31 rfl ?_
  refine g_get (C := RX9) (T := TX9) (N := 6) (ci := 9) (v := .int 8) FC hKn hP i_X9 0 rfl rfl 1 (by decide) b_127 rfl dX9_put_32 ?_
  refine lv_iconst (v := 1) hx hb dX9_put_35 (by decide) ?_
  refine lv_iadd hx hb dX9_put_36 ?_
  refine tp_i (v := 9) (by decide) ?_
  refine g_put (C := RX9) (T := TX9) (N := 6) (ci := 9) (v := .int 9) FC hKn hP hD hS i_X9 tyX9 tyX9_ok nmX9 0 rfl rfl 1 (by decide) b_127 rfl rfl rfl (Nat.le_of_ble_eq_true rfl) dX9_put_37 (fun H locs hP hD hS => ?_)
  have hP : va_P g.1 vwCl [(h0, .inr (9, [.ref b0, .int 9, .int 0, .int 0, .int 0, .int 0])), (b0, .inl (g.2 1, 900, .inl f3))] H := hP
  have hD : va_D A [(h0, .inr (9, [.ref b0, .int 9, .int 0, .int 0, .int 0, .int 0])), (b0, .inl (g.2 1, 900, .inl f3))] := hD
  refine lv_iinc (v := 16) (lv' := [(2, .int 16), (0, .ref h0), (1, .int p1)]) hx hb dX9_put_40 hl (k := 0) rfl (by decide) (by decide) rfl (fun ls hl => ?_)
  refine lv_goto (tgt := 3) hx hb dX9_put_43 (by decide) ?_
  refine lv_iload_n hx hb dX9_put_3 rfl (lv_at hl 0 rfl) ?_
  refine lv_if_lt (tgt := 46) hx hb dX9_put_4 (by decide) (fun h => absurd h (by decide)) (fun _ => ?_)
  refine lv_aload_n hx hb dX9_put_7 rfl (lv_at hl 1 rfl) ?_
  refine g_get (C := RX9) (T := TX9) (N := 6) (ci := 9) (v := .int 9) FC hKn hP i_X9 0 rfl rfl 1 (by decide) b_127 rfl dX9_put_8 ?_
  refine lv_sipush (v := 900) hx hb dX9_put_11 (by decide) ?_
  refine lv_icmp_ge (tgt := 46) hx hb dX9_put_14 (by decide) (fun h => absurd h (by decide)) (fun _ => ?_)
  refine lv_aload_n hx hb dX9_put_17 rfl (lv_at hl 1 rfl) ?_
  refine g_get (C := RX9) (T := TX9) (N := 6) (ci := 9) (v := .ref b0) FC hKn hP i_X9 0 rfl rfl 0 (by decide) b_131 rfl dX9_put_18 ?_
  refine lv_aload_n hx hb dX9_put_21 rfl (lv_at hl 1 rfl) ?_
  refine g_get (C := RX9) (T := TX9) (N := 6) (ci := 9) (v := .int 9) FC hKn hP i_X9 0 rfl rfl 1 (by decide) b_127 rfl dX9_put_22 ?_
  refine lv_iload_n hx hb dX9_put_25 rfl (lv_at hl 2 rfl) ?_
  refine lv_iload_n hx hb dX9_put_26 rfl (lv_at hl 0 rfl) ?_
  refine lv_ishr hx hb dX9_put_27 ?_
  refine lv_topi (fun z4 e_z4 => ?_)
  refine lv_i2b hx hb dX9_put_28 rfl ?_
  refine lv_topi (fun z5 e_z5 => ?_)
  refine va_bast hx hb hKn.1 hP hD hS 1 1 rfl rfl (by unfold vp_in; decide) dX9_put_29 (fun H locs hP hD hS => ?_)
  have hP : va_P g.1 vwCl [(h0, .inr (9, [.ref b0, .int 9, .int 0, .int 0, .int 0, .int 0])), (b0, .inl (g.2 1, 900, .inl (upd f3 ((9 : Int32).toNatClampNeg) (vp_nar .byte z5))))] H := hP
  have hD : va_D A [(h0, .inr (9, [.ref b0, .int 9, .int 0, .int 0, .int 0, .int 0])), (b0, .inl (g.2 1, 900, .inl (upd f3 ((9 : Int32).toNatClampNeg) (vp_nar .byte z5))))] := hD
  generalize (upd f3 ((9 : Int32).toNatClampNeg) (vp_nar .byte z5) : Nat → Int32) = f6 at hP hD
  refine lv_aload_n hx hb dX9_put_30 rfl (lv_at hl 1 rfl) ?_
  refine lv_dup hx hb dX9_put_31 rfl ?_
  refine g_get (C := RX9) (T := TX9) (N := 6) (ci := 9) (v := .int 9) FC hKn hP i_X9 0 rfl rfl 1 (by decide) b_127 rfl dX9_put_32 ?_
  refine lv_iconst (v := 1) hx hb dX9_put_35 (by decide) ?_
  refine lv_iadd hx hb dX9_put_36 ?_
  refine tp_i (v := 10) (by decide) ?_
  refine g_put (C := RX9) (T := TX9) (N := 6) (ci := 9) (v := .int 10) FC hKn hP hD hS i_X9 tyX9 tyX9_ok nmX9 0 rfl rfl 1 (by decide) b_127 rfl rfl rfl (Nat.le_of_ble_eq_true rfl) dX9_put_37 (fun H locs hP hD hS => ?_)
  have hP : va_P g.1 vwCl [(h0, .inr (9, [.ref b0, .int 10, .int 0, .int 0, .int 0, .int 0])), (b0, .inl (g.2 1, 900, .inl f6))] H := hP
  have hD : va_D A [(h0, .inr (9, [.ref b0, .int 10, .int 0, .int 0, .int 0, .int 0])), (b0, .inl (g.2 1, 900, .inl f6))] := hD
  refine lv_iinc (v := 8) (lv' := [(2, .int 8), (0, .ref h0), (1, .int p1)]) hx hb dX9_put_40 hl (k := 0) rfl (by decide) (by decide) rfl (fun ls hl => ?_)
  refine lv_goto (tgt := 3) hx hb dX9_put_43 (by decide) ?_
  refine lv_iload_n hx hb dX9_put_3 rfl (lv_at hl 0 rfl) ?_
  refine lv_if_lt (tgt := 46) hx hb dX9_put_4 (by decide) (fun h => absurd h (by decide)) (fun _ => ?_)
  refine lv_aload_n hx hb dX9_put_7 rfl (lv_at hl 1 rfl) ?_
  refine g_get (C := RX9) (T := TX9) (N := 6) (ci := 9) (v := .int 10) FC hKn hP i_X9 0 rfl rfl 1 (by decide) b_127 rfl dX9_put_8 ?_
  refine lv_sipush (v := 900) hx hb dX9_put_11 (by decide) ?_
  refine lv_icmp_ge (tgt := 46) hx hb dX9_put_14 (by decide) (fun h => absurd h (by decide)) (fun _ => ?_)
  refine lv_aload_n hx hb dX9_put_17 rfl (lv_at hl 1 rfl) ?_
  refine g_get (C := RX9) (T := TX9) (N := 6) (ci := 9) (v := .ref b0) FC hKn hP i_X9 0 rfl rfl 0 (by decide) b_131 rfl dX9_put_18 ?_
  refine lv_aload_n hx hb dX9_put_21 rfl (lv_at hl 1 rfl) ?_
  refine g_get (C := RX9) (T := TX9) (N := 6) (ci := 9) (v := .int 10) FC hKn hP i_X9 0 rfl rfl 1 (by decide) b_127 rfl dX9_put_22 ?_
  refine lv_iload_n hx hb dX9_put_25 rfl (lv_at hl 2 rfl) ?_
  refine lv_iload_n hx hb dX9_put_26 rfl (lv_at hl 0 rfl) ?_
  refine lv_ishr hx hb dX9_put_27 ?_
  refine lv_topi (fun z7 e_z7 => ?_)
  refine lv_i2b hx hb dX9_put_28 rfl ?_
  refine lv_topi (fun z8 e_z8 => ?_)
  refine va_bast hx hb hKn.1 hP hD hS 1 1 rfl rfl (by unfold vp_in; decide) dX9_put_29 (fun H locs hP hD hS => ?_)
  have hP : va_P g.1 vwCl [(h0, .inr (9, [.ref b0, .int 10, .int 0, .int 0, .int 0, .int 0])), (b0, .inl (g.2 1, 900, .inl (upd f6 ((10 : Int32).toNatClampNeg) (vp_nar .byte z8))))] H := hP
  have hD : va_D A [(h0, .inr (9, [.ref b0, .int 10, .int 0, .int 0, .int 0, .int 0])), (b0, .inl (g.2 1, 900, .inl (upd f6 ((10 : Int32).toNatClampNeg) (vp_nar .byte z8))))] := hD
  generalize (upd f6 ((10 : Int32).toNatClampNeg) (vp_nar .byte z8) : Nat → Int32) = f9 at hP hD
  refine lv_aload_n hx hb dX9_put_30 rfl (lv_at hl 1 rfl) ?_
  refine lv_dup hx hb dX9_put_31 rfl ?_
  refine g_get (C := RX9) (T := TX9) (N := 6) (ci := 9) (v := .int 10) FC hKn hP i_X9 0 rfl rfl 1 (by decide) b_127 rfl dX9_put_32 ?_
  refine lv_iconst (v := 1) hx hb dX9_put_35 (by decide) ?_
  refine lv_iadd hx hb dX9_put_36 ?_
  refine tp_i (v := 11) (by decide) ?_
  refine g_put (C := RX9) (T := TX9) (N := 6) (ci := 9) (v := .int 11) FC hKn hP hD hS i_X9 tyX9 tyX9_ok nmX9 0 rfl rfl 1 (by decide) b_127 rfl rfl rfl (Nat.le_of_ble_eq_true rfl) dX9_put_37 (fun H locs hP hD hS => ?_)
  have hP : va_P g.1 vwCl [(h0, .inr (9, [.ref b0, .int 11, .int 0, .int 0, .int 0, .int 0])), (b0, .inl (g.2 1, 900, .inl f9))] H := hP
  have hD : va_D A [(h0, .inr (9, [.ref b0, .int 11, .int 0, .int 0, .int 0, .int 0])), (b0, .inl (g.2 1, 900, .inl f9))] := hD
  refine lv_iinc (v := 0) (lv' := [(2, .int 0), (0, .ref h0), (1, .int p1)]) hx hb dX9_put_40 hl (k := 0) rfl (by decide) (by decide) rfl (fun ls hl => ?_)
  refine lv_goto (tgt := 3) hx hb dX9_put_43 (by decide) ?_
  refine lv_iload_n hx hb dX9_put_3 rfl (lv_at hl 0 rfl) ?_
  refine lv_if_lt (tgt := 46) hx hb dX9_put_4 (by decide) (fun h => absurd h (by decide)) (fun _ => ?_)
  refine lv_aload_n hx hb dX9_put_7 rfl (lv_at hl 1 rfl) ?_
  refine g_get (C := RX9) (T := TX9) (N := 6) (ci := 9) (v := .int 11) FC hKn hP i_X9 0 rfl rfl 1 (by decide) b_127 rfl dX9_put_8 ?_
  refine lv_sipush (v := 900) hx hb dX9_put_11 (by decide) ?_
  refine lv_icmp_ge (tgt := 46) hx hb dX9_put_14 (by decide) (fun h => absurd h (by decide)) (fun _ => ?_)
  refine lv_aload_n hx hb dX9_put_17 rfl (lv_at hl 1 rfl) ?_
  refine g_get (C := RX9) (T := TX9) (N := 6) (ci := 9) (v := .ref b0) FC hKn hP i_X9 0 rfl rfl 0 (by decide) b_131 rfl dX9_put_18 ?_
  refine lv_aload_n hx hb dX9_put_21 rfl (lv_at hl 1 rfl) ?_
  refine g_get (C := RX9) (T := TX9) (N := 6) (ci := 9) (v := .int 11) FC hKn hP i_X9 0 rfl rfl 1 (by decide) b_127 rfl dX9_put_22 ?_
  refine lv_iload_n hx hb dX9_put_25 rfl (lv_at hl 2 rfl) ?_
  refine lv_iload_n hx hb dX9_put_26 rfl (lv_at hl 0 rfl) ?_
  refine lv_ishr hx hb dX9_put_27 ?_
  refine lv_topi (fun z10 e_z10 => ?_)
  refine lv_i2b hx hb dX9_put_28 rfl ?_
  refine lv_topi (fun z11 e_z11 => ?_)
  refine va_bast hx hb hKn.1 hP hD hS 1 1 rfl rfl (by unfold vp_in; decide) dX9_put_29 (fun H locs hP hD hS => ?_)
  have hP : va_P g.1 vwCl [(h0, .inr (9, [.ref b0, .int 11, .int 0, .int 0, .int 0, .int 0])), (b0, .inl (g.2 1, 900, .inl (upd f9 ((11 : Int32).toNatClampNeg) (vp_nar .byte z11))))] H := hP
  have hD : va_D A [(h0, .inr (9, [.ref b0, .int 11, .int 0, .int 0, .int 0, .int 0])), (b0, .inl (g.2 1, 900, .inl (upd f9 ((11 : Int32).toNatClampNeg) (vp_nar .byte z11))))] := hD
  generalize (upd f9 ((11 : Int32).toNatClampNeg) (vp_nar .byte z11) : Nat → Int32) = f12 at hP hD
  refine lv_aload_n hx hb dX9_put_30 rfl (lv_at hl 1 rfl) ?_
  refine lv_dup hx hb dX9_put_31 rfl ?_
  refine g_get (C := RX9) (T := TX9) (N := 6) (ci := 9) (v := .int 11) FC hKn hP i_X9 0 rfl rfl 1 (by decide) b_127 rfl dX9_put_32 ?_
  refine lv_iconst (v := 1) hx hb dX9_put_35 (by decide) ?_
  refine lv_iadd hx hb dX9_put_36 ?_
  refine tp_i (v := 12) (by decide) ?_
  refine g_put (C := RX9) (T := TX9) (N := 6) (ci := 9) (v := .int 12) FC hKn hP hD hS i_X9 tyX9 tyX9_ok nmX9 0 rfl rfl 1 (by decide) b_127 rfl rfl rfl (Nat.le_of_ble_eq_true rfl) dX9_put_37 (fun H locs hP hD hS => ?_)
  have hP : va_P g.1 vwCl [(h0, .inr (9, [.ref b0, .int 12, .int 0, .int 0, .int 0, .int 0])), (b0, .inl (g.2 1, 900, .inl f12))] H := hP
  have hD : va_D A [(h0, .inr (9, [.ref b0, .int 12, .int 0, .int 0, .int 0, .int 0])), (b0, .inl (g.2 1, 900, .inl f12))] := hD
  refine lv_iinc (v := -8) (lv' := [(2, .int (-8)), (0, .ref h0), (1, .int p1)]) hx hb dX9_put_40 hl (k := 0) rfl (by decide) (by decide) rfl (fun ls hl => ?_)
  refine lv_goto (tgt := 3) hx hb dX9_put_43 (by decide) ?_
  refine lv_iload_n hx hb dX9_put_3 rfl (lv_at hl 0 rfl) ?_
  refine lv_if_lt (tgt := 46) hx hb dX9_put_4 (by decide) (fun _ => ?_) (fun h => absurd h (by decide))
  exact rt_v FX f12 rfl trivial (hP.sub [0, 1] rfl) (hD.sub [0, 1] (by decide) rfl) hS (Nat.le_of_ble_eq_true rfl) (Nat.le_of_ble_eq_true rfl) dX9_put_46
set_option maxRecDepth 100000 in
set_option maxHeartbeats 4000000 in
theorem c_X9_put_3 (l : Launch) (g : GG) (h0 : Nat) (b0 : Nat) (ff : Nat → Int32) (p1 : Int32) : Ct l g yX9_put cX9_put 3 none { frames := 0, cells := 0, slots := 0, locals := 0 } [.ref h0, .int p1] [(h0, .inr (9, [.ref b0, .int 12, .int 0, .int 0, .int 0, .int 0])), (b0, .inl (g.2 1, 900, .inl ff))] (S := Nat → Int32) (fun _ => none) (fun _ => True) (fun u => [(h0, .inr (9, [.ref b0, .int 16, .int 0, .int 0, .int 0, .int 0])), (b0, .inl (g.2 1, 900, .inl u))]) := by
  refine Ct.of (by decide) (Nat.le_of_ble_eq_true rfl) ?_
  intro p e s m below meth c A ls FX hP hD hS hl
  obtain ⟨FC, hr, hlk, hKn, hA, hnm⟩ := id FX
  have FC : CallFix p m c cX9_put 3 s _ BIG RX9 := FC
  obtain ⟨hx, hb, hml, hown, hB⟩ := id FC
  have hl : lv_has ls 3 [(0, .ref h0), (1, .int p1)] := hl
  refine lv_bipush (v := 24) hx hb dX9_put_0 (by decide) ?_
  refine lv_istore_n (lv' := [(2, .int 24), (0, .ref h0), (1, .int p1)]) hx hb dX9_put_2 rfl hl (by decide) rfl (fun ls hl => ?_)
  refine lv_iload_n hx hb dX9_put_3 rfl (lv_at hl 0 rfl) ?_
  refine lv_if_lt (tgt := 46) hx hb dX9_put_4 (by decide) (fun h => absurd h (by decide)) (fun _ => ?_)
  refine lv_aload_n hx hb dX9_put_7 rfl (lv_at hl 1 rfl) ?_
  refine g_get (C := RX9) (T := TX9) (N := 6) (ci := 9) (v := .int 12) FC hKn hP i_X9 0 rfl rfl 1 (by decide) b_127 rfl dX9_put_8 ?_
  refine lv_sipush (v := 900) hx hb dX9_put_11 (by decide) ?_
  refine lv_icmp_ge (tgt := 46) hx hb dX9_put_14 (by decide) (fun h => absurd h (by decide)) (fun _ => ?_)
  refine lv_aload_n hx hb dX9_put_17 rfl (lv_at hl 1 rfl) ?_
  refine g_get (C := RX9) (T := TX9) (N := 6) (ci := 9) (v := .ref b0) FC hKn hP i_X9 0 rfl rfl 0 (by decide) b_131 rfl dX9_put_18 ?_
  refine lv_aload_n hx hb dX9_put_21 rfl (lv_at hl 1 rfl) ?_
  refine g_get (C := RX9) (T := TX9) (N := 6) (ci := 9) (v := .int 12) FC hKn hP i_X9 0 rfl rfl 1 (by decide) b_127 rfl dX9_put_22 ?_
  refine lv_iload_n hx hb dX9_put_25 rfl (lv_at hl 2 rfl) ?_
  refine lv_iload_n hx hb dX9_put_26 rfl (lv_at hl 0 rfl) ?_
  refine lv_ishr hx hb dX9_put_27 ?_
  refine lv_topi (fun z1 e_z1 => ?_)
  refine lv_i2b hx hb dX9_put_28 rfl ?_
  refine lv_topi (fun z2 e_z2 => ?_)
  refine va_bast hx hb hKn.1 hP hD hS 1 1 rfl rfl (by unfold vp_in; decide) dX9_put_29 (fun H locs hP hD hS => ?_)
  have hP : va_P g.1 vwCl [(h0, .inr (9, [.ref b0, .int 12, .int 0, .int 0, .int 0, .int 0])), (b0, .inl (g.2 1, 900, .inl (upd ff ((12 : Int32).toNatClampNeg) (vp_nar .byte z2))))] H := hP
  have hD : va_D A [(h0, .inr (9, [.ref b0, .int 12, .int 0, .int 0, .int 0, .int 0])), (b0, .inl (g.2 1, 900, .inl (upd ff ((12 : Int32).toNatClampNeg) (vp_nar .byte z2))))] := hD
  generalize (upd ff ((12 : Int32).toNatClampNeg) (vp_nar .byte z2) : Nat → Int32) = f3 at hP hD
  refine lv_aload_n hx hb dX9_put_30 rfl (lv_at hl 1 rfl) ?_
  refine lv_dup hx hb dX9_put_31 rfl ?_
  refine g_get (C := RX9) (T := TX9) (N := 6) (ci := 9) (v := .int 12) FC hKn hP i_X9 0 rfl rfl 1 (by decide) b_127 rfl dX9_put_32 ?_
  refine lv_iconst (v := 1) hx hb dX9_put_35 (by decide) ?_
  refine lv_iadd hx hb dX9_put_36 ?_
  refine tp_i (v := 13) (by decide) ?_
  refine g_put (C := RX9) (T := TX9) (N := 6) (ci := 9) (v := .int 13) FC hKn hP hD hS i_X9 tyX9 tyX9_ok nmX9 0 rfl rfl 1 (by decide) b_127 rfl rfl rfl (Nat.le_of_ble_eq_true rfl) dX9_put_37 (fun H locs hP hD hS => ?_)
  have hP : va_P g.1 vwCl [(h0, .inr (9, [.ref b0, .int 13, .int 0, .int 0, .int 0, .int 0])), (b0, .inl (g.2 1, 900, .inl f3))] H := hP
  have hD : va_D A [(h0, .inr (9, [.ref b0, .int 13, .int 0, .int 0, .int 0, .int 0])), (b0, .inl (g.2 1, 900, .inl f3))] := hD
  refine lv_iinc (v := 16) (lv' := [(2, .int 16), (0, .ref h0), (1, .int p1)]) hx hb dX9_put_40 hl (k := 0) rfl (by decide) (by decide) rfl (fun ls hl => ?_)
  refine lv_goto (tgt := 3) hx hb dX9_put_43 (by decide) ?_
  refine lv_iload_n hx hb dX9_put_3 rfl (lv_at hl 0 rfl) ?_
  refine lv_if_lt (tgt := 46) hx hb dX9_put_4 (by decide) (fun h => absurd h (by decide)) (fun _ => ?_)
  refine lv_aload_n hx hb dX9_put_7 rfl (lv_at hl 1 rfl) ?_
  refine g_get (C := RX9) (T := TX9) (N := 6) (ci := 9) (v := .int 13) FC hKn hP i_X9 0 rfl rfl 1 (by decide) b_127 rfl dX9_put_8 ?_
  refine lv_sipush (v := 900) hx hb dX9_put_11 (by decide) ?_
  refine lv_icmp_ge (tgt := 46) hx hb dX9_put_14 (by decide) (fun h => absurd h (by decide)) (fun _ => ?_)
  refine lv_aload_n hx hb dX9_put_17 rfl (lv_at hl 1 rfl) ?_
  refine g_get (C := RX9) (T := TX9) (N := 6) (ci := 9) (v := .ref b0) FC hKn hP i_X9 0 rfl rfl 0 (by decide) b_131 rfl dX9_put_18 ?_
  refine lv_aload_n hx hb dX9_put_21 rfl (lv_at hl 1 rfl) ?_
  refine g_get (C := RX9) (T := TX9) (N := 6) (ci := 9) (v := .int 13) FC hKn hP i_X9 0 rfl rfl 1 (by decide) b_127 rfl dX9_put_22 ?_
  refine lv_iload_n hx hb dX9_put_25 rfl (lv_at hl 2 rfl) ?_
  refine lv_iload_n hx hb dX9_put_26 rfl (lv_at hl 0 rfl) ?_
  refine lv_ishr hx hb dX9_put_27 ?_
  refine lv_topi (fun z4 e_z4 => ?_)
  refine lv_i2b hx hb dX9_put_28 rfl ?_
  refine lv_topi (fun z5 e_z5 => ?_)
  refine va_bast hx hb hKn.1 hP hD hS 1 1 rfl rfl (by unfold vp_in; decide) dX9_put_29 (fun H locs hP hD hS => ?_)
  have hP : va_P g.1 vwCl [(h0, .inr (9, [.ref b0, .int 13, .int 0, .int 0, .int 0, .int 0])), (b0, .inl (g.2 1, 900, .inl (upd f3 ((13 : Int32).toNatClampNeg) (vp_nar .byte z5))))] H := hP
  have hD : va_D A [(h0, .inr (9, [.ref b0, .int 13, .int 0, .int 0, .int 0, .int 0])), (b0, .inl (g.2 1, 900, .inl (upd f3 ((13 : Int32).toNatClampNeg) (vp_nar .byte z5))))] := hD
  generalize (upd f3 ((13 : Int32).toNatClampNeg) (vp_nar .byte z5) : Nat → Int32) = f6 at hP hD
  refine lv_aload_n hx hb dX9_put_30 rfl (lv_at hl 1 rfl) ?_
  refine lv_dup hx hb dX9_put_31 rfl ?_
  refine g_get (C := RX9) (T := TX9) (N := 6) (ci := 9) (v := .int 13) FC hKn hP i_X9 0 rfl rfl 1 (by decide) b_127 rfl dX9_put_32 ?_
  refine lv_iconst (v := 1) hx hb dX9_put_35 (by decide) ?_
  refine lv_iadd hx hb dX9_put_36 ?_
  refine tp_i (v := 14) (by decide) ?_
  refine g_put (C := RX9) (T := TX9) (N := 6) (ci := 9) (v := .int 14) FC hKn hP hD hS i_X9 tyX9 tyX9_ok nmX9 0 rfl rfl 1 (by decide) b_127 rfl rfl rfl (Nat.le_of_ble_eq_true rfl) dX9_put_37 (fun H locs hP hD hS => ?_)
  have hP : va_P g.1 vwCl [(h0, .inr (9, [.ref b0, .int 14, .int 0, .int 0, .int 0, .int 0])), (b0, .inl (g.2 1, 900, .inl f6))] H := hP
  have hD : va_D A [(h0, .inr (9, [.ref b0, .int 14, .int 0, .int 0, .int 0, .int 0])), (b0, .inl (g.2 1, 900, .inl f6))] := hD
  refine lv_iinc (v := 8) (lv' := [(2, .int 8), (0, .ref h0), (1, .int p1)]) hx hb dX9_put_40 hl (k := 0) rfl (by decide) (by decide) rfl (fun ls hl => ?_)
  refine lv_goto (tgt := 3) hx hb dX9_put_43 (by decide) ?_
  refine lv_iload_n hx hb dX9_put_3 rfl (lv_at hl 0 rfl) ?_
  refine lv_if_lt (tgt := 46) hx hb dX9_put_4 (by decide) (fun h => absurd h (by decide)) (fun _ => ?_)
  refine lv_aload_n hx hb dX9_put_7 rfl (lv_at hl 1 rfl) ?_
  refine g_get (C := RX9) (T := TX9) (N := 6) (ci := 9) (v := .int 14) FC hKn hP i_X9 0 rfl rfl 1 (by decide) b_127 rfl dX9_put_8 ?_
  refine lv_sipush (v := 900) hx hb dX9_put_11 (by decide) ?_
  refine lv_icmp_ge (tgt := 46) hx hb dX9_put_14 (by decide) (fun h => absurd h (by decide)) (fun _ => ?_)
  refine lv_aload_n hx hb dX9_put_17 rfl (lv_at hl 1 rfl) ?_
  refine g_get (C := RX9) (T := TX9) (N := 6) (ci := 9) (v := .ref b0) FC hKn hP i_X9 0 rfl rfl 0 (by decide) b_131 rfl dX9_put_18 ?_
  refine lv_aload_n hx hb dX9_put_21 rfl (lv_at hl 1 rfl) ?_
  refine g_get (C := RX9) (T := TX9) (N := 6) (ci := 9) (v := .int 14) FC hKn hP i_X9 0 rfl rfl 1 (by decide) b_127 rfl dX9_put_22 ?_
  refine lv_iload_n hx hb dX9_put_25 rfl (lv_at hl 2 rfl) ?_
  refine lv_iload_n hx hb dX9_put_26 rfl (lv_at hl 0 rfl) ?_
  refine lv_ishr hx hb dX9_put_27 ?_
  refine lv_topi (fun z7 e_z7 => ?_)
  refine lv_i2b hx hb dX9_put_28 rfl ?_
  refine lv_topi (fun z8 e_z8 => ?_)
  refine va_bast hx hb hKn.1 hP hD hS 1 1 rfl rfl (by unfold vp_in; decide) dX9_put_29 (fun H locs hP hD hS => ?_)
  have hP : va_P g.1 vwCl [(h0, .inr (9, [.ref b0, .int 14, .int 0, .int 0, .int 0, .int 0])), (b0, .inl (g.2 1, 900, .inl (upd f6 ((14 : Int32).toNatClampNeg) (vp_nar .byte z8))))] H := hP
  have hD : va_D A [(h0, .inr (9, [.ref b0, .int 14, .int 0, .int 0, .int 0, .int 0])), (b0, .inl (g.2 1, 900, .inl (upd f6 ((14 : Int32).toNatClampNeg) (vp_nar .byte z8))))] := hD
  generalize (upd f6 ((14 : Int32).toNatClampNeg) (vp_nar .byte z8) : Nat → Int32) = f9 at hP hD
  refine lv_aload_n hx hb dX9_put_30 rfl (lv_at hl 1 rfl) ?_
  refine lv_dup hx hb dX9_put_31 rfl ?_
  refine g_get (C := RX9) (T := TX9) (N := 6) (ci := 9) (v := .int 14) FC hKn hP i_X9 0 rfl rfl 1 (by decide) b_127 rfl dX9_put_32 ?_
  refine lv_iconst (v := 1) hx hb dX9_put_35 (by decide) ?_
  refine lv_iadd hx hb dX9_put_36 ?_
  refine tp_i (v := 15) (by decide) ?_
  refine g_put (C := RX9) (T := TX9) (N := 6) (ci := 9) (v := .int 15) FC hKn hP hD hS i_X9 tyX9 tyX9_ok nmX9 0 rfl rfl 1 (by decide) b_127 rfl rfl rfl (Nat.le_of_ble_eq_true rfl) dX9_put_37 (fun H locs hP hD hS => ?_)
  have hP : va_P g.1 vwCl [(h0, .inr (9, [.ref b0, .int 15, .int 0, .int 0, .int 0, .int 0])), (b0, .inl (g.2 1, 900, .inl f9))] H := hP
  have hD : va_D A [(h0, .inr (9, [.ref b0, .int 15, .int 0, .int 0, .int 0, .int 0])), (b0, .inl (g.2 1, 900, .inl f9))] := hD
  refine lv_iinc (v := 0) (lv' := [(2, .int 0), (0, .ref h0), (1, .int p1)]) hx hb dX9_put_40 hl (k := 0) rfl (by decide) (by decide) rfl (fun ls hl => ?_)
  refine lv_goto (tgt := 3) hx hb dX9_put_43 (by decide) ?_
  refine lv_iload_n hx hb dX9_put_3 rfl (lv_at hl 0 rfl) ?_
  refine lv_if_lt (tgt := 46) hx hb dX9_put_4 (by decide) (fun h => absurd h (by decide)) (fun _ => ?_)
  refine lv_aload_n hx hb dX9_put_7 rfl (lv_at hl 1 rfl) ?_
  refine g_get (C := RX9) (T := TX9) (N := 6) (ci := 9) (v := .int 15) FC hKn hP i_X9 0 rfl rfl 1 (by decide) b_127 rfl dX9_put_8 ?_
  refine lv_sipush (v := 900) hx hb dX9_put_11 (by decide) ?_
  refine lv_icmp_ge (tgt := 46) hx hb dX9_put_14 (by decide) (fun h => absurd h (by decide)) (fun _ => ?_)
  refine lv_aload_n hx hb dX9_put_17 rfl (lv_at hl 1 rfl) ?_
  refine g_get (C := RX9) (T := TX9) (N := 6) (ci := 9) (v := .ref b0) FC hKn hP i_X9 0 rfl rfl 0 (by decide) b_131 rfl dX9_put_18 ?_
  refine lv_aload_n hx hb dX9_put_21 rfl (lv_at hl 1 rfl) ?_
  refine g_get (C := RX9) (T := TX9) (N := 6) (ci := 9) (v := .int 15) FC hKn hP i_X9 0 rfl rfl 1 (by decide) b_127 rfl dX9_put_22 ?_
  refine lv_iload_n hx hb dX9_put_25 rfl (lv_at hl 2 rfl) ?_
  refine lv_iload_n hx hb dX9_put_26 rfl (lv_at hl 0 rfl) ?_
  refine lv_ishr hx hb dX9_put_27 ?_
  refine lv_topi (fun z10 e_z10 => ?_)
  refine lv_i2b hx hb dX9_put_28 rfl ?_
  refine lv_topi (fun z11 e_z11 => ?_)
  refine va_bast hx hb hKn.1 hP hD hS 1 1 rfl rfl (by unfold vp_in; decide) dX9_put_29 (fun H locs hP hD hS => ?_)
  have hP : va_P g.1 vwCl [(h0, .inr (9, [.ref b0, .int 15, .int 0, .int 0, .int 0, .int 0])), (b0, .inl (g.2 1, 900, .inl (upd f9 ((15 : Int32).toNatClampNeg) (vp_nar .byte z11))))] H := hP
  have hD : va_D A [(h0, .inr (9, [.ref b0, .int 15, .int 0, .int 0, .int 0, .int 0])), (b0, .inl (g.2 1, 900, .inl (upd f9 ((15 : Int32).toNatClampNeg) (vp_nar .byte z11))))] := hD
  generalize (upd f9 ((15 : Int32).toNatClampNeg) (vp_nar .byte z11) : Nat → Int32) = f12 at hP hD
  refine lv_aload_n hx hb dX9_put_30 rfl (lv_at hl 1 rfl) ?_
  refine lv_dup hx hb dX9_put_31 rfl ?_
  refine g_get (C := RX9) (T := TX9) (N := 6) (ci := 9) (v := .int 15) FC hKn hP i_X9 0 rfl rfl 1 (by decide) b_127 rfl dX9_put_32 ?_
  refine lv_iconst (v := 1) hx hb dX9_put_35 (by decide) ?_
  refine lv_iadd hx hb dX9_put_36 ?_
  refine tp_i (v := 16) (by decide) ?_
  refine g_put (C := RX9) (T := TX9) (N := 6) (ci := 9) (v := .int 16) FC hKn hP hD hS i_X9 tyX9 tyX9_ok nmX9 0 rfl rfl 1 (by decide) b_127 rfl rfl rfl (Nat.le_of_ble_eq_true rfl) dX9_put_37 (fun H locs hP hD hS => ?_)
  have hP : va_P g.1 vwCl [(h0, .inr (9, [.ref b0, .int 16, .int 0, .int 0, .int 0, .int 0])), (b0, .inl (g.2 1, 900, .inl f12))] H := hP
  have hD : va_D A [(h0, .inr (9, [.ref b0, .int 16, .int 0, .int 0, .int 0, .int 0])), (b0, .inl (g.2 1, 900, .inl f12))] := hD
  refine lv_iinc (v := -8) (lv' := [(2, .int (-8)), (0, .ref h0), (1, .int p1)]) hx hb dX9_put_40 hl (k := 0) rfl (by decide) (by decide) rfl (fun ls hl => ?_)
  refine lv_goto (tgt := 3) hx hb dX9_put_43 (by decide) ?_
  refine lv_iload_n hx hb dX9_put_3 rfl (lv_at hl 0 rfl) ?_
  refine lv_if_lt (tgt := 46) hx hb dX9_put_4 (by decide) (fun _ => ?_) (fun h => absurd h (by decide))
  exact rt_v FX f12 rfl trivial (hP.sub [0, 1] rfl) (hD.sub [0, 1] (by decide) rfl) hS (Nat.le_of_ble_eq_true rfl) (Nat.le_of_ble_eq_true rfl) dX9_put_46
set_option maxRecDepth 100000 in
set_option maxHeartbeats 4000000 in
theorem c_X9_put_4 (l : Launch) (g : GG) (h0 : Nat) (b0 : Nat) (ff : Nat → Int32) (p1 : Int32) : Ct l g yX9_put cX9_put 3 none { frames := 0, cells := 0, slots := 0, locals := 0 } [.ref h0, .int p1] [(h0, .inr (9, [.ref b0, .int 16, .int 0, .int 0, .int 0, .int 0])), (b0, .inl (g.2 1, 900, .inl ff))] (S := Nat → Int32) (fun _ => none) (fun _ => True) (fun u => [(h0, .inr (9, [.ref b0, .int 20, .int 0, .int 0, .int 0, .int 0])), (b0, .inl (g.2 1, 900, .inl u))]) := by
  refine Ct.of (by decide) (Nat.le_of_ble_eq_true rfl) ?_
  intro p e s m below meth c A ls FX hP hD hS hl
  obtain ⟨FC, hr, hlk, hKn, hA, hnm⟩ := id FX
  have FC : CallFix p m c cX9_put 3 s _ BIG RX9 := FC
  obtain ⟨hx, hb, hml, hown, hB⟩ := id FC
  have hl : lv_has ls 3 [(0, .ref h0), (1, .int p1)] := hl
  refine lv_bipush (v := 24) hx hb dX9_put_0 (by decide) ?_
  refine lv_istore_n (lv' := [(2, .int 24), (0, .ref h0), (1, .int p1)]) hx hb dX9_put_2 rfl hl (by decide) rfl (fun ls hl => ?_)
  refine lv_iload_n hx hb dX9_put_3 rfl (lv_at hl 0 rfl) ?_
  refine lv_if_lt (tgt := 46) hx hb dX9_put_4 (by decide) (fun h => absurd h (by decide)) (fun _ => ?_)
  refine lv_aload_n hx hb dX9_put_7 rfl (lv_at hl 1 rfl) ?_
  refine g_get (C := RX9) (T := TX9) (N := 6) (ci := 9) (v := .int 16) FC hKn hP i_X9 0 rfl rfl 1 (by decide) b_127 rfl dX9_put_8 ?_
  refine lv_sipush (v := 900) hx hb dX9_put_11 (by decide) ?_
  refine lv_icmp_ge (tgt := 46) hx hb dX9_put_14 (by decide) (fun h => absurd h (by decide)) (fun _ => ?_)
  refine lv_aload_n hx hb dX9_put_17 rfl (lv_at hl 1 rfl) ?_
  refine g_get (C := RX9) (T := TX9) (N := 6) (ci := 9) (v := .ref b0) FC hKn hP i_X9 0 rfl rfl 0 (by decide) b_131 rfl dX9_put_18 ?_
  refine lv_aload_n hx hb dX9_put_21 rfl (lv_at hl 1 rfl) ?_
  refine g_get (C := RX9) (T := TX9) (N := 6) (ci := 9) (v := .int 16) FC hKn hP i_X9 0 rfl rfl 1 (by decide) b_127 rfl dX9_put_22 ?_
  refine lv_iload_n hx hb dX9_put_25 rfl (lv_at hl 2 rfl) ?_
  refine lv_iload_n hx hb dX9_put_26 rfl (lv_at hl 0 rfl) ?_
  refine lv_ishr hx hb dX9_put_27 ?_
  refine lv_topi (fun z1 e_z1 => ?_)
  refine lv_i2b hx hb dX9_put_28 rfl ?_
  refine lv_topi (fun z2 e_z2 => ?_)
  refine va_bast hx hb hKn.1 hP hD hS 1 1 rfl rfl (by unfold vp_in; decide) dX9_put_29 (fun H locs hP hD hS => ?_)
  have hP : va_P g.1 vwCl [(h0, .inr (9, [.ref b0, .int 16, .int 0, .int 0, .int 0, .int 0])), (b0, .inl (g.2 1, 900, .inl (upd ff ((16 : Int32).toNatClampNeg) (vp_nar .byte z2))))] H := hP
  have hD : va_D A [(h0, .inr (9, [.ref b0, .int 16, .int 0, .int 0, .int 0, .int 0])), (b0, .inl (g.2 1, 900, .inl (upd ff ((16 : Int32).toNatClampNeg) (vp_nar .byte z2))))] := hD
  generalize (upd ff ((16 : Int32).toNatClampNeg) (vp_nar .byte z2) : Nat → Int32) = f3 at hP hD
  refine lv_aload_n hx hb dX9_put_30 rfl (lv_at hl 1 rfl) ?_
  refine lv_dup hx hb dX9_put_31 rfl ?_
  refine g_get (C := RX9) (T := TX9) (N := 6) (ci := 9) (v := .int 16) FC hKn hP i_X9 0 rfl rfl 1 (by decide) b_127 rfl dX9_put_32 ?_
  refine lv_iconst (v := 1) hx hb dX9_put_35 (by decide) ?_
  refine lv_iadd hx hb dX9_put_36 ?_
  refine tp_i (v := 17) (by decide) ?_
  refine g_put (C := RX9) (T := TX9) (N := 6) (ci := 9) (v := .int 17) FC hKn hP hD hS i_X9 tyX9 tyX9_ok nmX9 0 rfl rfl 1 (by decide) b_127 rfl rfl rfl (Nat.le_of_ble_eq_true rfl) dX9_put_37 (fun H locs hP hD hS => ?_)
  have hP : va_P g.1 vwCl [(h0, .inr (9, [.ref b0, .int 17, .int 0, .int 0, .int 0, .int 0])), (b0, .inl (g.2 1, 900, .inl f3))] H := hP
  have hD : va_D A [(h0, .inr (9, [.ref b0, .int 17, .int 0, .int 0, .int 0, .int 0])), (b0, .inl (g.2 1, 900, .inl f3))] := hD
  refine lv_iinc (v := 16) (lv' := [(2, .int 16), (0, .ref h0), (1, .int p1)]) hx hb dX9_put_40 hl (k := 0) rfl (by decide) (by decide) rfl (fun ls hl => ?_)
  refine lv_goto (tgt := 3) hx hb dX9_put_43 (by decide) ?_
  refine lv_iload_n hx hb dX9_put_3 rfl (lv_at hl 0 rfl) ?_
  refine lv_if_lt (tgt := 46) hx hb dX9_put_4 (by decide) (fun h => absurd h (by decide)) (fun _ => ?_)
  refine lv_aload_n hx hb dX9_put_7 rfl (lv_at hl 1 rfl) ?_
  refine g_get (C := RX9) (T := TX9) (N := 6) (ci := 9) (v := .int 17) FC hKn hP i_X9 0 rfl rfl 1 (by decide) b_127 rfl dX9_put_8 ?_
  refine lv_sipush (v := 900) hx hb dX9_put_11 (by decide) ?_
  refine lv_icmp_ge (tgt := 46) hx hb dX9_put_14 (by decide) (fun h => absurd h (by decide)) (fun _ => ?_)
  refine lv_aload_n hx hb dX9_put_17 rfl (lv_at hl 1 rfl) ?_
  refine g_get (C := RX9) (T := TX9) (N := 6) (ci := 9) (v := .ref b0) FC hKn hP i_X9 0 rfl rfl 0 (by decide) b_131 rfl dX9_put_18 ?_
  refine lv_aload_n hx hb dX9_put_21 rfl (lv_at hl 1 rfl) ?_
  refine g_get (C := RX9) (T := TX9) (N := 6) (ci := 9) (v := .int 17) FC hKn hP i_X9 0 rfl rfl 1 (by decide) b_127 rfl dX9_put_22 ?_
  refine lv_iload_n hx hb dX9_put_25 rfl (lv_at hl 2 rfl) ?_
  refine lv_iload_n hx hb dX9_put_26 rfl (lv_at hl 0 rfl) ?_
  refine lv_ishr hx hb dX9_put_27 ?_
  refine lv_topi (fun z4 e_z4 => ?_)
  refine lv_i2b hx hb dX9_put_28 rfl ?_
  refine lv_topi (fun z5 e_z5 => ?_)
  refine va_bast hx hb hKn.1 hP hD hS 1 1 rfl rfl (by unfold vp_in; decide) dX9_put_29 (fun H locs hP hD hS => ?_)
  have hP : va_P g.1 vwCl [(h0, .inr (9, [.ref b0, .int 17, .int 0, .int 0, .int 0, .int 0])), (b0, .inl (g.2 1, 900, .inl (upd f3 ((17 : Int32).toNatClampNeg) (vp_nar .byte z5))))] H := hP
  have hD : va_D A [(h0, .inr (9, [.ref b0, .int 17, .int 0, .int 0, .int 0, .int 0])), (b0, .inl (g.2 1, 900, .inl (upd f3 ((17 : Int32).toNatClampNeg) (vp_nar .byte z5))))] := hD
  generalize (upd f3 ((17 : Int32).toNatClampNeg) (vp_nar .byte z5) : Nat → Int32) = f6 at hP hD
  refine lv_aload_n hx hb dX9_put_30 rfl (lv_at hl 1 rfl) ?_
  refine lv_dup hx hb dX9_put_31 rfl ?_
  refine g_get (C := RX9) (T := TX9) (N := 6) (ci := 9) (v := .int 17) FC hKn hP i_X9 0 rfl rfl 1 (by decide) b_127 rfl dX9_put_32 ?_
  refine lv_iconst (v := 1) hx hb dX9_put_35 (by decide) ?_
  refine lv_iadd hx hb dX9_put_36 ?_
  refine tp_i (v := 18) (by decide) ?_
  refine g_put (C := RX9) (T := TX9) (N := 6) (ci := 9) (v := .int 18) FC hKn hP hD hS i_X9 tyX9 tyX9_ok nmX9 0 rfl rfl 1 (by decide) b_127 rfl rfl rfl (Nat.le_of_ble_eq_true rfl) dX9_put_37 (fun H locs hP hD hS => ?_)
  have hP : va_P g.1 vwCl [(h0, .inr (9, [.ref b0, .int 18, .int 0, .int 0, .int 0, .int 0])), (b0, .inl (g.2 1, 900, .inl f6))] H := hP
  have hD : va_D A [(h0, .inr (9, [.ref b0, .int 18, .int 0, .int 0, .int 0, .int 0])), (b0, .inl (g.2 1, 900, .inl f6))] := hD
  refine lv_iinc (v := 8) (lv' := [(2, .int 8), (0, .ref h0), (1, .int p1)]) hx hb dX9_put_40 hl (k := 0) rfl (by decide) (by decide) rfl (fun ls hl => ?_)
  refine lv_goto (tgt := 3) hx hb dX9_put_43 (by decide) ?_
  refine lv_iload_n hx hb dX9_put_3 rfl (lv_at hl 0 rfl) ?_
  refine lv_if_lt (tgt := 46) hx hb dX9_put_4 (by decide) (fun h => absurd h (by decide)) (fun _ => ?_)
  refine lv_aload_n hx hb dX9_put_7 rfl (lv_at hl 1 rfl) ?_
  refine g_get (C := RX9) (T := TX9) (N := 6) (ci := 9) (v := .int 18) FC hKn hP i_X9 0 rfl rfl 1 (by decide) b_127 rfl dX9_put_8 ?_
  refine lv_sipush (v := 900) hx hb dX9_put_11 (by decide) ?_
  refine lv_icmp_ge (tgt := 46) hx hb dX9_put_14 (by decide) (fun h => absurd h (by decide)) (fun _ => ?_)
  refine lv_aload_n hx hb dX9_put_17 rfl (lv_at hl 1 rfl) ?_
  refine g_get (C := RX9) (T := TX9) (N := 6) (ci := 9) (v := .ref b0) FC hKn hP i_X9 0 rfl rfl 0 (by decide) b_131 rfl dX9_put_18 ?_
  refine lv_aload_n hx hb dX9_put_21 rfl (lv_at hl 1 rfl) ?_
  refine g_get (C := RX9) (T := TX9) (N := 6) (ci := 9) (v := .int 18) FC hKn hP i_X9 0 rfl rfl 1 (by decide) b_127 rfl dX9_put_22 ?_
  refine lv_iload_n hx hb dX9_put_25 rfl (lv_at hl 2 rfl) ?_
  refine lv_iload_n hx hb dX9_put_26 rfl (lv_at hl 0 rfl) ?_
  refine lv_ishr hx hb dX9_put_27 ?_
  refine lv_topi (fun z7 e_z7 => ?_)
  refine lv_i2b hx hb dX9_put_28 rfl ?_
  refine lv_topi (fun z8 e_z8 => ?_)
  refine va_bast hx hb hKn.1 hP hD hS 1 1 rfl rfl (by unfold vp_in; decide) dX9_put_29 (fun H locs hP hD hS => ?_)
  have hP : va_P g.1 vwCl [(h0, .inr (9, [.ref b0, .int 18, .int 0, .int 0, .int 0, .int 0])), (b0, .inl (g.2 1, 900, .inl (upd f6 ((18 : Int32).toNatClampNeg) (vp_nar .byte z8))))] H := hP
  have hD : va_D A [(h0, .inr (9, [.ref b0, .int 18, .int 0, .int 0, .int 0, .int 0])), (b0, .inl (g.2 1, 900, .inl (upd f6 ((18 : Int32).toNatClampNeg) (vp_nar .byte z8))))] := hD
  generalize (upd f6 ((18 : Int32).toNatClampNeg) (vp_nar .byte z8) : Nat → Int32) = f9 at hP hD
  refine lv_aload_n hx hb dX9_put_30 rfl (lv_at hl 1 rfl) ?_
  refine lv_dup hx hb dX9_put_31 rfl ?_
  refine g_get (C := RX9) (T := TX9) (N := 6) (ci := 9) (v := .int 18) FC hKn hP i_X9 0 rfl rfl 1 (by decide) b_127 rfl dX9_put_32 ?_
  refine lv_iconst (v := 1) hx hb dX9_put_35 (by decide) ?_
  refine lv_iadd hx hb dX9_put_36 ?_
  refine tp_i (v := 19) (by decide) ?_
  refine g_put (C := RX9) (T := TX9) (N := 6) (ci := 9) (v := .int 19) FC hKn hP hD hS i_X9 tyX9 tyX9_ok nmX9 0 rfl rfl 1 (by decide) b_127 rfl rfl rfl (Nat.le_of_ble_eq_true rfl) dX9_put_37 (fun H locs hP hD hS => ?_)
  have hP : va_P g.1 vwCl [(h0, .inr (9, [.ref b0, .int 19, .int 0, .int 0, .int 0, .int 0])), (b0, .inl (g.2 1, 900, .inl f9))] H := hP
  have hD : va_D A [(h0, .inr (9, [.ref b0, .int 19, .int 0, .int 0, .int 0, .int 0])), (b0, .inl (g.2 1, 900, .inl f9))] := hD
  refine lv_iinc (v := 0) (lv' := [(2, .int 0), (0, .ref h0), (1, .int p1)]) hx hb dX9_put_40 hl (k := 0) rfl (by decide) (by decide) rfl (fun ls hl => ?_)
  refine lv_goto (tgt := 3) hx hb dX9_put_43 (by decide) ?_
  refine lv_iload_n hx hb dX9_put_3 rfl (lv_at hl 0 rfl) ?_
  refine lv_if_lt (tgt := 46) hx hb dX9_put_4 (by decide) (fun h => absurd h (by decide)) (fun _ => ?_)
  refine lv_aload_n hx hb dX9_put_7 rfl (lv_at hl 1 rfl) ?_
  refine g_get (C := RX9) (T := TX9) (N := 6) (ci := 9) (v := .int 19) FC hKn hP i_X9 0 rfl rfl 1 (by decide) b_127 rfl dX9_put_8 ?_
  refine lv_sipush (v := 900) hx hb dX9_put_11 (by decide) ?_
  refine lv_icmp_ge (tgt := 46) hx hb dX9_put_14 (by decide) (fun h => absurd h (by decide)) (fun _ => ?_)
  refine lv_aload_n hx hb dX9_put_17 rfl (lv_at hl 1 rfl) ?_
  refine g_get (C := RX9) (T := TX9) (N := 6) (ci := 9) (v := .ref b0) FC hKn hP i_X9 0 rfl rfl 0 (by decide) b_131 rfl dX9_put_18 ?_
  refine lv_aload_n hx hb dX9_put_21 rfl (lv_at hl 1 rfl) ?_
  refine g_get (C := RX9) (T := TX9) (N := 6) (ci := 9) (v := .int 19) FC hKn hP i_X9 0 rfl rfl 1 (by decide) b_127 rfl dX9_put_22 ?_
  refine lv_iload_n hx hb dX9_put_25 rfl (lv_at hl 2 rfl) ?_
  refine lv_iload_n hx hb dX9_put_26 rfl (lv_at hl 0 rfl) ?_
  refine lv_ishr hx hb dX9_put_27 ?_
  refine lv_topi (fun z10 e_z10 => ?_)
  refine lv_i2b hx hb dX9_put_28 rfl ?_
  refine lv_topi (fun z11 e_z11 => ?_)
  refine va_bast hx hb hKn.1 hP hD hS 1 1 rfl rfl (by unfold vp_in; decide) dX9_put_29 (fun H locs hP hD hS => ?_)
  have hP : va_P g.1 vwCl [(h0, .inr (9, [.ref b0, .int 19, .int 0, .int 0, .int 0, .int 0])), (b0, .inl (g.2 1, 900, .inl (upd f9 ((19 : Int32).toNatClampNeg) (vp_nar .byte z11))))] H := hP
  have hD : va_D A [(h0, .inr (9, [.ref b0, .int 19, .int 0, .int 0, .int 0, .int 0])), (b0, .inl (g.2 1, 900, .inl (upd f9 ((19 : Int32).toNatClampNeg) (vp_nar .byte z11))))] := hD
  generalize (upd f9 ((19 : Int32).toNatClampNeg) (vp_nar .byte z11) : Nat → Int32) = f12 at hP hD
  refine lv_aload_n hx hb dX9_put_30 rfl (lv_at hl 1 rfl) ?_
  refine lv_dup hx hb dX9_put_31 rfl ?_
  refine g_get (C := RX9) (T := TX9) (N := 6) (ci := 9) (v := .int 19) FC hKn hP i_X9 0 rfl rfl 1 (by decide) b_127 rfl dX9_put_32 ?_
  refine lv_iconst (v := 1) hx hb dX9_put_35 (by decide) ?_
  refine lv_iadd hx hb dX9_put_36 ?_
  refine tp_i (v := 20) (by decide) ?_
  refine g_put (C := RX9) (T := TX9) (N := 6) (ci := 9) (v := .int 20) FC hKn hP hD hS i_X9 tyX9 tyX9_ok nmX9 0 rfl rfl 1 (by decide) b_127 rfl rfl rfl (Nat.le_of_ble_eq_true rfl) dX9_put_37 (fun H locs hP hD hS => ?_)
  have hP : va_P g.1 vwCl [(h0, .inr (9, [.ref b0, .int 20, .int 0, .int 0, .int 0, .int 0])), (b0, .inl (g.2 1, 900, .inl f12))] H := hP
  have hD : va_D A [(h0, .inr (9, [.ref b0, .int 20, .int 0, .int 0, .int 0, .int 0])), (b0, .inl (g.2 1, 900, .inl f12))] := hD
  refine lv_iinc (v := -8) (lv' := [(2, .int (-8)), (0, .ref h0), (1, .int p1)]) hx hb dX9_put_40 hl (k := 0) rfl (by decide) (by decide) rfl (fun ls hl => ?_)
  refine lv_goto (tgt := 3) hx hb dX9_put_43 (by decide) ?_
  refine lv_iload_n hx hb dX9_put_3 rfl (lv_at hl 0 rfl) ?_
  refine lv_if_lt (tgt := 46) hx hb dX9_put_4 (by decide) (fun _ => ?_) (fun h => absurd h (by decide))
  exact rt_v FX f12 rfl trivial (hP.sub [0, 1] rfl) (hD.sub [0, 1] (by decide) rfl) hS (Nat.le_of_ble_eq_true rfl) (Nat.le_of_ble_eq_true rfl) dX9_put_46
set_option maxRecDepth 100000 in
set_option maxHeartbeats 4000000 in
theorem c_X1_readDesk (l : Launch) (g : GG) (h0 : Nat) (t0 : Nat) (b0 : Nat) (k0 : Nat) (v0 : Nat) (v1 : Nat) (v2 : Nat) (v3 : Nat) (v4 : Nat) (v5 : Nat) (v6 : Nat) (v7 : Nat) (v8 : Nat) (v9 : Nat) (x0 : Nat) (x1 : Nat) (x2 : Nat) (fa0 : Nat → Int32) (fa2 : Nat → Int32) (fa3 : Nat → Int32) : Ct l g yX1_readDesk cX1_readDesk 2 (some .boolean) { frames := 2, cells := 0, slots := 0, locals := 43 } [.ref h0] [(h0, .inr (1, [.ref t0, .ref k0, .int 0, .int (-1), .int 0])), (t0, .inr (9, [.ref b0, .int 0, .int 0, .int 0, .int 0, .int 0])), (k0, .inr (0, [.int 0, .int 0, .int 0, .int 0, .int 0, .int 0, .int 0, .int 0, .int 0, .int 0, .ref v0, .ref v1, .ref v2, .ref v3, .ref v4, .ref v5, .ref v6, .ref v7, .ref v8, .ref v9])), (v9, .inr (3, [.ref x0, .ref x1, .ref x2, .int 0])), (v0, .inl (g.2 0, 8, .inl fa0)), (v2, .inl (g.2 0, 4, .inl fa2)), (v3, .inl (g.2 0, 4, .inl fa3))] (S := Nat → Nat → Int32) (fun _ => some (.int 1)) (fun _ => True) (fun u => [(h0, .inr (1, [.ref t0, .ref k0, .int 0, .int (-1), .int 0])), (t0, .inr (9, [.ref b0, .int 0, .int 0, .int 0, .int 0, .int 0])), (k0, .inr (0, [.int 0, .int 0, .int 0, .int 0, .int 0, .int 0, .int 0, .int 0, .int 0, .int 0, .ref v0, .ref v1, .ref v2, .ref v3, .ref v4, .ref v5, .ref v6, .ref v7, .ref v8, .ref v9])), (v9, .inr (3, [.ref x0, .ref x1, .ref x2, .int 0])), (v0, .inl (g.2 0, 8, .inl (u 0))), (v2, .inl (g.2 0, 4, .inl (u 1))), (v3, .inl (g.2 0, 4, .inl (u 2)))]) := by
  refine Ct.of (by decide) (Nat.le_of_ble_eq_true rfl) ?_
  intro p e s m below meth c A ls FX hP hD hS hl
  obtain ⟨FC, hr, hlk, hKn, hA, hnm⟩ := id FX
  have FC : CallFix p m c cX1_readDesk 2 s _ BIG RX1 := FC
  obtain ⟨hx, hb, hml, hown, hB⟩ := id FC
  have hl : lv_has ls 2 [(0, .ref h0)] := hl
  refine lv_aload_n hx hb dX1_readDesk_0 rfl (lv_at hl 0 rfl) ?_
  refine lv_iconst (v := 0) hx hb dX1_readDesk_1 (by decide) ?_
  refine g_put (C := RX1) (T := TX1) (N := 5) (ci := 1) (v := .int 0) FC hKn hP hD hS i_X1 tyX1 tyX1_ok nmX1 0 rfl rfl 2 (by decide) b_132 rfl rfl rfl (Nat.le_of_ble_eq_true rfl) dX1_readDesk_2 (fun H locs hP hD hS => ?_)
  have hP : va_P g.1 vwCl [(h0, .inr (1, [.ref t0, .ref k0, .int 0, .int (-1), .int 0])), (t0, .inr (9, [.ref b0, .int 0, .int 0, .int 0, .int 0, .int 0])), (k0, .inr (0, [.int 0, .int 0, .int 0, .int 0, .int 0, .int 0, .int 0, .int 0, .int 0, .int 0, .ref v0, .ref v1, .ref v2, .ref v3, .ref v4, .ref v5, .ref v6, .ref v7, .ref v8, .ref v9])), (v9, .inr (3, [.ref x0, .ref x1, .ref x2, .int 0])), (v0, .inl (g.2 0, 8, .inl fa0)), (v2, .inl (g.2 0, 4, .inl fa2)), (v3, .inl (g.2 0, 4, .inl fa3))] H := hP
  have hD : va_D A [(h0, .inr (1, [.ref t0, .ref k0, .int 0, .int (-1), .int 0])), (t0, .inr (9, [.ref b0, .int 0, .int 0, .int 0, .int 0, .int 0])), (k0, .inr (0, [.int 0, .int 0, .int 0, .int 0, .int 0, .int 0, .int 0, .int 0, .int 0, .int 0, .ref v0, .ref v1, .ref v2, .ref v3, .ref v4, .ref v5, .ref v6, .ref v7, .ref v8, .ref v9])), (v9, .inr (3, [.ref x0, .ref x1, .ref x2, .int 0])), (v0, .inl (g.2 0, 8, .inl fa0)), (v2, .inl (g.2 0, 4, .inl fa2)), (v3, .inl (g.2 0, 4, .inl fa3))] := hD
  refine lv_aload_n hx hb dX1_readDesk_5 rfl (lv_at hl 0 rfl) ?_
  refine lv_iconst (v := -1) hx hb dX1_readDesk_6 (by decide) ?_
  refine g_put (C := RX1) (T := TX1) (N := 5) (ci := 1) (v := .int (-1)) FC hKn hP hD hS i_X1 tyX1 tyX1_ok nmX1 0 rfl rfl 3 (by decide) b_133 rfl rfl rfl (Nat.le_of_ble_eq_true rfl) dX1_readDesk_7 (fun H locs hP hD hS => ?_)
  have hP : va_P g.1 vwCl [(h0, .inr (1, [.ref t0, .ref k0, .int 0, .int (-1), .int 0])), (t0, .inr (9, [.ref b0, .int 0, .int 0, .int 0, .int 0, .int 0])), (k0, .inr (0, [.int 0, .int 0, .int 0, .int 0, .int 0, .int 0, .int 0, .int 0, .int 0, .int 0, .ref v0, .ref v1, .ref v2, .ref v3, .ref v4, .ref v5, .ref v6, .ref v7, .ref v8, .ref v9])), (v9, .inr (3, [.ref x0, .ref x1, .ref x2, .int 0])), (v0, .inl (g.2 0, 8, .inl fa0)), (v2, .inl (g.2 0, 4, .inl fa2)), (v3, .inl (g.2 0, 4, .inl fa3))] H := hP
  have hD : va_D A [(h0, .inr (1, [.ref t0, .ref k0, .int 0, .int (-1), .int 0])), (t0, .inr (9, [.ref b0, .int 0, .int 0, .int 0, .int 0, .int 0])), (k0, .inr (0, [.int 0, .int 0, .int 0, .int 0, .int 0, .int 0, .int 0, .int 0, .int 0, .int 0, .ref v0, .ref v1, .ref v2, .ref v3, .ref v4, .ref v5, .ref v6, .ref v7, .ref v8, .ref v9])), (v9, .inr (3, [.ref x0, .ref x1, .ref x2, .int 0])), (v0, .inl (g.2 0, 8, .inl fa0)), (v2, .inl (g.2 0, 4, .inl fa2)), (v3, .inl (g.2 0, 4, .inl fa3))] := hD
  refine lv_aload_n hx hb dX1_readDesk_10 rfl (lv_at hl 0 rfl) ?_
  refine g_get (C := RX1) (T := TX1) (N := 5) (ci := 1) (v := .ref k0) FC hKn hP i_X1 0 rfl rfl 1 (by decide) b_134 rfl dX1_readDesk_11 ?_
  refine call_VN (As := []) (rest := []) (wr := [(h0, .inr (1, [.ref t0, .ref k0, .int 0, .int (-1), .int 0])), (t0, .inr (9, [.ref b0, .int 0, .int 0, .int 0, .int 0, .int 0]))]) FC hKn (c_X0_clear l g k0 v0 v1 v2 v3 v4 v5 v6 v7 v8 v9 x0 x1 x2 fa0 fa2 fa3) m_yX0_clear b_135 (ci := 0) rfl rfl rfl hP hD hS hA [2, 3, 4, 5, 6] [0, 1] rfl (by decide) rfl (by decide) (by decide) rfl hl.1 rfl (Nat.le_of_ble_eq_true rfl) dX1_readDesk_14 ⟨(Nat.le_of_ble_eq_true rfl), (Nat.le_of_ble_eq_true rfl)⟩ ⟨(Nat.le_of_ble_eq_true rfl), (Nat.le_of_ble_eq_true rfl)⟩ (fun u1 H locs _ hP hD hS => ?_)
  have hP : va_P g.1 vwCl [(h0, .inr (1, [.ref t0, .ref k0, .int 0, .int (-1), .int 0])), (t0, .inr (9, [.ref b0, .int 0, .int 0, .int 0, .int 0, .int 0])), (k0, .inr (0, [.int 0, .int 0, .int 0, .int 0, .int 0, .int 0, .int 0, .int 0, .int 0, .int 0, .ref v0, .ref v1, .ref v2, .ref v3, .ref v4, .ref v5, .ref v6, .ref v7, .ref v8, .ref v9])), (v9, .inr (3, [.ref x0, .ref x1, .ref x2, .int 0])), (v0, .inl (g.2 0, 8, .inl (u1 0))), (v2, .inl (g.2 0, 4, .inl (u1 1))), (v3, .inl (g.2 0, 4, .inl (u1 2)))] H := hP
  have hD : va_D A [(h0, .inr (1, [.ref t0, .ref k0, .int 0, .int (-1), .int 0])), (t0, .inr (9, [.ref b0, .int 0, .int 0, .int 0, .int 0, .int 0])), (k0, .inr (0, [.int 0, .int 0, .int 0, .int 0, .int 0, .int 0, .int 0, .int 0, .int 0, .int 0, .ref v0, .ref v1, .ref v2, .ref v3, .ref v4, .ref v5, .ref v6, .ref v7, .ref v8, .ref v9])), (v9, .inr (3, [.ref x0, .ref x1, .ref x2, .int 0])), (v0, .inl (g.2 0, 8, .inl (u1 0))), (v2, .inl (g.2 0, 4, .inl (u1 1))), (v3, .inl (g.2 0, 4, .inl (u1 2)))] := hD
  refine W.eq (g2 := F0 m 17 ls []) rfl ?_
  refine lv_aload_n hx hb dX1_readDesk_17 rfl (lv_at hl 0 rfl) ?_
  refine g_get (C := RX1) (T := TX1) (N := 5) (ci := 1) (v := .ref t0) FC hKn hP i_X1 0 rfl rfl 0 (by decide) b_136 rfl dX1_readDesk_18 ?_
  refine call_VN (As := []) (rest := []) (wr := [(h0, .inr (1, [.ref t0, .ref k0, .int 0, .int (-1), .int 0])), (k0, .inr (0, [.int 0, .int 0, .int 0, .int 0, .int 0, .int 0, .int 0, .int 0, .int 0, .int 0, .ref v0, .ref v1, .ref v2, .ref v3, .ref v4, .ref v5, .ref v6, .ref v7, .ref v8, .ref v9])), (v9, .inr (3, [.ref x0, .ref x1, .ref x2, .int 0])), (v0, .inl (g.2 0, 8, .inl (u1 0))), (v2, .inl (g.2 0, 4, .inl (u1 1))), (v3, .inl (g.2 0, 4, .inl (u1 2)))]) FC hKn (c_X9_rewind l g t0 b0) m_yX9_rewind b_137 (ci := 9) rfl rfl rfl hP hD hS hA [1] [0, 2, 3, 4, 5, 6] rfl (by decide) rfl (by decide) (by decide) rfl hl.1 rfl (Nat.le_of_ble_eq_true rfl) dX1_readDesk_21 ⟨(Nat.le_of_ble_eq_true rfl), (Nat.le_of_ble_eq_true rfl)⟩ ⟨(Nat.le_of_ble_eq_true rfl), (Nat.le_of_ble_eq_true rfl)⟩ (fun u2 H locs _ hP hD hS => ?_)
  have hP : va_P g.1 vwCl [(h0, .inr (1, [.ref t0, .ref k0, .int 0, .int (-1), .int 0])), (k0, .inr (0, [.int 0, .int 0, .int 0, .int 0, .int 0, .int 0, .int 0, .int 0, .int 0, .int 0, .ref v0, .ref v1, .ref v2, .ref v3, .ref v4, .ref v5, .ref v6, .ref v7, .ref v8, .ref v9])), (v9, .inr (3, [.ref x0, .ref x1, .ref x2, .int 0])), (v0, .inl (g.2 0, 8, .inl (u1 0))), (v2, .inl (g.2 0, 4, .inl (u1 1))), (v3, .inl (g.2 0, 4, .inl (u1 2))), (t0, .inr (9, [.ref b0, .int 0, .int 0, .int 0, .int 0, .int 0]))] H := hP
  have hD : va_D A [(h0, .inr (1, [.ref t0, .ref k0, .int 0, .int (-1), .int 0])), (k0, .inr (0, [.int 0, .int 0, .int 0, .int 0, .int 0, .int 0, .int 0, .int 0, .int 0, .int 0, .ref v0, .ref v1, .ref v2, .ref v3, .ref v4, .ref v5, .ref v6, .ref v7, .ref v8, .ref v9])), (v9, .inr (3, [.ref x0, .ref x1, .ref x2, .int 0])), (v0, .inl (g.2 0, 8, .inl (u1 0))), (v2, .inl (g.2 0, 4, .inl (u1 1))), (v3, .inl (g.2 0, 4, .inl (u1 2))), (t0, .inr (9, [.ref b0, .int 0, .int 0, .int 0, .int 0, .int 0]))] := hD
  refine W.eq (g2 := F0 m 24 ls []) rfl ?_
  refine lv_iconst (v := 0) hx hb dX1_readDesk_24 (by decide) ?_
  refine lv_istore_n (lv' := [(1, .int 0), (0, .ref h0)]) hx hb dX1_readDesk_25 rfl hl (by decide) rfl (fun ls hl => ?_)
  refine lv_iload_n hx hb dX1_readDesk_26 rfl (lv_at hl 0 rfl) ?_
  refine lv_sipush (v := 900) hx hb dX1_readDesk_27 (by decide) ?_
  refine lv_icmp_ge (tgt := 78) hx hb dX1_readDesk_30 (by decide) (fun h => absurd h (by decide)) (fun _ => ?_)
  refine lv_aload_n hx hb dX1_readDesk_33 rfl (lv_at hl 1 rfl) ?_
  refine g_get (C := RX1) (T := TX1) (N := 5) (ci := 1) (v := .ref t0) FC hKn hP i_X1 0 rfl rfl 0 (by decide) b_136 rfl dX1_readDesk_34 ?_
  refine g_getN (C := RX9) (T := TX9) (N := 6) (ci := 9) (v := .int 0) FC hKn hP i_X9 6 rfl rfl 2 (by decide) b_138 rfl dX1_readDesk_37 ?_
  refine lv_if_eq (tgt := 78) hx hb dX1_readDesk_40 (by decide) (fun _ => ?_) (fun h => absurd h (by decide))
  refine lv_iconst (v := 1) hx hb dX1_readDesk_78 (by decide) ?_
  exact rt_z FX rfl (fun k => match k with | 0 => u1 0 | 1 => u1 1 | _ => u1 2) rfl trivial (hP.sub [0, 6, 1, 2, 3, 4, 5] rfl) (hD.sub [0, 6, 1, 2, 3, 4, 5] (by decide) rfl) hS (Nat.le_of_ble_eq_true rfl) (Nat.le_of_ble_eq_true rfl) dX1_readDesk_79
end
section
set_option maxRecDepth 100000 in
set_option maxHeartbeats 4000000 in
theorem c_X11_rowOf (l : Launch) (g : GG) (h0 : Nat) (h1 : Nat) (w0 : Nat) (w2 : Nat) (w3 : Nat) (w4 : Nat) (w5 : Nat) (w6 : Nat) (w7 : Nat) (w8 : Nat) (w9 : Nat) (w10 : Nat) (r0 : Nat) (r1 : Nat) (r2 : Nat) (r3 : Nat) (n0 : Nat) (n1 : Nat) (n2 : Nat) (n3 : Nat) (p1 : Int32) : Ct l g yX11_rowOf cX11_rowOf 3 (some (.object "GentleLetters$Row")) { frames := 1, cells := 0, slots := 0, locals := 20 } [.ref h0, .int p1] [(h0, .inr (11, [.ref w0, .ref h1, .ref w2, .ref w3, .ref w4, .ref w5, .ref w6, .ref w7, .ref w8, .ref w9, .ref w10])), (w4, .inl (g.2 5, 4, .inr (.inr (.inr (.inr (va_up (va_up (va_up (va_up (fun _ => none) 0 (some r0)) 1 (some r1)) 2 (some r2)) 3 (some r3))))))), (r0, .inr (8, [.ref n0, .int 0, .int 0, .int 0])), (r1, .inr (8, [.ref n1, .int 0, .int 0, .int 0])), (r2, .inr (8, [.ref n2, .int 0, .int 0, .int 0])), (r3, .inr (8, [.ref n3, .int 0, .int 0, .int 0]))] (S := Unit) (fun _ => some .null) (fun _ => True) (fun u => [(h0, .inr (11, [.ref w0, .ref h1, .ref w2, .ref w3, .ref w4, .ref w5, .ref w6, .ref w7, .ref w8, .ref w9, .ref w10])), (w4, .inl (g.2 5, 4, .inr (.inr (.inr (.inr (va_up (va_up (va_up (va_up (fun _ => none) 0 (some r0)) 1 (some r1)) 2 (some r2)) 3 (some r3))))))), (r0, .inr (8, [.ref n0, .int 0, .int 0, .int 0])), (r1, .inr (8, [.ref n1, .int 0, .int 0, .int 0])), (r2, .inr (8, [.ref n2, .int 0, .int 0, .int 0])), (r3, .inr (8, [.ref n3, .int 0, .int 0, .int 0]))]) := by
  refine Ct.of (by decide) (Nat.le_of_ble_eq_true rfl) ?_
  intro p e s m below meth c A ls FX hP hD hS hl
  obtain ⟨FC, hr, hlk, hKn, hA, hnm⟩ := id FX
  have FC : CallFix p m c cX11_rowOf 3 s _ BIG RX11 := FC
  obtain ⟨hx, hb, hml, hown, hB⟩ := id FC
  have hl : lv_has ls 3 [(0, .ref h0), (1, .int p1)] := hl
  refine lv_iload_n hx hb dX11_rowOf_0 rfl (lv_at hl 1 rfl) ?_
  refine call_S (As := [.int p1]) (rest := []) (wr := [(h0, .inr (11, [.ref w0, .ref h1, .ref w2, .ref w3, .ref w4, .ref w5, .ref w6, .ref w7, .ref w8, .ref w9, .ref w10])), (w4, .inl (g.2 5, 4, .inr (.inr (.inr (.inr (va_up (va_up (va_up (va_up (fun _ => none) 0 (some r0)) 1 (some r1)) 2 (some r2)) 3 (some r3))))))), (r0, .inr (8, [.ref n0, .int 0, .int 0, .int 0])), (r1, .inr (8, [.ref n1, .int 0, .int 0, .int 0])), (r2, .inr (8, [.ref n2, .int 0, .int 0, .int 0])), (r3, .inr (8, [.ref n3, .int 0, .int 0, .int 0]))]) FC hKn (c_X11_isSlot l g p1) m_yX11_isSlot b_9 hP hD hS hA [] [0, 1, 2, 3, 4, 5] rfl (by decide) rfl (by decide) (by decide) rfl hl.1 rfl (Nat.le_of_ble_eq_true rfl) dX11_rowOf_1 ⟨(Nat.le_of_ble_eq_true rfl), (Nat.le_of_ble_eq_true rfl)⟩ ⟨(Nat.le_of_ble_eq_true rfl), (Nat.le_of_ble_eq_true rfl)⟩ (fun u1 H locs _ hP hD hS => ?_)
  have hP : va_P g.1 vwCl [(h0, .inr (11, [.ref w0, .ref h1, .ref w2, .ref w3, .ref w4, .ref w5, .ref w6, .ref w7, .ref w8, .ref w9, .ref w10])), (w4, .inl (g.2 5, 4, .inr (.inr (.inr (.inr (va_up (va_up (va_up (va_up (fun _ => none) 0 (some r0)) 1 (some r1)) 2 (some r2)) 3 (some r3))))))), (r0, .inr (8, [.ref n0, .int 0, .int 0, .int 0])), (r1, .inr (8, [.ref n1, .int 0, .int 0, .int 0])), (r2, .inr (8, [.ref n2, .int 0, .int 0, .int 0])), (r3, .inr (8, [.ref n3, .int 0, .int 0, .int 0]))] H := hP
  have hD : va_D A [(h0, .inr (11, [.ref w0, .ref h1, .ref w2, .ref w3, .ref w4, .ref w5, .ref w6, .ref w7, .ref w8, .ref w9, .ref w10])), (w4, .inl (g.2 5, 4, .inr (.inr (.inr (.inr (va_up (va_up (va_up (va_up (fun _ => none) 0 (some r0)) 1 (some r1)) 2 (some r2)) 3 (some r3))))))), (r0, .inr (8, [.ref n0, .int 0, .int 0, .int 0])), (r1, .inr (8, [.ref n1, .int 0, .int 0, .int 0])), (r2, .inr (8, [.ref n2, .int 0, .int 0, .int 0])), (r3, .inr (8, [.ref n3, .int 0, .int 0, .int 0]))] := hD
  refine W.eq (g2 := F0 m 4 ls [.int (sp_slot p1)]) rfl ?_
  by_cases c2 : 0 ≤ p1.toInt ∧ p1.toInt ≤ 3
  · refine tp_i (v := 1) (if_pos c2) ?_
    refine lv_if_eq (tgt := 16) hx hb dX11_rowOf_4 (by decide) (fun h => absurd h (by decide)) (fun _ => ?_)
    refine lv_aload_n hx hb dX11_rowOf_7 rfl (lv_at hl 0 rfl) ?_
    refine g_get (C := RX11) (T := TX11) (N := 11) (ci := 11) (v := .ref w4) FC hKn hP i_X11 0 rfl rfl 4 (by decide) b_139 rfl dX11_rowOf_8 ?_
    refine lv_iload_n hx hb dX11_rowOf_11 rfl (lv_at hl 1 rfl) ?_
    rcases (show p1.toInt = 0 ∨ p1.toInt = 1 ∨ p1.toInt = 2 ∨ p1.toInt = 3 by omega) with hv | hv | hv | hv
    · obtain rfl : p1 = 0 := Int32.toInt_inj.mp (hv.trans (by decide))
      refine va_aldq hx hb hKn.1 hP 1 5 rfl rfl (by unfold vp_in; decide) dX11_rowOf_12 ?_
      refine W.eq (g2 := F0 m 13 ls [.ref r0]) rfl ?_
      refine lv_goto (tgt := 17) hx hb dX11_rowOf_13 (by decide) ?_
      refine lv_astore_n (lv' := [(2, .ref r0), (0, .ref h0), (1, .int 0)]) hx hb dX11_rowOf_17 rfl hl (by decide) rfl (fun ls hl => ?_)
      refine lv_aload_n hx hb dX11_rowOf_18 rfl (lv_at hl 0 rfl) ?_
      refine lv_ifnull hx hb dX11_rowOf_19 ?_
      refine lv_aload_n hx hb dX11_rowOf_22 rfl (lv_at hl 0 rfl) ?_
      refine g_getN (C := RX8) (T := TX8) (N := 4) (ci := 8) (v := .int 0) FC hKn hP i_X8 2 rfl rfl 1 (by decide) b_140 rfl dX11_rowOf_23 ?_
      refine lv_if_eq (tgt := 33) hx hb dX11_rowOf_26 (by decide) (fun _ => ?_) (fun h => absurd h (by decide))
      refine lv_null hx hb dX11_rowOf_33 ?_
      exact rt_n FX () rfl trivial (hP.sub [0, 1, 2, 3, 4, 5] rfl) (hD.sub [0, 1, 2, 3, 4, 5] (by decide) rfl) hS (Nat.le_of_ble_eq_true rfl) (Nat.le_of_ble_eq_true rfl) dX11_rowOf_34
    · obtain rfl : p1 = 1 := Int32.toInt_inj.mp (hv.trans (by decide))
      refine va_aldq hx hb hKn.1 hP 1 5 rfl rfl (by unfold vp_in; decide) dX11_rowOf_12 ?_
      refine W.eq (g2 := F0 m 13 ls [.ref r1]) rfl ?_
      refine lv_goto (tgt := 17) hx hb dX11_rowOf_13 (by decide) ?_
      refine lv_astore_n (lv' := [(2, .ref r1), (0, .ref h0), (1, .int 1)]) hx hb dX11_rowOf_17 rfl hl (by decide) rfl (fun ls hl => ?_)
      refine lv_aload_n hx hb dX11_rowOf_18 rfl (lv_at hl 0 rfl) ?_
      refine lv_ifnull hx hb dX11_rowOf_19 ?_
      refine lv_aload_n hx hb dX11_rowOf_22 rfl (lv_at hl 0 rfl) ?_
      refine g_getN (C := RX8) (T := TX8) (N := 4) (ci := 8) (v := .int 0) FC hKn hP i_X8 3 rfl rfl 1 (by decide) b_140 rfl dX11_rowOf_23 ?_
      refine lv_if_eq (tgt := 33) hx hb dX11_rowOf_26 (by decide) (fun _ => ?_) (fun h => absurd h (by decide))
      refine lv_null hx hb dX11_rowOf_33 ?_
      exact rt_n FX () rfl trivial (hP.sub [0, 1, 2, 3, 4, 5] rfl) (hD.sub [0, 1, 2, 3, 4, 5] (by decide) rfl) hS (Nat.le_of_ble_eq_true rfl) (Nat.le_of_ble_eq_true rfl) dX11_rowOf_34
    · obtain rfl : p1 = 2 := Int32.toInt_inj.mp (hv.trans (by decide))
      refine va_aldq hx hb hKn.1 hP 1 5 rfl rfl (by unfold vp_in; decide) dX11_rowOf_12 ?_
      refine W.eq (g2 := F0 m 13 ls [.ref r2]) rfl ?_
      refine lv_goto (tgt := 17) hx hb dX11_rowOf_13 (by decide) ?_
      refine lv_astore_n (lv' := [(2, .ref r2), (0, .ref h0), (1, .int 2)]) hx hb dX11_rowOf_17 rfl hl (by decide) rfl (fun ls hl => ?_)
      refine lv_aload_n hx hb dX11_rowOf_18 rfl (lv_at hl 0 rfl) ?_
      refine lv_ifnull hx hb dX11_rowOf_19 ?_
      refine lv_aload_n hx hb dX11_rowOf_22 rfl (lv_at hl 0 rfl) ?_
      refine g_getN (C := RX8) (T := TX8) (N := 4) (ci := 8) (v := .int 0) FC hKn hP i_X8 4 rfl rfl 1 (by decide) b_140 rfl dX11_rowOf_23 ?_
      refine lv_if_eq (tgt := 33) hx hb dX11_rowOf_26 (by decide) (fun _ => ?_) (fun h => absurd h (by decide))
      refine lv_null hx hb dX11_rowOf_33 ?_
      exact rt_n FX () rfl trivial (hP.sub [0, 1, 2, 3, 4, 5] rfl) (hD.sub [0, 1, 2, 3, 4, 5] (by decide) rfl) hS (Nat.le_of_ble_eq_true rfl) (Nat.le_of_ble_eq_true rfl) dX11_rowOf_34
    · obtain rfl : p1 = 3 := Int32.toInt_inj.mp (hv.trans (by decide))
      refine va_aldq hx hb hKn.1 hP 1 5 rfl rfl (by unfold vp_in; decide) dX11_rowOf_12 ?_
      refine W.eq (g2 := F0 m 13 ls [.ref r3]) rfl ?_
      refine lv_goto (tgt := 17) hx hb dX11_rowOf_13 (by decide) ?_
      refine lv_astore_n (lv' := [(2, .ref r3), (0, .ref h0), (1, .int 3)]) hx hb dX11_rowOf_17 rfl hl (by decide) rfl (fun ls hl => ?_)
      refine lv_aload_n hx hb dX11_rowOf_18 rfl (lv_at hl 0 rfl) ?_
      refine lv_ifnull hx hb dX11_rowOf_19 ?_
      refine lv_aload_n hx hb dX11_rowOf_22 rfl (lv_at hl 0 rfl) ?_
      refine g_getN (C := RX8) (T := TX8) (N := 4) (ci := 8) (v := .int 0) FC hKn hP i_X8 5 rfl rfl 1 (by decide) b_140 rfl dX11_rowOf_23 ?_
      refine lv_if_eq (tgt := 33) hx hb dX11_rowOf_26 (by decide) (fun _ => ?_) (fun h => absurd h (by decide))
      refine lv_null hx hb dX11_rowOf_33 ?_
      exact rt_n FX () rfl trivial (hP.sub [0, 1, 2, 3, 4, 5] rfl) (hD.sub [0, 1, 2, 3, 4, 5] (by decide) rfl) hS (Nat.le_of_ble_eq_true rfl) (Nat.le_of_ble_eq_true rfl) dX11_rowOf_34
  · refine tp_i (v := 0) (if_neg c2) ?_
    refine lv_if_eq (tgt := 16) hx hb dX11_rowOf_4 (by decide) (fun _ => ?_) (fun h => absurd h (by decide))
    refine lv_null hx hb dX11_rowOf_16 ?_
    refine lv_astore_nN (lv' := [(2, .null), (0, .ref h0), (1, .int p1)]) hx hb dX11_rowOf_17 rfl hl (by decide) rfl (fun ls hl => ?_)
    refine lv_aload_nN hx hb dX11_rowOf_18 rfl (lv_at hl 0 rfl) ?_
    refine lv_ifnullN (tgt := 33) hx hb dX11_rowOf_19 (by decide) ?_
    refine lv_null hx hb dX11_rowOf_33 ?_
    exact rt_n FX () rfl trivial (hP.sub [0, 1, 2, 3, 4, 5] rfl) (hD.sub [0, 1, 2, 3, 4, 5] (by decide) rfl) hS (Nat.le_of_ble_eq_true rfl) (Nat.le_of_ble_eq_true rfl) dX11_rowOf_34
set_option maxRecDepth 100000 in
set_option maxHeartbeats 4000000 in
theorem c_X11_countRows (l : Launch) (g : GG) (h0 : Nat) (h1 : Nat) (w0 : Nat) (w2 : Nat) (w3 : Nat) (w4 : Nat) (w5 : Nat) (w6 : Nat) (w7 : Nat) (w8 : Nat) (w9 : Nat) (w10 : Nat) (r0 : Nat) (r1 : Nat) (r2 : Nat) (r3 : Nat) (n0 : Nat) (n1 : Nat) (n2 : Nat) (n3 : Nat) : Ct l g yX11_countRows cX11_countRows 3 (some .int) { frames := 2, cells := 0, slots := 0, locals := 42 } [.ref h0] [(h0, .inr (11, [.ref w0, .ref h1, .ref w2, .ref w3, .ref w4, .ref w5, .ref w6, .ref w7, .ref w8, .ref w9, .ref w10])), (w4, .inl (g.2 5, 4, .inr (.inr (.inr (.inr (va_up (va_up (va_up (va_up (fun _ => none) 0 (some r0)) 1 (some r1)) 2 (some r2)) 3 (some r3))))))), (r0, .inr (8, [.ref n0, .int 0, .int 0, .int 0])), (r1, .inr (8, [.ref n1, .int 0, .int 0, .int 0])), (r2, .inr (8, [.ref n2, .int 0, .int 0, .int 0])), (r3, .inr (8, [.ref n3, .int 0, .int 0, .int 0]))] (S := Unit) (fun _ => some (.int 0)) (fun _ => True) (fun u => [(h0, .inr (11, [.ref w0, .ref h1, .ref w2, .ref w3, .ref w4, .ref w5, .ref w6, .ref w7, .ref w8, .ref w9, .ref w10])), (w4, .inl (g.2 5, 4, .inr (.inr (.inr (.inr (va_up (va_up (va_up (va_up (fun _ => none) 0 (some r0)) 1 (some r1)) 2 (some r2)) 3 (some r3))))))), (r0, .inr (8, [.ref n0, .int 0, .int 0, .int 0])), (r1, .inr (8, [.ref n1, .int 0, .int 0, .int 0])), (r2, .inr (8, [.ref n2, .int 0, .int 0, .int 0])), (r3, .inr (8, [.ref n3, .int 0, .int 0, .int 0]))]) := by
  refine Ct.of (by decide) (Nat.le_of_ble_eq_true rfl) ?_
  intro p e s m below meth c A ls FX hP hD hS hl
  obtain ⟨FC, hr, hlk, hKn, hA, hnm⟩ := id FX
  have FC : CallFix p m c cX11_countRows 3 s _ BIG RX11 := FC
  obtain ⟨hx, hb, hml, hown, hB⟩ := id FC
  have hl : lv_has ls 3 [(0, .ref h0)] := hl
  refine lv_iconst (v := 0) hx hb dX11_countRows_0 (by decide) ?_
  refine lv_istore_n (lv' := [(1, .int 0), (0, .ref h0)]) hx hb dX11_countRows_1 rfl hl (by decide) rfl (fun ls hl => ?_)
  refine lv_iconst (v := 0) hx hb dX11_countRows_2 (by decide) ?_
  refine lv_istore_n (lv' := [(2, .int 0), (1, .int 0), (0, .ref h0)]) hx hb dX11_countRows_3 rfl hl (by decide) rfl (fun ls hl => ?_)
  refine lv_iload_n hx hb dX11_countRows_4 rfl (lv_at hl 0 rfl) ?_
  refine lv_iconst (v := 4) hx hb dX11_countRows_5 (by decide) ?_
  refine lv_icmp_ge (tgt := 26) hx hb dX11_countRows_6 (by decide) (fun h => absurd h (by decide)) (fun _ => ?_)
  refine lv_aload_n hx hb dX11_countRows_9 rfl (lv_at hl 2 rfl) ?_
  refine lv_iload_n hx hb dX11_countRows_10 rfl (lv_at hl 0 rfl) ?_
  refine call_V (As := [.int 0]) (rest := []) (wr := []) FC hKn (c_X11_rowOf l g h0 h1 w0 w2 w3 w4 w5 w6 w7 w8 w9 w10 r0 r1 r2 r3 n0 n1 n2 n3 0) m_yX11_rowOf b_141 (ci := 11) rfl rfl rfl hP hD hS hA [0, 1, 2, 3, 4, 5] [] rfl (by decide) rfl (by decide) (by decide) rfl hl.1 rfl (Nat.le_of_ble_eq_true rfl) dX11_countRows_11 ⟨(Nat.le_of_ble_eq_true rfl), (Nat.le_of_ble_eq_true rfl)⟩ ⟨(Nat.le_of_ble_eq_true rfl), (Nat.le_of_ble_eq_true rfl)⟩ (fun u1 H locs _ hP hD hS => ?_)
  have hP : va_P g.1 vwCl [(h0, .inr (11, [.ref w0, .ref h1, .ref w2, .ref w3, .ref w4, .ref w5, .ref w6, .ref w7, .ref w8, .ref w9, .ref w10])), (w4, .inl (g.2 5, 4, .inr (.inr (.inr (.inr (va_up (va_up (va_up (va_up (fun _ => none) 0 (some r0)) 1 (some r1)) 2 (some r2)) 3 (some r3))))))), (r0, .inr (8, [.ref n0, .int 0, .int 0, .int 0])), (r1, .inr (8, [.ref n1, .int 0, .int 0, .int 0])), (r2, .inr (8, [.ref n2, .int 0, .int 0, .int 0])), (r3, .inr (8, [.ref n3, .int 0, .int 0, .int 0]))] H := hP
  have hD : va_D A [(h0, .inr (11, [.ref w0, .ref h1, .ref w2, .ref w3, .ref w4, .ref w5, .ref w6, .ref w7, .ref w8, .ref w9, .ref w10])), (w4, .inl (g.2 5, 4, .inr (.inr (.inr (.inr (va_up (va_up (va_up (va_up (fun _ => none) 0 (some r0)) 1 (some r1)) 2 (some r2)) 3 (some r3))))))), (r0, .inr (8, [.ref n0, .int 0, .int 0, .int 0])), (r1, .inr (8, [.ref n1, .int 0, .int 0, .int 0])), (r2, .inr (8, [.ref n2, .int 0, .int 0, .int 0])), (r3, .inr (8, [.ref n3, .int 0, .int 0, .int 0]))] := hD
  refine W.eq (g2 := F0 m 14 ls [.null]) rfl ?_
  refine lv_ifnullN (tgt := 20) hx hb dX11_countRows_14 (by decide) ?_
  refine lv_iinc (v := 1) (lv' := [(2, .int 1), (1, .int 0), (0, .ref h0)]) hx hb dX11_countRows_20 hl (k := 0) rfl (by decide) (by decide) rfl (fun ls hl => ?_)
  refine lv_goto (tgt := 4) hx hb dX11_countRows_23 (by decide) ?_
  refine lv_iload_n hx hb dX11_countRows_4 rfl (lv_at hl 0 rfl) ?_
  refine lv_iconst (v := 4) hx hb dX11_countRows_5 (by decide) ?_
  refine lv_icmp_ge (tgt := 26) hx hb dX11_countRows_6 (by decide) (fun h => absurd h (by decide)) (fun _ => ?_)
  refine lv_aload_n hx hb dX11_countRows_9 rfl (lv_at hl 2 rfl) ?_
  refine lv_iload_n hx hb dX11_countRows_10 rfl (lv_at hl 0 rfl) ?_
  refine call_V (As := [.int 1]) (rest := []) (wr := []) FC hKn (c_X11_rowOf l g h0 h1 w0 w2 w3 w4 w5 w6 w7 w8 w9 w10 r0 r1 r2 r3 n0 n1 n2 n3 1) m_yX11_rowOf b_141 (ci := 11) rfl rfl rfl hP hD hS hA [0, 1, 2, 3, 4, 5] [] rfl (by decide) rfl (by decide) (by decide) rfl hl.1 rfl (Nat.le_of_ble_eq_true rfl) dX11_countRows_11 ⟨(Nat.le_of_ble_eq_true rfl), (Nat.le_of_ble_eq_true rfl)⟩ ⟨(Nat.le_of_ble_eq_true rfl), (Nat.le_of_ble_eq_true rfl)⟩ (fun u2 H locs _ hP hD hS => ?_)
  have hP : va_P g.1 vwCl [(h0, .inr (11, [.ref w0, .ref h1, .ref w2, .ref w3, .ref w4, .ref w5, .ref w6, .ref w7, .ref w8, .ref w9, .ref w10])), (w4, .inl (g.2 5, 4, .inr (.inr (.inr (.inr (va_up (va_up (va_up (va_up (fun _ => none) 0 (some r0)) 1 (some r1)) 2 (some r2)) 3 (some r3))))))), (r0, .inr (8, [.ref n0, .int 0, .int 0, .int 0])), (r1, .inr (8, [.ref n1, .int 0, .int 0, .int 0])), (r2, .inr (8, [.ref n2, .int 0, .int 0, .int 0])), (r3, .inr (8, [.ref n3, .int 0, .int 0, .int 0]))] H := hP
  have hD : va_D A [(h0, .inr (11, [.ref w0, .ref h1, .ref w2, .ref w3, .ref w4, .ref w5, .ref w6, .ref w7, .ref w8, .ref w9, .ref w10])), (w4, .inl (g.2 5, 4, .inr (.inr (.inr (.inr (va_up (va_up (va_up (va_up (fun _ => none) 0 (some r0)) 1 (some r1)) 2 (some r2)) 3 (some r3))))))), (r0, .inr (8, [.ref n0, .int 0, .int 0, .int 0])), (r1, .inr (8, [.ref n1, .int 0, .int 0, .int 0])), (r2, .inr (8, [.ref n2, .int 0, .int 0, .int 0])), (r3, .inr (8, [.ref n3, .int 0, .int 0, .int 0]))] := hD
  refine W.eq (g2 := F0 m 14 ls [.null]) rfl ?_
  refine lv_ifnullN (tgt := 20) hx hb dX11_countRows_14 (by decide) ?_
  refine lv_iinc (v := 2) (lv' := [(2, .int 2), (1, .int 0), (0, .ref h0)]) hx hb dX11_countRows_20 hl (k := 0) rfl (by decide) (by decide) rfl (fun ls hl => ?_)
  refine lv_goto (tgt := 4) hx hb dX11_countRows_23 (by decide) ?_
  refine lv_iload_n hx hb dX11_countRows_4 rfl (lv_at hl 0 rfl) ?_
  refine lv_iconst (v := 4) hx hb dX11_countRows_5 (by decide) ?_
  refine lv_icmp_ge (tgt := 26) hx hb dX11_countRows_6 (by decide) (fun h => absurd h (by decide)) (fun _ => ?_)
  refine lv_aload_n hx hb dX11_countRows_9 rfl (lv_at hl 2 rfl) ?_
  refine lv_iload_n hx hb dX11_countRows_10 rfl (lv_at hl 0 rfl) ?_
  refine call_V (As := [.int 2]) (rest := []) (wr := []) FC hKn (c_X11_rowOf l g h0 h1 w0 w2 w3 w4 w5 w6 w7 w8 w9 w10 r0 r1 r2 r3 n0 n1 n2 n3 2) m_yX11_rowOf b_141 (ci := 11) rfl rfl rfl hP hD hS hA [0, 1, 2, 3, 4, 5] [] rfl (by decide) rfl (by decide) (by decide) rfl hl.1 rfl (Nat.le_of_ble_eq_true rfl) dX11_countRows_11 ⟨(Nat.le_of_ble_eq_true rfl), (Nat.le_of_ble_eq_true rfl)⟩ ⟨(Nat.le_of_ble_eq_true rfl), (Nat.le_of_ble_eq_true rfl)⟩ (fun u3 H locs _ hP hD hS => ?_)
  have hP : va_P g.1 vwCl [(h0, .inr (11, [.ref w0, .ref h1, .ref w2, .ref w3, .ref w4, .ref w5, .ref w6, .ref w7, .ref w8, .ref w9, .ref w10])), (w4, .inl (g.2 5, 4, .inr (.inr (.inr (.inr (va_up (va_up (va_up (va_up (fun _ => none) 0 (some r0)) 1 (some r1)) 2 (some r2)) 3 (some r3))))))), (r0, .inr (8, [.ref n0, .int 0, .int 0, .int 0])), (r1, .inr (8, [.ref n1, .int 0, .int 0, .int 0])), (r2, .inr (8, [.ref n2, .int 0, .int 0, .int 0])), (r3, .inr (8, [.ref n3, .int 0, .int 0, .int 0]))] H := hP
  have hD : va_D A [(h0, .inr (11, [.ref w0, .ref h1, .ref w2, .ref w3, .ref w4, .ref w5, .ref w6, .ref w7, .ref w8, .ref w9, .ref w10])), (w4, .inl (g.2 5, 4, .inr (.inr (.inr (.inr (va_up (va_up (va_up (va_up (fun _ => none) 0 (some r0)) 1 (some r1)) 2 (some r2)) 3 (some r3))))))), (r0, .inr (8, [.ref n0, .int 0, .int 0, .int 0])), (r1, .inr (8, [.ref n1, .int 0, .int 0, .int 0])), (r2, .inr (8, [.ref n2, .int 0, .int 0, .int 0])), (r3, .inr (8, [.ref n3, .int 0, .int 0, .int 0]))] := hD
  refine W.eq (g2 := F0 m 14 ls [.null]) rfl ?_
  refine lv_ifnullN (tgt := 20) hx hb dX11_countRows_14 (by decide) ?_
  refine lv_iinc (v := 3) (lv' := [(2, .int 3), (1, .int 0), (0, .ref h0)]) hx hb dX11_countRows_20 hl (k := 0) rfl (by decide) (by decide) rfl (fun ls hl => ?_)
  refine lv_goto (tgt := 4) hx hb dX11_countRows_23 (by decide) ?_
  refine lv_iload_n hx hb dX11_countRows_4 rfl (lv_at hl 0 rfl) ?_
  refine lv_iconst (v := 4) hx hb dX11_countRows_5 (by decide) ?_
  refine lv_icmp_ge (tgt := 26) hx hb dX11_countRows_6 (by decide) (fun h => absurd h (by decide)) (fun _ => ?_)
  refine lv_aload_n hx hb dX11_countRows_9 rfl (lv_at hl 2 rfl) ?_
  refine lv_iload_n hx hb dX11_countRows_10 rfl (lv_at hl 0 rfl) ?_
  refine call_V (As := [.int 3]) (rest := []) (wr := []) FC hKn (c_X11_rowOf l g h0 h1 w0 w2 w3 w4 w5 w6 w7 w8 w9 w10 r0 r1 r2 r3 n0 n1 n2 n3 3) m_yX11_rowOf b_141 (ci := 11) rfl rfl rfl hP hD hS hA [0, 1, 2, 3, 4, 5] [] rfl (by decide) rfl (by decide) (by decide) rfl hl.1 rfl (Nat.le_of_ble_eq_true rfl) dX11_countRows_11 ⟨(Nat.le_of_ble_eq_true rfl), (Nat.le_of_ble_eq_true rfl)⟩ ⟨(Nat.le_of_ble_eq_true rfl), (Nat.le_of_ble_eq_true rfl)⟩ (fun u4 H locs _ hP hD hS => ?_)
  have hP : va_P g.1 vwCl [(h0, .inr (11, [.ref w0, .ref h1, .ref w2, .ref w3, .ref w4, .ref w5, .ref w6, .ref w7, .ref w8, .ref w9, .ref w10])), (w4, .inl (g.2 5, 4, .inr (.inr (.inr (.inr (va_up (va_up (va_up (va_up (fun _ => none) 0 (some r0)) 1 (some r1)) 2 (some r2)) 3 (some r3))))))), (r0, .inr (8, [.ref n0, .int 0, .int 0, .int 0])), (r1, .inr (8, [.ref n1, .int 0, .int 0, .int 0])), (r2, .inr (8, [.ref n2, .int 0, .int 0, .int 0])), (r3, .inr (8, [.ref n3, .int 0, .int 0, .int 0]))] H := hP
  have hD : va_D A [(h0, .inr (11, [.ref w0, .ref h1, .ref w2, .ref w3, .ref w4, .ref w5, .ref w6, .ref w7, .ref w8, .ref w9, .ref w10])), (w4, .inl (g.2 5, 4, .inr (.inr (.inr (.inr (va_up (va_up (va_up (va_up (fun _ => none) 0 (some r0)) 1 (some r1)) 2 (some r2)) 3 (some r3))))))), (r0, .inr (8, [.ref n0, .int 0, .int 0, .int 0])), (r1, .inr (8, [.ref n1, .int 0, .int 0, .int 0])), (r2, .inr (8, [.ref n2, .int 0, .int 0, .int 0])), (r3, .inr (8, [.ref n3, .int 0, .int 0, .int 0]))] := hD
  refine W.eq (g2 := F0 m 14 ls [.null]) rfl ?_
  refine lv_ifnullN (tgt := 20) hx hb dX11_countRows_14 (by decide) ?_
  refine lv_iinc (v := 4) (lv' := [(2, .int 4), (1, .int 0), (0, .ref h0)]) hx hb dX11_countRows_20 hl (k := 0) rfl (by decide) (by decide) rfl (fun ls hl => ?_)
  refine lv_goto (tgt := 4) hx hb dX11_countRows_23 (by decide) ?_
  refine lv_iload_n hx hb dX11_countRows_4 rfl (lv_at hl 0 rfl) ?_
  refine lv_iconst (v := 4) hx hb dX11_countRows_5 (by decide) ?_
  refine lv_icmp_ge (tgt := 26) hx hb dX11_countRows_6 (by decide) (fun _ => ?_) (fun h => absurd h (by decide))
  refine lv_iload_n hx hb dX11_countRows_26 rfl (lv_at hl 1 rfl) ?_
  exact rt_i FX () rfl trivial (hP.sub [0, 1, 2, 3, 4, 5] rfl) (hD.sub [0, 1, 2, 3, 4, 5] (by decide) rfl) hS (Nat.le_of_ble_eq_true rfl) (Nat.le_of_ble_eq_true rfl) dX11_countRows_27
set_option maxRecDepth 100000 in
set_option maxHeartbeats 4000000 in
theorem c_X11_write (l : Launch) (g : GG) (h0 : Nat) (h1 : Nat) (w0 : Nat) (w2 : Nat) (w3 : Nat) (w4 : Nat) (w5 : Nat) (w6 : Nat) (w7 : Nat) (w8 : Nat) (w9 : Nat) (w10 : Nat) (r0 : Nat) (r1 : Nat) (r2 : Nat) (r3 : Nat) (n0 : Nat) (n1 : Nat) (n2 : Nat) (n3 : Nat) (p1 : Int32) (p2 : Int32) (p3 : Int64) : Ct l g yX11_write cX11_write 6 (some .int) { frames := 2, cells := 0, slots := 0, locals := 42 } [.ref h0, .int p1, .int p2, .long p3] [(h0, .inr (11, [.ref w0, .ref h1, .ref w2, .ref w3, .ref w4, .ref w5, .ref w6, .ref w7, .ref w8, .ref w9, .ref w10])), (w4, .inl (g.2 5, 4, .inr (.inr (.inr (.inr (va_up (va_up (va_up (va_up (fun _ => none) 0 (some r0)) 1 (some r1)) 2 (some r2)) 3 (some r3))))))), (r0, .inr (8, [.ref n0, .int 0, .int 0, .int 0])), (r1, .inr (8, [.ref n1, .int 0, .int 0, .int 0])), (r2, .inr (8, [.ref n2, .int 0, .int 0, .int 0])), (r3, .inr (8, [.ref n3, .int 0, .int 0, .int 0]))] (S := Unit) (fun _ => some (.int (sp_write p1))) (fun _ => True) (fun u => []) := by
  refine Ct.of (by decide) (Nat.le_of_ble_eq_true rfl) ?_
  intro p e s m below meth c A ls FX hP hD hS hl
  obtain ⟨FC, hr, hlk, hKn, hA, hnm⟩ := id FX
  have FC : CallFix p m c cX11_write 6 s _ BIG RX11 := FC
  obtain ⟨hx, hb, hml, hown, hB⟩ := id FC
  have hl : lv_has ls 6 [(0, .ref h0), (1, .int p1), (2, .int p2), (3, .long p3)] := hl
  refine lv_iload_n hx hb dX11_write_0 rfl (lv_at hl 1 rfl) ?_
  refine call_S (As := [.int p1]) (rest := []) (wr := [(h0, .inr (11, [.ref w0, .ref h1, .ref w2, .ref w3, .ref w4, .ref w5, .ref w6, .ref w7, .ref w8, .ref w9, .ref w10])), (w4, .inl (g.2 5, 4, .inr (.inr (.inr (.inr (va_up (va_up (va_up (va_up (fun _ => none) 0 (some r0)) 1 (some r1)) 2 (some r2)) 3 (some r3))))))), (r0, .inr (8, [.ref n0, .int 0, .int 0, .int 0])), (r1, .inr (8, [.ref n1, .int 0, .int 0, .int 0])), (r2, .inr (8, [.ref n2, .int 0, .int 0, .int 0])), (r3, .inr (8, [.ref n3, .int 0, .int 0, .int 0]))]) FC hKn (c_X11_isSlot l g p1) m_yX11_isSlot b_9 hP hD hS hA [] [0, 1, 2, 3, 4, 5] rfl (by decide) rfl (by decide) (by decide) rfl hl.1 rfl (Nat.le_of_ble_eq_true rfl) dX11_write_1 ⟨(Nat.le_of_ble_eq_true rfl), (Nat.le_of_ble_eq_true rfl)⟩ ⟨(Nat.le_of_ble_eq_true rfl), (Nat.le_of_ble_eq_true rfl)⟩ (fun u1 H locs _ hP hD hS => ?_)
  have hP : va_P g.1 vwCl [(h0, .inr (11, [.ref w0, .ref h1, .ref w2, .ref w3, .ref w4, .ref w5, .ref w6, .ref w7, .ref w8, .ref w9, .ref w10])), (w4, .inl (g.2 5, 4, .inr (.inr (.inr (.inr (va_up (va_up (va_up (va_up (fun _ => none) 0 (some r0)) 1 (some r1)) 2 (some r2)) 3 (some r3))))))), (r0, .inr (8, [.ref n0, .int 0, .int 0, .int 0])), (r1, .inr (8, [.ref n1, .int 0, .int 0, .int 0])), (r2, .inr (8, [.ref n2, .int 0, .int 0, .int 0])), (r3, .inr (8, [.ref n3, .int 0, .int 0, .int 0]))] H := hP
  have hD : va_D A [(h0, .inr (11, [.ref w0, .ref h1, .ref w2, .ref w3, .ref w4, .ref w5, .ref w6, .ref w7, .ref w8, .ref w9, .ref w10])), (w4, .inl (g.2 5, 4, .inr (.inr (.inr (.inr (va_up (va_up (va_up (va_up (fun _ => none) 0 (some r0)) 1 (some r1)) 2 (some r2)) 3 (some r3))))))), (r0, .inr (8, [.ref n0, .int 0, .int 0, .int 0])), (r1, .inr (8, [.ref n1, .int 0, .int 0, .int 0])), (r2, .inr (8, [.ref n2, .int 0, .int 0, .int 0])), (r3, .inr (8, [.ref n3, .int 0, .int 0, .int 0]))] := hD
  refine W.eq (g2 := F0 m 4 ls [.int (sp_slot p1)]) rfl ?_
  by_cases c2 : 0 ≤ p1.toInt ∧ p1.toInt ≤ 3
  · refine tp_i (v := 1) (if_pos c2) ?_
    refine lv_if_ne (tgt := 10) hx hb dX11_write_4 (by decide) (fun _ => ?_) (fun h => absurd h (by decide))
    refine lv_aload_n hx hb dX11_write_10 rfl (lv_at hl 0 rfl) ?_
    refine lv_iload_n hx hb dX11_write_11 rfl (lv_at hl 1 rfl) ?_
    refine call_V (As := [.int p1]) (rest := []) (wr := []) FC hKn (c_X11_rowOf l g h0 h1 w0 w2 w3 w4 w5 w6 w7 w8 w9 w10 r0 r1 r2 r3 n0 n1 n2 n3 p1) m_yX11_rowOf b_141 (ci := 11) rfl rfl rfl hP hD hS hA [0, 1, 2, 3, 4, 5] [] rfl (by decide) rfl (by decide) (by decide) rfl hl.1 rfl (Nat.le_of_ble_eq_true rfl) dX11_write_12 ⟨(Nat.le_of_ble_eq_true rfl), (Nat.le_of_ble_eq_true rfl)⟩ ⟨(Nat.le_of_ble_eq_true rfl), (Nat.le_of_ble_eq_true rfl)⟩ (fun u3 H locs _ hP hD hS => ?_)
    have hP : va_P g.1 vwCl [(h0, .inr (11, [.ref w0, .ref h1, .ref w2, .ref w3, .ref w4, .ref w5, .ref w6, .ref w7, .ref w8, .ref w9, .ref w10])), (w4, .inl (g.2 5, 4, .inr (.inr (.inr (.inr (va_up (va_up (va_up (va_up (fun _ => none) 0 (some r0)) 1 (some r1)) 2 (some r2)) 3 (some r3))))))), (r0, .inr (8, [.ref n0, .int 0, .int 0, .int 0])), (r1, .inr (8, [.ref n1, .int 0, .int 0, .int 0])), (r2, .inr (8, [.ref n2, .int 0, .int 0, .int 0])), (r3, .inr (8, [.ref n3, .int 0, .int 0, .int 0]))] H := hP
    have hD : va_D A [(h0, .inr (11, [.ref w0, .ref h1, .ref w2, .ref w3, .ref w4, .ref w5, .ref w6, .ref w7, .ref w8, .ref w9, .ref w10])), (w4, .inl (g.2 5, 4, .inr (.inr (.inr (.inr (va_up (va_up (va_up (va_up (fun _ => none) 0 (some r0)) 1 (some r1)) 2 (some r2)) 3 (some r3))))))), (r0, .inr (8, [.ref n0, .int 0, .int 0, .int 0])), (r1, .inr (8, [.ref n1, .int 0, .int 0, .int 0])), (r2, .inr (8, [.ref n2, .int 0, .int 0, .int 0])), (r3, .inr (8, [.ref n3, .int 0, .int 0, .int 0]))] := hD
    refine W.eq (g2 := F0 m 15 ls [.null]) rfl ?_
    refine lv_astoreN (lv' := [(5, .null), (0, .ref h0), (1, .int p1), (2, .int p2), (3, .long p3)]) hx hb dX11_write_15 hl (by decide) rfl (fun ls hl => ?_)
    refine lv_aloadN hx hb dX11_write_17 (lv_at hl 0 rfl) ?_
    refine lv_ifnonnullN hx hb dX11_write_19 ?_
    refine lv_bipush (v := -6) hx hb dX11_write_22 (by decide) ?_
    exact rt_i FX () (congrArg (fun z => some (Value.int z)) (show (-6 : Int32) = _ from by first | decide | (unfold sp_write; (repeat' split) <;> first | rfl | (exfalso; omega)))) trivial (hP.sub [] rfl) (hD.sub [] (by decide) rfl) hS (Nat.le_of_ble_eq_true rfl) (Nat.le_of_ble_eq_true rfl) dX11_write_24
  · refine tp_i (v := 0) (if_neg c2) ?_
    refine lv_if_ne (tgt := 10) hx hb dX11_write_4 (by decide) (fun h => absurd h (by decide)) (fun _ => ?_)
    refine lv_bipush (v := -2) hx hb dX11_write_7 (by decide) ?_
    exact rt_i FX () (congrArg (fun z => some (Value.int z)) (show (-2 : Int32) = _ from by first | decide | (unfold sp_write; (repeat' split) <;> first | rfl | (exfalso; omega)))) trivial (hP.sub [] rfl) (hD.sub [] (by decide) rfl) hS (Nat.le_of_ble_eq_true rfl) (Nat.le_of_ble_eq_true rfl) dX11_write_9
set_option maxRecDepth 100000 in
set_option maxHeartbeats 4000000 in
theorem c_X11_paste (l : Launch) (g : GG) (h0 : Nat) (h1 : Nat) (w0 : Nat) (w2 : Nat) (w3 : Nat) (w4 : Nat) (w5 : Nat) (w6 : Nat) (w7 : Nat) (w8 : Nat) (w9 : Nat) (w10 : Nat) (r0 : Nat) (r1 : Nat) (r2 : Nat) (r3 : Nat) (n0 : Nat) (n1 : Nat) (n2 : Nat) (n3 : Nat) (p1 : Int32) (p2 : Int32) (p3 : Int32) (p4 : Int32) (p5 : Int32) : Ct l g yX11_paste cX11_paste 8 (some .int) { frames := 2, cells := 0, slots := 0, locals := 42 } [.ref h0, .int p1, .int p2, .int p3, .int p4, .int p5] [(h0, .inr (11, [.ref w0, .ref h1, .ref w2, .ref w3, .ref w4, .ref w5, .ref w6, .ref w7, .ref w8, .ref w9, .ref w10])), (w4, .inl (g.2 5, 4, .inr (.inr (.inr (.inr (va_up (va_up (va_up (va_up (fun _ => none) 0 (some r0)) 1 (some r1)) 2 (some r2)) 3 (some r3))))))), (r0, .inr (8, [.ref n0, .int 0, .int 0, .int 0])), (r1, .inr (8, [.ref n1, .int 0, .int 0, .int 0])), (r2, .inr (8, [.ref n2, .int 0, .int 0, .int 0])), (r3, .inr (8, [.ref n3, .int 0, .int 0, .int 0]))] (S := Unit) (fun _ => some (.int (sp_paste p1 p3))) (fun _ => True) (fun u => []) := by
  refine Ct.of (by decide) (Nat.le_of_ble_eq_true rfl) ?_
  intro p e s m below meth c A ls FX hP hD hS hl
  obtain ⟨FC, hr, hlk, hKn, hA, hnm⟩ := id FX
  have FC : CallFix p m c cX11_paste 8 s _ BIG RX11 := FC
  obtain ⟨hx, hb, hml, hown, hB⟩ := id FC
  have hl : lv_has ls 8 [(0, .ref h0), (1, .int p1), (2, .int p2), (3, .int p3), (4, .int p4), (5, .int p5)] := hl
  refine lv_iload_n hx hb dX11_paste_0 rfl (lv_at hl 1 rfl) ?_
  refine call_S (As := [.int p1]) (rest := []) (wr := [(h0, .inr (11, [.ref w0, .ref h1, .ref w2, .ref w3, .ref w4, .ref w5, .ref w6, .ref w7, .ref w8, .ref w9, .ref w10])), (w4, .inl (g.2 5, 4, .inr (.inr (.inr (.inr (va_up (va_up (va_up (va_up (fun _ => none) 0 (some r0)) 1 (some r1)) 2 (some r2)) 3 (some r3))))))), (r0, .inr (8, [.ref n0, .int 0, .int 0, .int 0])), (r1, .inr (8, [.ref n1, .int 0, .int 0, .int 0])), (r2, .inr (8, [.ref n2, .int 0, .int 0, .int 0])), (r3, .inr (8, [.ref n3, .int 0, .int 0, .int 0]))]) FC hKn (c_X11_isSlot l g p1) m_yX11_isSlot b_9 hP hD hS hA [] [0, 1, 2, 3, 4, 5] rfl (by decide) rfl (by decide) (by decide) rfl hl.1 rfl (Nat.le_of_ble_eq_true rfl) dX11_paste_1 ⟨(Nat.le_of_ble_eq_true rfl), (Nat.le_of_ble_eq_true rfl)⟩ ⟨(Nat.le_of_ble_eq_true rfl), (Nat.le_of_ble_eq_true rfl)⟩ (fun u1 H locs _ hP hD hS => ?_)
  have hP : va_P g.1 vwCl [(h0, .inr (11, [.ref w0, .ref h1, .ref w2, .ref w3, .ref w4, .ref w5, .ref w6, .ref w7, .ref w8, .ref w9, .ref w10])), (w4, .inl (g.2 5, 4, .inr (.inr (.inr (.inr (va_up (va_up (va_up (va_up (fun _ => none) 0 (some r0)) 1 (some r1)) 2 (some r2)) 3 (some r3))))))), (r0, .inr (8, [.ref n0, .int 0, .int 0, .int 0])), (r1, .inr (8, [.ref n1, .int 0, .int 0, .int 0])), (r2, .inr (8, [.ref n2, .int 0, .int 0, .int 0])), (r3, .inr (8, [.ref n3, .int 0, .int 0, .int 0]))] H := hP
  have hD : va_D A [(h0, .inr (11, [.ref w0, .ref h1, .ref w2, .ref w3, .ref w4, .ref w5, .ref w6, .ref w7, .ref w8, .ref w9, .ref w10])), (w4, .inl (g.2 5, 4, .inr (.inr (.inr (.inr (va_up (va_up (va_up (va_up (fun _ => none) 0 (some r0)) 1 (some r1)) 2 (some r2)) 3 (some r3))))))), (r0, .inr (8, [.ref n0, .int 0, .int 0, .int 0])), (r1, .inr (8, [.ref n1, .int 0, .int 0, .int 0])), (r2, .inr (8, [.ref n2, .int 0, .int 0, .int 0])), (r3, .inr (8, [.ref n3, .int 0, .int 0, .int 0]))] := hD
  refine W.eq (g2 := F0 m 4 ls [.int (sp_slot p1)]) rfl ?_
  by_cases c2 : 0 ≤ p1.toInt ∧ p1.toInt ≤ 3
  · refine tp_i (v := 1) (if_pos c2) ?_
    refine lv_if_eq (tgt := 14) hx hb dX11_paste_4 (by decide) (fun h => absurd h (by decide)) (fun _ => ?_)
    refine lv_iload_n hx hb dX11_paste_7 rfl (lv_at hl 3 rfl) ?_
    refine call_S (As := [.int p3]) (rest := []) (wr := [(h0, .inr (11, [.ref w0, .ref h1, .ref w2, .ref w3, .ref w4, .ref w5, .ref w6, .ref w7, .ref w8, .ref w9, .ref w10])), (w4, .inl (g.2 5, 4, .inr (.inr (.inr (.inr (va_up (va_up (va_up (va_up (fun _ => none) 0 (some r0)) 1 (some r1)) 2 (some r2)) 3 (some r3))))))), (r0, .inr (8, [.ref n0, .int 0, .int 0, .int 0])), (r1, .inr (8, [.ref n1, .int 0, .int 0, .int 0])), (r2, .inr (8, [.ref n2, .int 0, .int 0, .int 0])), (r3, .inr (8, [.ref n3, .int 0, .int 0, .int 0]))]) FC hKn (c_X11_isSlot l g p3) m_yX11_isSlot b_9 hP hD hS hA [] [0, 1, 2, 3, 4, 5] rfl (by decide) rfl (by decide) (by decide) rfl hl.1 rfl (Nat.le_of_ble_eq_true rfl) dX11_paste_8 ⟨(Nat.le_of_ble_eq_true rfl), (Nat.le_of_ble_eq_true rfl)⟩ ⟨(Nat.le_of_ble_eq_true rfl), (Nat.le_of_ble_eq_true rfl)⟩ (fun u3 H locs _ hP hD hS => ?_)
    have hP : va_P g.1 vwCl [(h0, .inr (11, [.ref w0, .ref h1, .ref w2, .ref w3, .ref w4, .ref w5, .ref w6, .ref w7, .ref w8, .ref w9, .ref w10])), (w4, .inl (g.2 5, 4, .inr (.inr (.inr (.inr (va_up (va_up (va_up (va_up (fun _ => none) 0 (some r0)) 1 (some r1)) 2 (some r2)) 3 (some r3))))))), (r0, .inr (8, [.ref n0, .int 0, .int 0, .int 0])), (r1, .inr (8, [.ref n1, .int 0, .int 0, .int 0])), (r2, .inr (8, [.ref n2, .int 0, .int 0, .int 0])), (r3, .inr (8, [.ref n3, .int 0, .int 0, .int 0]))] H := hP
    have hD : va_D A [(h0, .inr (11, [.ref w0, .ref h1, .ref w2, .ref w3, .ref w4, .ref w5, .ref w6, .ref w7, .ref w8, .ref w9, .ref w10])), (w4, .inl (g.2 5, 4, .inr (.inr (.inr (.inr (va_up (va_up (va_up (va_up (fun _ => none) 0 (some r0)) 1 (some r1)) 2 (some r2)) 3 (some r3))))))), (r0, .inr (8, [.ref n0, .int 0, .int 0, .int 0])), (r1, .inr (8, [.ref n1, .int 0, .int 0, .int 0])), (r2, .inr (8, [.ref n2, .int 0, .int 0, .int 0])), (r3, .inr (8, [.ref n3, .int 0, .int 0, .int 0]))] := hD
    refine W.eq (g2 := F0 m 11 ls [.int (sp_slot p3)]) rfl ?_
    by_cases c4 : 0 ≤ p3.toInt ∧ p3.toInt ≤ 3
    · refine tp_i (v := 1) (if_pos c4) ?_
      refine lv_if_ne (tgt := 17) hx hb dX11_paste_11 (by decide) (fun _ => ?_) (fun h => absurd h (by decide))
      refine lv_aload_n hx hb dX11_paste_17 rfl (lv_at hl 0 rfl) ?_
      refine lv_iload_n hx hb dX11_paste_18 rfl (lv_at hl 1 rfl) ?_
      refine call_V (As := [.int p1]) (rest := []) (wr := []) FC hKn (c_X11_rowOf l g h0 h1 w0 w2 w3 w4 w5 w6 w7 w8 w9 w10 r0 r1 r2 r3 n0 n1 n2 n3 p1) m_yX11_rowOf b_141 (ci := 11) rfl rfl rfl hP hD hS hA [0, 1, 2, 3, 4, 5] [] rfl (by decide) rfl (by decide) (by decide) rfl hl.1 rfl (Nat.le_of_ble_eq_true rfl) dX11_paste_19 ⟨(Nat.le_of_ble_eq_true rfl), (Nat.le_of_ble_eq_true rfl)⟩ ⟨(Nat.le_of_ble_eq_true rfl), (Nat.le_of_ble_eq_true rfl)⟩ (fun u5 H locs _ hP hD hS => ?_)
      have hP : va_P g.1 vwCl [(h0, .inr (11, [.ref w0, .ref h1, .ref w2, .ref w3, .ref w4, .ref w5, .ref w6, .ref w7, .ref w8, .ref w9, .ref w10])), (w4, .inl (g.2 5, 4, .inr (.inr (.inr (.inr (va_up (va_up (va_up (va_up (fun _ => none) 0 (some r0)) 1 (some r1)) 2 (some r2)) 3 (some r3))))))), (r0, .inr (8, [.ref n0, .int 0, .int 0, .int 0])), (r1, .inr (8, [.ref n1, .int 0, .int 0, .int 0])), (r2, .inr (8, [.ref n2, .int 0, .int 0, .int 0])), (r3, .inr (8, [.ref n3, .int 0, .int 0, .int 0]))] H := hP
      have hD : va_D A [(h0, .inr (11, [.ref w0, .ref h1, .ref w2, .ref w3, .ref w4, .ref w5, .ref w6, .ref w7, .ref w8, .ref w9, .ref w10])), (w4, .inl (g.2 5, 4, .inr (.inr (.inr (.inr (va_up (va_up (va_up (va_up (fun _ => none) 0 (some r0)) 1 (some r1)) 2 (some r2)) 3 (some r3))))))), (r0, .inr (8, [.ref n0, .int 0, .int 0, .int 0])), (r1, .inr (8, [.ref n1, .int 0, .int 0, .int 0])), (r2, .inr (8, [.ref n2, .int 0, .int 0, .int 0])), (r3, .inr (8, [.ref n3, .int 0, .int 0, .int 0]))] := hD
      refine W.eq (g2 := F0 m 22 ls [.null]) rfl ?_
      refine lv_astoreN (lv' := [(6, .null), (0, .ref h0), (1, .int p1), (2, .int p2), (3, .int p3), (4, .int p4), (5, .int p5)]) hx hb dX11_paste_22 hl (by decide) rfl (fun ls hl => ?_)
      refine lv_aload_n hx hb dX11_paste_24 rfl (lv_at hl 1 rfl) ?_
      refine lv_iload_n hx hb dX11_paste_25 rfl (lv_at hl 4 rfl) ?_
      refine call_V (As := [.int p3]) (rest := []) (wr := []) FC hKn (c_X11_rowOf l g h0 h1 w0 w2 w3 w4 w5 w6 w7 w8 w9 w10 r0 r1 r2 r3 n0 n1 n2 n3 p3) m_yX11_rowOf b_141 (ci := 11) rfl rfl rfl hP hD hS hA [0, 1, 2, 3, 4, 5] [] rfl (by decide) rfl (by decide) (by decide) rfl hl.1 rfl (Nat.le_of_ble_eq_true rfl) dX11_paste_26 ⟨(Nat.le_of_ble_eq_true rfl), (Nat.le_of_ble_eq_true rfl)⟩ ⟨(Nat.le_of_ble_eq_true rfl), (Nat.le_of_ble_eq_true rfl)⟩ (fun u6 H locs _ hP hD hS => ?_)
      have hP : va_P g.1 vwCl [(h0, .inr (11, [.ref w0, .ref h1, .ref w2, .ref w3, .ref w4, .ref w5, .ref w6, .ref w7, .ref w8, .ref w9, .ref w10])), (w4, .inl (g.2 5, 4, .inr (.inr (.inr (.inr (va_up (va_up (va_up (va_up (fun _ => none) 0 (some r0)) 1 (some r1)) 2 (some r2)) 3 (some r3))))))), (r0, .inr (8, [.ref n0, .int 0, .int 0, .int 0])), (r1, .inr (8, [.ref n1, .int 0, .int 0, .int 0])), (r2, .inr (8, [.ref n2, .int 0, .int 0, .int 0])), (r3, .inr (8, [.ref n3, .int 0, .int 0, .int 0]))] H := hP
      have hD : va_D A [(h0, .inr (11, [.ref w0, .ref h1, .ref w2, .ref w3, .ref w4, .ref w5, .ref w6, .ref w7, .ref w8, .ref w9, .ref w10])), (w4, .inl (g.2 5, 4, .inr (.inr (.inr (.inr (va_up (va_up (va_up (va_up (fun _ => none) 0 (some r0)) 1 (some r1)) 2 (some r2)) 3 (some r3))))))), (r0, .inr (8, [.ref n0, .int 0, .int 0, .int 0])), (r1, .inr (8, [.ref n1, .int 0, .int 0, .int 0])), (r2, .inr (8, [.ref n2, .int 0, .int 0, .int 0])), (r3, .inr (8, [.ref n3, .int 0, .int 0, .int 0]))] := hD
      refine W.eq (g2 := F0 m 29 ls [.null]) rfl ?_
      refine lv_astoreN (lv' := [(7, .null), (6, .null), (0, .ref h0), (1, .int p1), (2, .int p2), (3, .int p3), (4, .int p4), (5, .int p5)]) hx hb dX11_paste_29 hl (by decide) rfl (fun ls hl => ?_)
      refine lv_aloadN hx hb dX11_paste_31 (lv_at hl 1 rfl) ?_
      refine lv_ifnullN (tgt := 41) hx hb dX11_paste_33 (by decide) ?_
      refine lv_bipush (v := -6) hx hb dX11_paste_41 (by decide) ?_
      exact rt_i FX () (congrArg (fun z => some (Value.int z)) (show (-6 : Int32) = _ from by first | decide | (unfold sp_paste; (repeat' split) <;> first | rfl | (exfalso; omega)))) trivial (hP.sub [] rfl) (hD.sub [] (by decide) rfl) hS (Nat.le_of_ble_eq_true rfl) (Nat.le_of_ble_eq_true rfl) dX11_paste_43
    · refine tp_i (v := 0) (if_neg c4) ?_
      refine lv_if_ne (tgt := 17) hx hb dX11_paste_11 (by decide) (fun h => absurd h (by decide)) (fun _ => ?_)
      refine lv_bipush (v := -2) hx hb dX11_paste_14 (by decide) ?_
      exact rt_i FX () (congrArg (fun z => some (Value.int z)) (show (-2 : Int32) = _ from by first | decide | (unfold sp_paste; (repeat' split) <;> first | rfl | (exfalso; omega)))) trivial (hP.sub [] rfl) (hD.sub [] (by decide) rfl) hS (Nat.le_of_ble_eq_true rfl) (Nat.le_of_ble_eq_true rfl) dX11_paste_16
  · refine tp_i (v := 0) (if_neg c2) ?_
    refine lv_if_eq (tgt := 14) hx hb dX11_paste_4 (by decide) (fun _ => ?_) (fun h => absurd h (by decide))
    refine lv_bipush (v := -2) hx hb dX11_paste_14 (by decide) ?_
    exact rt_i FX () (congrArg (fun z => some (Value.int z)) (show (-2 : Int32) = _ from by first | decide | (unfold sp_paste; (repeat' split) <;> first | rfl | (exfalso; omega)))) trivial (hP.sub [] rfl) (hD.sub [] (by decide) rfl) hS (Nat.le_of_ble_eq_true rfl) (Nat.le_of_ble_eq_true rfl) dX11_paste_16
set_option maxRecDepth 100000 in
set_option maxHeartbeats 4000000 in
theorem c_X8_begin (l : Launch) (g : GG) (h0 : Nat) (b0 : Nat) (ff : Nat → Int64) (p1 : Int32) (p2 : Int32) : Ct l g yX8_begin cX8_begin 3 none { frames := 1, cells := 0, slots := 0, locals := 24 } [.ref h0, .int p1, .int p2] [(h0, .inr (8, [.ref b0, .int 0, .int 0, .int 0])), (b0, .inl (g.2 3, 60, .inr (.inl ff)))] (S := Unit) (fun _ => none) (fun _ => True) (fun u => []) := by
  refine Ct.of (by decide) (Nat.le_of_ble_eq_true rfl) ?_
  intro p e s m below meth c A ls FX hP hD hS hl
  obtain ⟨FC, hr, hlk, hKn, hA, hnm⟩ := id FX
  have FC : CallFix p m c cX8_begin 3 s _ BIG RX8 := FC
  obtain ⟨hx, hb, hml, hown, hB⟩ := id FC
  have hl : lv_has ls 3 [(0, .ref h0), (1, .int p1), (2, .int p2)] := hl
  refine lv_aload_n hx hb dX8_begin_0 rfl (lv_at hl 0 rfl) ?_
  refine lv_iconst (v := 1) hx hb dX8_begin_1 (by decide) ?_
  refine g_put (C := RX8) (T := TX8) (N := 4) (ci := 8) (v := .int 1) FC hKn hP hD hS i_X8 tyX8 tyX8_ok nmX8 0 rfl rfl 1 (by decide) b_142 rfl rfl rfl (Nat.le_of_ble_eq_true rfl) dX8_begin_2 (fun H locs hP hD hS => ?_)
  have hP : va_P g.1 vwCl [(h0, .inr (8, [.ref b0, .int 1, .int 0, .int 0])), (b0, .inl (g.2 3, 60, .inr (.inl ff)))] H := hP
  have hD : va_D A [(h0, .inr (8, [.ref b0, .int 1, .int 0, .int 0])), (b0, .inl (g.2 3, 60, .inr (.inl ff)))] := hD
  refine lv_aload_n hx hb dX8_begin_5 rfl (lv_at hl 0 rfl) ?_
  refine lv_iload_n hx hb dX8_begin_6 rfl (lv_at hl 1 rfl) ?_
  refine g_put (C := RX8) (T := TX8) (N := 4) (ci := 8) (v := .int p1) FC hKn hP hD hS i_X8 tyX8 tyX8_ok nmX8 0 rfl rfl 2 (by decide) b_143 rfl rfl rfl (Nat.le_of_ble_eq_true rfl) dX8_begin_7 (fun H locs hP hD hS => ?_)
  have hP : va_P g.1 vwCl [(h0, .inr (8, [.ref b0, .int 1, .int p1, .int 0])), (b0, .inl (g.2 3, 60, .inr (.inl ff)))] H := hP
  have hD : va_D A [(h0, .inr (8, [.ref b0, .int 1, .int p1, .int 0])), (b0, .inl (g.2 3, 60, .inr (.inl ff)))] := hD
  refine lv_aload_n hx hb dX8_begin_10 rfl (lv_at hl 0 rfl) ?_
  refine lv_iload_n hx hb dX8_begin_11 rfl (lv_at hl 2 rfl) ?_
  refine g_put (C := RX8) (T := TX8) (N := 4) (ci := 8) (v := .int p2) FC hKn hP hD hS i_X8 tyX8 tyX8_ok nmX8 0 rfl rfl 3 (by decide) b_144 rfl rfl rfl (Nat.le_of_ble_eq_true rfl) dX8_begin_12 (fun H locs hP hD hS => ?_)
  have hP : va_P g.1 vwCl [(h0, .inr (8, [.ref b0, .int 1, .int p1, .int p2])), (b0, .inl (g.2 3, 60, .inr (.inl ff)))] H := hP
  have hD : va_D A [(h0, .inr (8, [.ref b0, .int 1, .int p1, .int p2])), (b0, .inl (g.2 3, 60, .inr (.inl ff)))] := hD
  refine lv_aload_n hx hb dX8_begin_15 rfl (lv_at hl 0 rfl) ?_
  refine g_get (C := RX8) (T := TX8) (N := 4) (ci := 8) (v := .ref b0) FC hKn hP i_X8 0 rfl rfl 0 (by decide) b_145 rfl dX8_begin_16 ?_
  refine lv_lconst (v := 0) hx hb dX8_begin_19 (by decide) ?_
  refine call_S (As := [.ref b0, .long 0]) (rest := []) (wr := [(h0, .inr (8, [.ref b0, .int 1, .int p1, .int p2]))]) FC hKn (c_J7_fill_60 l g b0 ff 0) m_yJ7_fill_d0a16 b_146 hP hD hS hA [1] [0] rfl (by decide) rfl (by decide) (by decide) rfl hl.1 rfl (Nat.le_of_ble_eq_true rfl) dX8_begin_20 ⟨(Nat.le_of_ble_eq_true rfl), (Nat.le_of_ble_eq_true rfl)⟩ ⟨(Nat.le_of_ble_eq_true rfl), (Nat.le_of_ble_eq_true rfl)⟩ (fun u1 H locs _ hP hD hS => ?_)
  have hP : va_P g.1 vwCl [(h0, .inr (8, [.ref b0, .int 1, .int p1, .int p2])), (b0, .inl (g.2 3, 60, .inr (.inl u1)))] H := hP
  have hD : va_D A [(h0, .inr (8, [.ref b0, .int 1, .int p1, .int p2])), (b0, .inl (g.2 3, 60, .inr (.inl u1)))] := hD
  refine W.eq (g2 := F0 m 23 ls []) rfl ?_
  exact rt_v FX () rfl trivial (hP.sub [] rfl) (hD.sub [] (by decide) rfl) hS (Nat.le_of_ble_eq_true rfl) (Nat.le_of_ble_eq_true rfl) dX8_begin_23
set_option maxRecDepth 100000 in
set_option maxHeartbeats 4000000 in
theorem c_X11_row (l : Launch) (g : GG) (h0 : Nat) (h1 : Nat) (w0 : Nat) (w2 : Nat) (w3 : Nat) (w4 : Nat) (w5 : Nat) (w6 : Nat) (w7 : Nat) (w8 : Nat) (w9 : Nat) (w10 : Nat) (r0 : Nat) (r1 : Nat) (r2 : Nat) (r3 : Nat) (n0 : Nat) (n1 : Nat) (n2 : Nat) (n3 : Nat) (g0 : Nat → Int64) (g1 : Nat → Int64) (g2 : Nat → Int64) (g3 : Nat → Int64) (p1 : Int32) (p2 : Int32) (p3 : Int32) : Ct l g yX11_row cX11_row 5 (some .int) { frames := 2, cells := 0, slots := 0, locals := 46 } [.ref h0, .int p1, .int p2, .int p3] [(h0, .inr (11, [.ref w0, .ref h1, .ref w2, .ref w3, .ref w4, .ref w5, .ref w6, .ref w7, .ref w8, .ref w9, .ref w10])), (w4, .inl (g.2 5, 4, .inr (.inr (.inr (.inr (va_up (va_up (va_up (va_up (fun _ => none) 0 (some r0)) 1 (some r1)) 2 (some r2)) 3 (some r3))))))), (r0, .inr (8, [.ref n0, .int 0, .int 0, .int 0])), (r1, .inr (8, [.ref n1, .int 0, .int 0, .int 0])), (r2, .inr (8, [.ref n2, .int 0, .int 0, .int 0])), (r3, .inr (8, [.ref n3, .int 0, .int 0, .int 0])), (n0, .inl (g.2 3, 60, .inr (.inl g0))), (n1, .inl (g.2 3, 60, .inr (.inl g1))), (n2, .inl (g.2 3, 60, .inr (.inl g2))), (n3, .inl (g.2 3, 60, .inr (.inl g3)))] (S := Unit) (fun _ => some (.int (sp_row p1 p2 p3))) (fun _ => True) (fun u => []) := by
  refine Ct.of (by decide) (Nat.le_of_ble_eq_true rfl) ?_
  intro p e s m below meth c A ls FX hP hD hS hl
  obtain ⟨FC, hr, hlk, hKn, hA, hnm⟩ := id FX
  have FC : CallFix p m c cX11_row 5 s _ BIG RX11 := FC
  obtain ⟨hx, hb, hml, hown, hB⟩ := id FC
  have hl : lv_has ls 5 [(0, .ref h0), (1, .int p1), (2, .int p2), (3, .int p3)] := hl
  refine lv_iload_n hx hb dX11_row_0 rfl (lv_at hl 1 rfl) ?_
  refine call_S (As := [.int p1]) (rest := []) (wr := [(h0, .inr (11, [.ref w0, .ref h1, .ref w2, .ref w3, .ref w4, .ref w5, .ref w6, .ref w7, .ref w8, .ref w9, .ref w10])), (w4, .inl (g.2 5, 4, .inr (.inr (.inr (.inr (va_up (va_up (va_up (va_up (fun _ => none) 0 (some r0)) 1 (some r1)) 2 (some r2)) 3 (some r3))))))), (r0, .inr (8, [.ref n0, .int 0, .int 0, .int 0])), (r1, .inr (8, [.ref n1, .int 0, .int 0, .int 0])), (r2, .inr (8, [.ref n2, .int 0, .int 0, .int 0])), (r3, .inr (8, [.ref n3, .int 0, .int 0, .int 0])), (n0, .inl (g.2 3, 60, .inr (.inl g0))), (n1, .inl (g.2 3, 60, .inr (.inl g1))), (n2, .inl (g.2 3, 60, .inr (.inl g2))), (n3, .inl (g.2 3, 60, .inr (.inl g3)))]) FC hKn (c_X11_isSlot l g p1) m_yX11_isSlot b_9 hP hD hS hA [] [0, 1, 2, 3, 4, 5, 6, 7, 8, 9] rfl (by decide) rfl (by decide) (by decide) rfl hl.1 rfl (Nat.le_of_ble_eq_true rfl) dX11_row_1 ⟨(Nat.le_of_ble_eq_true rfl), (Nat.le_of_ble_eq_true rfl)⟩ ⟨(Nat.le_of_ble_eq_true rfl), (Nat.le_of_ble_eq_true rfl)⟩ (fun u1 H locs _ hP hD hS => ?_)
  have hP : va_P g.1 vwCl [(h0, .inr (11, [.ref w0, .ref h1, .ref w2, .ref w3, .ref w4, .ref w5, .ref w6, .ref w7, .ref w8, .ref w9, .ref w10])), (w4, .inl (g.2 5, 4, .inr (.inr (.inr (.inr (va_up (va_up (va_up (va_up (fun _ => none) 0 (some r0)) 1 (some r1)) 2 (some r2)) 3 (some r3))))))), (r0, .inr (8, [.ref n0, .int 0, .int 0, .int 0])), (r1, .inr (8, [.ref n1, .int 0, .int 0, .int 0])), (r2, .inr (8, [.ref n2, .int 0, .int 0, .int 0])), (r3, .inr (8, [.ref n3, .int 0, .int 0, .int 0])), (n0, .inl (g.2 3, 60, .inr (.inl g0))), (n1, .inl (g.2 3, 60, .inr (.inl g1))), (n2, .inl (g.2 3, 60, .inr (.inl g2))), (n3, .inl (g.2 3, 60, .inr (.inl g3)))] H := hP
  have hD : va_D A [(h0, .inr (11, [.ref w0, .ref h1, .ref w2, .ref w3, .ref w4, .ref w5, .ref w6, .ref w7, .ref w8, .ref w9, .ref w10])), (w4, .inl (g.2 5, 4, .inr (.inr (.inr (.inr (va_up (va_up (va_up (va_up (fun _ => none) 0 (some r0)) 1 (some r1)) 2 (some r2)) 3 (some r3))))))), (r0, .inr (8, [.ref n0, .int 0, .int 0, .int 0])), (r1, .inr (8, [.ref n1, .int 0, .int 0, .int 0])), (r2, .inr (8, [.ref n2, .int 0, .int 0, .int 0])), (r3, .inr (8, [.ref n3, .int 0, .int 0, .int 0])), (n0, .inl (g.2 3, 60, .inr (.inl g0))), (n1, .inl (g.2 3, 60, .inr (.inl g1))), (n2, .inl (g.2 3, 60, .inr (.inl g2))), (n3, .inl (g.2 3, 60, .inr (.inl g3)))] := hD
  refine W.eq (g2 := F0 m 4 ls [.int (sp_slot p1)]) rfl ?_
  by_cases c2 : 0 ≤ p1.toInt ∧ p1.toInt ≤ 3
  · refine tp_i (v := 1) (if_pos c2) ?_
    refine lv_if_eq (tgt := 22) hx hb dX11_row_4 (by decide) (fun h => absurd h (by decide)) (fun _ => ?_)
    refine lv_iload_n hx hb dX11_row_7 rfl (lv_at hl 2 rfl) ?_
    refine lv_if_lt (tgt := 22) hx hb dX11_row_8 (by decide) (fun c3 => ?_) (fun c3 => ?_)
    · have c3 := k_lt (a := p2.toInt) (b := 0) rfl (by decide) c3
      refine lv_bipush (v := -2) hx hb dX11_row_22 (by decide) ?_
      exact rt_i FX () (congrArg (fun z => some (Value.int z)) (show (-2 : Int32) = _ from by first | decide | (unfold sp_row; (repeat' split) <;> first | rfl | (exfalso; omega)))) trivial (hP.sub [] rfl) (hD.sub [] (by decide) rfl) hS (Nat.le_of_ble_eq_true rfl) (Nat.le_of_ble_eq_true rfl) dX11_row_24
    · have c3 := k_nlt (a := p2.toInt) (b := 0) rfl (by decide) c3
      refine lv_iload_n hx hb dX11_row_11 rfl (lv_at hl 2 rfl) ?_
      refine lv_iconst (v := 4) hx hb dX11_row_12 (by decide) ?_
      refine lv_icmp_ge (tgt := 22) hx hb dX11_row_13 (by decide) (fun c4 => ?_) (fun c4 => ?_)
      · have c4 := k_le (a := 4) (b := p2.toInt) (by decide) rfl c4
        refine lv_bipush (v := -2) hx hb dX11_row_22 (by decide) ?_
        exact rt_i FX () (congrArg (fun z => some (Value.int z)) (show (-2 : Int32) = _ from by first | decide | (unfold sp_row; (repeat' split) <;> first | rfl | (exfalso; omega)))) trivial (hP.sub [] rfl) (hD.sub [] (by decide) rfl) hS (Nat.le_of_ble_eq_true rfl) (Nat.le_of_ble_eq_true rfl) dX11_row_24
      · have c4 := k_nle (a := 4) (b := p2.toInt) (by decide) rfl c4
        refine lv_iload_n hx hb dX11_row_16 rfl (lv_at hl 3 rfl) ?_
        refine lv_bipush (v := 60) hx hb dX11_row_17 (by decide) ?_
        refine lv_icmp_le (tgt := 25) hx hb dX11_row_19 (by decide) (fun c5 => ?_) (fun c5 => ?_)
        · have c5 := k_le (a := p3.toInt) (b := 60) rfl (by decide) c5
          refine lv_iload_n hx hb dX11_row_25 rfl (lv_at hl 3 rfl) ?_
          refine lv_if_ge (tgt := 32) hx hb dX11_row_26 (by decide) (fun c6 => ?_) (fun c6 => ?_)
          · have c6 := k_le (a := 0) (b := p3.toInt) (by decide) rfl c6
            refine lv_aload_n hx hb dX11_row_32 rfl (lv_at hl 0 rfl) ?_
            refine g_get (C := RX11) (T := TX11) (N := 11) (ci := 11) (v := .ref w4) FC hKn hP i_X11 0 rfl rfl 4 (by decide) b_139 rfl dX11_row_33 ?_
            refine lv_iload_n hx hb dX11_row_36 rfl (lv_at hl 1 rfl) ?_
            rcases (show p1.toInt = 0 ∨ p1.toInt = 1 ∨ p1.toInt = 2 ∨ p1.toInt = 3 by omega) with hv | hv | hv | hv
            · obtain rfl : p1 = 0 := Int32.toInt_inj.mp (hv.trans (by decide))
              refine va_aldq hx hb hKn.1 hP 1 5 rfl rfl (by unfold vp_in; decide) dX11_row_37 ?_
              refine W.eq (g2 := F0 m 38 ls [.ref r0]) rfl ?_
              refine lv_astore (lv' := [(4, .ref r0), (0, .ref h0), (1, .int 0), (2, .int p2), (3, .int p3)]) hx hb dX11_row_38 hl (by decide) rfl (fun ls hl => ?_)
              refine lv_aload hx hb dX11_row_40 (lv_at hl 0 rfl) ?_
              refine lv_ifnonnull (tgt := 48) hx hb dX11_row_42 (by decide) ?_
              refine lv_aload hx hb dX11_row_48 (lv_at hl 0 rfl) ?_
              refine lv_iload_n hx hb dX11_row_50 rfl (lv_at hl 3 rfl) ?_
              refine lv_iload_n hx hb dX11_row_51 rfl (lv_at hl 4 rfl) ?_
              refine call_VN (As := [.int p2, .int p3]) (rest := []) (wr := [(h0, .inr (11, [.ref w0, .ref h1, .ref w2, .ref w3, .ref w4, .ref w5, .ref w6, .ref w7, .ref w8, .ref w9, .ref w10])), (w4, .inl (g.2 5, 4, .inr (.inr (.inr (.inr (va_up (va_up (va_up (va_up (fun _ => none) 0 (some r0)) 1 (some r1)) 2 (some r2)) 3 (some r3))))))), (r1, .inr (8, [.ref n1, .int 0, .int 0, .int 0])), (r2, .inr (8, [.ref n2, .int 0, .int 0, .int 0])), (r3, .inr (8, [.ref n3, .int 0, .int 0, .int 0])), (n1, .inl (g.2 3, 60, .inr (.inl g1))), (n2, .inl (g.2 3, 60, .inr (.inl g2))), (n3, .inl (g.2 3, 60, .inr (.inl g3)))]) FC hKn (c_X8_begin l g r0 n0 g0 p2 p3) m_yX8_begin b_147 (ci := 8) rfl rfl rfl hP hD hS hA [2, 6] [0, 1, 3, 4, 5, 7, 8, 9] rfl (by decide) rfl (by decide) (by decide) rfl hl.1 rfl (Nat.le_of_ble_eq_true rfl) dX11_row_52 ⟨(Nat.le_of_ble_eq_true rfl), (Nat.le_of_ble_eq_true rfl)⟩ ⟨(Nat.le_of_ble_eq_true rfl), (Nat.le_of_ble_eq_true rfl)⟩ (fun u7 H locs _ hP hD hS => ?_)
              have hP : va_P g.1 vwCl [(h0, .inr (11, [.ref w0, .ref h1, .ref w2, .ref w3, .ref w4, .ref w5, .ref w6, .ref w7, .ref w8, .ref w9, .ref w10])), (w4, .inl (g.2 5, 4, .inr (.inr (.inr (.inr (va_up (va_up (va_up (va_up (fun _ => none) 0 (some r0)) 1 (some r1)) 2 (some r2)) 3 (some r3))))))), (r1, .inr (8, [.ref n1, .int 0, .int 0, .int 0])), (r2, .inr (8, [.ref n2, .int 0, .int 0, .int 0])), (r3, .inr (8, [.ref n3, .int 0, .int 0, .int 0])), (n1, .inl (g.2 3, 60, .inr (.inl g1))), (n2, .inl (g.2 3, 60, .inr (.inl g2))), (n3, .inl (g.2 3, 60, .inr (.inl g3)))] H := hP
              have hD : va_D A [(h0, .inr (11, [.ref w0, .ref h1, .ref w2, .ref w3, .ref w4, .ref w5, .ref w6, .ref w7, .ref w8, .ref w9, .ref w10])), (w4, .inl (g.2 5, 4, .inr (.inr (.inr (.inr (va_up (va_up (va_up (va_up (fun _ => none) 0 (some r0)) 1 (some r1)) 2 (some r2)) 3 (some r3))))))), (r1, .inr (8, [.ref n1, .int 0, .int 0, .int 0])), (r2, .inr (8, [.ref n2, .int 0, .int 0, .int 0])), (r3, .inr (8, [.ref n3, .int 0, .int 0, .int 0])), (n1, .inl (g.2 3, 60, .inr (.inl g1))), (n2, .inl (g.2 3, 60, .inr (.inl g2))), (n3, .inl (g.2 3, 60, .inr (.inl g3)))] := hD
              refine W.eq (g2 := F0 m 55 ls []) rfl ?_
              refine lv_iconst (v := 0) hx hb dX11_row_55 (by decide) ?_
              exact rt_i FX () (congrArg (fun z => some (Value.int z)) (show (0 : Int32) = _ from by first | decide | (unfold sp_row; (repeat' split) <;> first | rfl | (exfalso; omega)))) trivial (hP.sub [] rfl) (hD.sub [] (by decide) rfl) hS (Nat.le_of_ble_eq_true rfl) (Nat.le_of_ble_eq_true rfl) dX11_row_56
            · obtain rfl : p1 = 1 := Int32.toInt_inj.mp (hv.trans (by decide))
              refine va_aldq hx hb hKn.1 hP 1 5 rfl rfl (by unfold vp_in; decide) dX11_row_37 ?_
              refine W.eq (g2 := F0 m 38 ls [.ref r1]) rfl ?_
              refine lv_astore (lv' := [(4, .ref r1), (0, .ref h0), (1, .int 1), (2, .int p2), (3, .int p3)]) hx hb dX11_row_38 hl (by decide) rfl (fun ls hl => ?_)
              refine lv_aload hx hb dX11_row_40 (lv_at hl 0 rfl) ?_
              refine lv_ifnonnull (tgt := 48) hx hb dX11_row_42 (by decide) ?_
              refine lv_aload hx hb dX11_row_48 (lv_at hl 0 rfl) ?_
              refine lv_iload_n hx hb dX11_row_50 rfl (lv_at hl 3 rfl) ?_
              refine lv_iload_n hx hb dX11_row_51 rfl (lv_at hl 4 rfl) ?_
              refine call_VN (As := [.int p2, .int p3]) (rest := []) (wr := [(h0, .inr (11, [.ref w0, .ref h1, .ref w2, .ref w3, .ref w4, .ref w5, .ref w6, .ref w7, .ref w8, .ref w9, .ref w10])), (w4, .inl (g.2 5, 4, .inr (.inr (.inr (.inr (va_up (va_up (va_up (va_up (fun _ => none) 0 (some r0)) 1 (some r1)) 2 (some r2)) 3 (some r3))))))), (r0, .inr (8, [.ref n0, .int 0, .int 0, .int 0])), (r2, .inr (8, [.ref n2, .int 0, .int 0, .int 0])), (r3, .inr (8, [.ref n3, .int 0, .int 0, .int 0])), (n0, .inl (g.2 3, 60, .inr (.inl g0))), (n2, .inl (g.2 3, 60, .inr (.inl g2))), (n3, .inl (g.2 3, 60, .inr (.inl g3)))]) FC hKn (c_X8_begin l g r1 n1 g1 p2 p3) m_yX8_begin b_147 (ci := 8) rfl rfl rfl hP hD hS hA [3, 7] [0, 1, 2, 4, 5, 6, 8, 9] rfl (by decide) rfl (by decide) (by decide) rfl hl.1 rfl (Nat.le_of_ble_eq_true rfl) dX11_row_52 ⟨(Nat.le_of_ble_eq_true rfl), (Nat.le_of_ble_eq_true rfl)⟩ ⟨(Nat.le_of_ble_eq_true rfl), (Nat.le_of_ble_eq_true rfl)⟩ (fun u8 H locs _ hP hD hS => ?_)
              have hP : va_P g.1 vwCl [(h0, .inr (11, [.ref w0, .ref h1, .ref w2, .ref w3, .ref w4, .ref w5, .ref w6, .ref w7, .ref w8, .ref w9, .ref w10])), (w4, .inl (g.2 5, 4, .inr (.inr (.inr (.inr (va_up (va_up (va_up (va_up (fun _ => none) 0 (some r0)) 1 (some r1)) 2 (some r2)) 3 (some r3))))))), (r0, .inr (8, [.ref n0, .int 0, .int 0, .int 0])), (r2, .inr (8, [.ref n2, .int 0, .int 0, .int 0])), (r3, .inr (8, [.ref n3, .int 0, .int 0, .int 0])), (n0, .inl (g.2 3, 60, .inr (.inl g0))), (n2, .inl (g.2 3, 60, .inr (.inl g2))), (n3, .inl (g.2 3, 60, .inr (.inl g3)))] H := hP
              have hD : va_D A [(h0, .inr (11, [.ref w0, .ref h1, .ref w2, .ref w3, .ref w4, .ref w5, .ref w6, .ref w7, .ref w8, .ref w9, .ref w10])), (w4, .inl (g.2 5, 4, .inr (.inr (.inr (.inr (va_up (va_up (va_up (va_up (fun _ => none) 0 (some r0)) 1 (some r1)) 2 (some r2)) 3 (some r3))))))), (r0, .inr (8, [.ref n0, .int 0, .int 0, .int 0])), (r2, .inr (8, [.ref n2, .int 0, .int 0, .int 0])), (r3, .inr (8, [.ref n3, .int 0, .int 0, .int 0])), (n0, .inl (g.2 3, 60, .inr (.inl g0))), (n2, .inl (g.2 3, 60, .inr (.inl g2))), (n3, .inl (g.2 3, 60, .inr (.inl g3)))] := hD
              refine W.eq (g2 := F0 m 55 ls []) rfl ?_
              refine lv_iconst (v := 0) hx hb dX11_row_55 (by decide) ?_
              exact rt_i FX () (congrArg (fun z => some (Value.int z)) (show (0 : Int32) = _ from by first | decide | (unfold sp_row; (repeat' split) <;> first | rfl | (exfalso; omega)))) trivial (hP.sub [] rfl) (hD.sub [] (by decide) rfl) hS (Nat.le_of_ble_eq_true rfl) (Nat.le_of_ble_eq_true rfl) dX11_row_56
            · obtain rfl : p1 = 2 := Int32.toInt_inj.mp (hv.trans (by decide))
              refine va_aldq hx hb hKn.1 hP 1 5 rfl rfl (by unfold vp_in; decide) dX11_row_37 ?_
              refine W.eq (g2 := F0 m 38 ls [.ref r2]) rfl ?_
              refine lv_astore (lv' := [(4, .ref r2), (0, .ref h0), (1, .int 2), (2, .int p2), (3, .int p3)]) hx hb dX11_row_38 hl (by decide) rfl (fun ls hl => ?_)
              refine lv_aload hx hb dX11_row_40 (lv_at hl 0 rfl) ?_
              refine lv_ifnonnull (tgt := 48) hx hb dX11_row_42 (by decide) ?_
              refine lv_aload hx hb dX11_row_48 (lv_at hl 0 rfl) ?_
              refine lv_iload_n hx hb dX11_row_50 rfl (lv_at hl 3 rfl) ?_
              refine lv_iload_n hx hb dX11_row_51 rfl (lv_at hl 4 rfl) ?_
              refine call_VN (As := [.int p2, .int p3]) (rest := []) (wr := [(h0, .inr (11, [.ref w0, .ref h1, .ref w2, .ref w3, .ref w4, .ref w5, .ref w6, .ref w7, .ref w8, .ref w9, .ref w10])), (w4, .inl (g.2 5, 4, .inr (.inr (.inr (.inr (va_up (va_up (va_up (va_up (fun _ => none) 0 (some r0)) 1 (some r1)) 2 (some r2)) 3 (some r3))))))), (r0, .inr (8, [.ref n0, .int 0, .int 0, .int 0])), (r1, .inr (8, [.ref n1, .int 0, .int 0, .int 0])), (r3, .inr (8, [.ref n3, .int 0, .int 0, .int 0])), (n0, .inl (g.2 3, 60, .inr (.inl g0))), (n1, .inl (g.2 3, 60, .inr (.inl g1))), (n3, .inl (g.2 3, 60, .inr (.inl g3)))]) FC hKn (c_X8_begin l g r2 n2 g2 p2 p3) m_yX8_begin b_147 (ci := 8) rfl rfl rfl hP hD hS hA [4, 8] [0, 1, 2, 3, 5, 6, 7, 9] rfl (by decide) rfl (by decide) (by decide) rfl hl.1 rfl (Nat.le_of_ble_eq_true rfl) dX11_row_52 ⟨(Nat.le_of_ble_eq_true rfl), (Nat.le_of_ble_eq_true rfl)⟩ ⟨(Nat.le_of_ble_eq_true rfl), (Nat.le_of_ble_eq_true rfl)⟩ (fun u9 H locs _ hP hD hS => ?_)
              have hP : va_P g.1 vwCl [(h0, .inr (11, [.ref w0, .ref h1, .ref w2, .ref w3, .ref w4, .ref w5, .ref w6, .ref w7, .ref w8, .ref w9, .ref w10])), (w4, .inl (g.2 5, 4, .inr (.inr (.inr (.inr (va_up (va_up (va_up (va_up (fun _ => none) 0 (some r0)) 1 (some r1)) 2 (some r2)) 3 (some r3))))))), (r0, .inr (8, [.ref n0, .int 0, .int 0, .int 0])), (r1, .inr (8, [.ref n1, .int 0, .int 0, .int 0])), (r3, .inr (8, [.ref n3, .int 0, .int 0, .int 0])), (n0, .inl (g.2 3, 60, .inr (.inl g0))), (n1, .inl (g.2 3, 60, .inr (.inl g1))), (n3, .inl (g.2 3, 60, .inr (.inl g3)))] H := hP
              have hD : va_D A [(h0, .inr (11, [.ref w0, .ref h1, .ref w2, .ref w3, .ref w4, .ref w5, .ref w6, .ref w7, .ref w8, .ref w9, .ref w10])), (w4, .inl (g.2 5, 4, .inr (.inr (.inr (.inr (va_up (va_up (va_up (va_up (fun _ => none) 0 (some r0)) 1 (some r1)) 2 (some r2)) 3 (some r3))))))), (r0, .inr (8, [.ref n0, .int 0, .int 0, .int 0])), (r1, .inr (8, [.ref n1, .int 0, .int 0, .int 0])), (r3, .inr (8, [.ref n3, .int 0, .int 0, .int 0])), (n0, .inl (g.2 3, 60, .inr (.inl g0))), (n1, .inl (g.2 3, 60, .inr (.inl g1))), (n3, .inl (g.2 3, 60, .inr (.inl g3)))] := hD
              refine W.eq (g2 := F0 m 55 ls []) rfl ?_
              refine lv_iconst (v := 0) hx hb dX11_row_55 (by decide) ?_
              exact rt_i FX () (congrArg (fun z => some (Value.int z)) (show (0 : Int32) = _ from by first | decide | (unfold sp_row; (repeat' split) <;> first | rfl | (exfalso; omega)))) trivial (hP.sub [] rfl) (hD.sub [] (by decide) rfl) hS (Nat.le_of_ble_eq_true rfl) (Nat.le_of_ble_eq_true rfl) dX11_row_56
            · obtain rfl : p1 = 3 := Int32.toInt_inj.mp (hv.trans (by decide))
              refine va_aldq hx hb hKn.1 hP 1 5 rfl rfl (by unfold vp_in; decide) dX11_row_37 ?_
              refine W.eq (g2 := F0 m 38 ls [.ref r3]) rfl ?_
              refine lv_astore (lv' := [(4, .ref r3), (0, .ref h0), (1, .int 3), (2, .int p2), (3, .int p3)]) hx hb dX11_row_38 hl (by decide) rfl (fun ls hl => ?_)
              refine lv_aload hx hb dX11_row_40 (lv_at hl 0 rfl) ?_
              refine lv_ifnonnull (tgt := 48) hx hb dX11_row_42 (by decide) ?_
              refine lv_aload hx hb dX11_row_48 (lv_at hl 0 rfl) ?_
              refine lv_iload_n hx hb dX11_row_50 rfl (lv_at hl 3 rfl) ?_
              refine lv_iload_n hx hb dX11_row_51 rfl (lv_at hl 4 rfl) ?_
              refine call_VN (As := [.int p2, .int p3]) (rest := []) (wr := [(h0, .inr (11, [.ref w0, .ref h1, .ref w2, .ref w3, .ref w4, .ref w5, .ref w6, .ref w7, .ref w8, .ref w9, .ref w10])), (w4, .inl (g.2 5, 4, .inr (.inr (.inr (.inr (va_up (va_up (va_up (va_up (fun _ => none) 0 (some r0)) 1 (some r1)) 2 (some r2)) 3 (some r3))))))), (r0, .inr (8, [.ref n0, .int 0, .int 0, .int 0])), (r1, .inr (8, [.ref n1, .int 0, .int 0, .int 0])), (r2, .inr (8, [.ref n2, .int 0, .int 0, .int 0])), (n0, .inl (g.2 3, 60, .inr (.inl g0))), (n1, .inl (g.2 3, 60, .inr (.inl g1))), (n2, .inl (g.2 3, 60, .inr (.inl g2)))]) FC hKn (c_X8_begin l g r3 n3 g3 p2 p3) m_yX8_begin b_147 (ci := 8) rfl rfl rfl hP hD hS hA [5, 9] [0, 1, 2, 3, 4, 6, 7, 8] rfl (by decide) rfl (by decide) (by decide) rfl hl.1 rfl (Nat.le_of_ble_eq_true rfl) dX11_row_52 ⟨(Nat.le_of_ble_eq_true rfl), (Nat.le_of_ble_eq_true rfl)⟩ ⟨(Nat.le_of_ble_eq_true rfl), (Nat.le_of_ble_eq_true rfl)⟩ (fun u10 H locs _ hP hD hS => ?_)
              have hP : va_P g.1 vwCl [(h0, .inr (11, [.ref w0, .ref h1, .ref w2, .ref w3, .ref w4, .ref w5, .ref w6, .ref w7, .ref w8, .ref w9, .ref w10])), (w4, .inl (g.2 5, 4, .inr (.inr (.inr (.inr (va_up (va_up (va_up (va_up (fun _ => none) 0 (some r0)) 1 (some r1)) 2 (some r2)) 3 (some r3))))))), (r0, .inr (8, [.ref n0, .int 0, .int 0, .int 0])), (r1, .inr (8, [.ref n1, .int 0, .int 0, .int 0])), (r2, .inr (8, [.ref n2, .int 0, .int 0, .int 0])), (n0, .inl (g.2 3, 60, .inr (.inl g0))), (n1, .inl (g.2 3, 60, .inr (.inl g1))), (n2, .inl (g.2 3, 60, .inr (.inl g2)))] H := hP
              have hD : va_D A [(h0, .inr (11, [.ref w0, .ref h1, .ref w2, .ref w3, .ref w4, .ref w5, .ref w6, .ref w7, .ref w8, .ref w9, .ref w10])), (w4, .inl (g.2 5, 4, .inr (.inr (.inr (.inr (va_up (va_up (va_up (va_up (fun _ => none) 0 (some r0)) 1 (some r1)) 2 (some r2)) 3 (some r3))))))), (r0, .inr (8, [.ref n0, .int 0, .int 0, .int 0])), (r1, .inr (8, [.ref n1, .int 0, .int 0, .int 0])), (r2, .inr (8, [.ref n2, .int 0, .int 0, .int 0])), (n0, .inl (g.2 3, 60, .inr (.inl g0))), (n1, .inl (g.2 3, 60, .inr (.inl g1))), (n2, .inl (g.2 3, 60, .inr (.inl g2)))] := hD
              refine W.eq (g2 := F0 m 55 ls []) rfl ?_
              refine lv_iconst (v := 0) hx hb dX11_row_55 (by decide) ?_
              exact rt_i FX () (congrArg (fun z => some (Value.int z)) (show (0 : Int32) = _ from by first | decide | (unfold sp_row; (repeat' split) <;> first | rfl | (exfalso; omega)))) trivial (hP.sub [] rfl) (hD.sub [] (by decide) rfl) hS (Nat.le_of_ble_eq_true rfl) (Nat.le_of_ble_eq_true rfl) dX11_row_56
          · have c6 := k_nle (a := 0) (b := p3.toInt) (by decide) rfl c6
            refine lv_bipush (v := -3) hx hb dX11_row_29 (by decide) ?_
            exact rt_i FX () (congrArg (fun z => some (Value.int z)) (show (-3 : Int32) = _ from by first | decide | (unfold sp_row; (repeat' split) <;> first | rfl | (exfalso; omega)))) trivial (hP.sub [] rfl) (hD.sub [] (by decide) rfl) hS (Nat.le_of_ble_eq_true rfl) (Nat.le_of_ble_eq_true rfl) dX11_row_31
        · have c5 := k_nle (a := p3.toInt) (b := 60) rfl (by decide) c5
          refine lv_bipush (v := -2) hx hb dX11_row_22 (by decide) ?_
          exact rt_i FX () (congrArg (fun z => some (Value.int z)) (show (-2 : Int32) = _ from by first | decide | (unfold sp_row; (repeat' split) <;> first | rfl | (exfalso; omega)))) trivial (hP.sub [] rfl) (hD.sub [] (by decide) rfl) hS (Nat.le_of_ble_eq_true rfl) (Nat.le_of_ble_eq_true rfl) dX11_row_24
  · refine tp_i (v := 0) (if_neg c2) ?_
    refine lv_if_eq (tgt := 22) hx hb dX11_row_4 (by decide) (fun _ => ?_) (fun h => absurd h (by decide))
    refine lv_bipush (v := -2) hx hb dX11_row_22 (by decide) ?_
    exact rt_i FX () (congrArg (fun z => some (Value.int z)) (show (-2 : Int32) = _ from by first | decide | (unfold sp_row; (repeat' split) <;> first | rfl | (exfalso; omega)))) trivial (hP.sub [] rfl) (hD.sub [] (by decide) rfl) hS (Nat.le_of_ble_eq_true rfl) (Nat.le_of_ble_eq_true rfl) dX11_row_24
set_option maxRecDepth 100000 in
set_option maxHeartbeats 4000000 in
theorem c_X11_image (l : Launch) (g : GG) (h0 : Nat) (w0 : Nat) (w2 : Nat) (w3 : Nat) (w4 : Nat) (w5 : Nat) (w6 : Nat) (w7 : Nat) (w8 : Nat) (w9 : Nat) (w10 : Nat) (h1 : Nat) (v0 : Nat) (v1 : Nat) (v2 : Nat) (v3 : Nat) (v4 : Nat) (v5 : Nat) (v6 : Nat) (v7 : Nat) (v8 : Nat) (v9 : Nat) (x0 : Nat) (x1 : Nat) (x2 : Nat) (ia : Nat) (va0 : Nat) (va1 : Nat) (va2 : Nat) (va3 : Nat) (va4 : Nat) (va5 : Nat) (va6 : Nat) (va7 : Nat) (va8 : Nat) (va9 : Nat) (xa0 : Nat) (xa1 : Nat) (xa2 : Nat) (ib : Nat) (vb0 : Nat) (vb1 : Nat) (vb2 : Nat) (vb3 : Nat) (vb4 : Nat) (vb5 : Nat) (vb6 : Nat) (vb7 : Nat) (vb8 : Nat) (vb9 : Nat) (xb0 : Nat) (xb1 : Nat) (xb2 : Nat) (ic : Nat) (vc0 : Nat) (vc1 : Nat) (vc2 : Nat) (vc3 : Nat) (vc4 : Nat) (vc5 : Nat) (vc6 : Nat) (vc7 : Nat) (vc8 : Nat) (vc9 : Nat) (xc0 : Nat) (xc1 : Nat) (xc2 : Nat) (p1 : Int32) : Ct l g yX11_image cX11_image 3 (some .int) { frames := 3, cells := 0, slots := 0, locals := 60 } [.ref h0, .int p1] [(h0, .inr (11, [.ref w0, .ref h1, .ref w2, .ref w3, .ref w4, .ref w5, .ref w6, .ref w7, .ref w8, .ref w9, .ref w10])), (w2, .inl (g.2 4, 3, .inr (.inr (.inr (.inr (va_up (va_up (va_up (fun _ => none) 0 (some ia)) 1 (some ib)) 2 (some ic))))))), (w3, .inl (g.2 2, 3, .inl (fun _ => 0))), (h1, .inr (0, [.int 0, .int 0, .int 0, .int 0, .int 0, .int 0, .int 0, .int 0, .int 0, .int 0, .ref v0, .ref v1, .ref v2, .ref v3, .ref v4, .ref v5, .ref v6, .ref v7, .ref v8, .ref v9])), (v0, .inl (g.2 0, 8, .inl (fun _ => 0))), (v1, .inl (g.2 0, 32, .inl (fun _ => 0))), (v2, .inl (g.2 0, 4, .inl (fun _ => 0))), (v3, .inl (g.2 0, 4, .inl (fun _ => 0))), (v4, .inl (g.2 0, 8, .inl (fun _ => 0))), (v5, .inl (g.2 0, 8, .inl (fun _ => 0))), (v6, .inl (g.2 0, 4, .inl (fun _ => 0))), (v7, .inl (g.2 0, 20, .inl (fun _ => 0))), (v8, .inl (g.2 0, 6, .inl (fun _ => 0))), (v9, .inr (3, [.ref x0, .ref x1, .ref x2, .int 0])), (x0, .inl (g.2 0, 60, .inl (fun _ => 0))), (x1, .inl (g.2 0, 60, .inl (fun _ => 0))), (x2, .inl (g.2 0, 60, .inl (fun _ => 0))), (ia, .inr (0, [.int 0, .int 0, .int 0, .int 0, .int 0, .int 0, .int 0, .int 0, .int 0, .int 0, .ref va0, .ref va1, .ref va2, .ref va3, .ref va4, .ref va5, .ref va6, .ref va7, .ref va8, .ref va9])), (va0, .inl (g.2 0, 8, .inl (fun _ => 0))), (va1, .inl (g.2 0, 32, .inl (fun _ => 0))), (va2, .inl (g.2 0, 4, .inl (fun _ => 0))), (va3, .inl (g.2 0, 4, .inl (fun _ => 0))), (va4, .inl (g.2 0, 8, .inl (fun _ => 0))), (va5, .inl (g.2 0, 8, .inl (fun _ => 0))), (va6, .inl (g.2 0, 4, .inl (fun _ => 0))), (va7, .inl (g.2 0, 20, .inl (fun _ => 0))), (va8, .inl (g.2 0, 6, .inl (fun _ => 0))), (va9, .inr (3, [.ref xa0, .ref xa1, .ref xa2, .int 0])), (xa0, .inl (g.2 0, 60, .inl (fun _ => 0))), (xa1, .inl (g.2 0, 60, .inl (fun _ => 0))), (xa2, .inl (g.2 0, 60, .inl (fun _ => 0))), (ib, .inr (0, [.int 0, .int 0, .int 0, .int 0, .int 0, .int 0, .int 0, .int 0, .int 0, .int 0, .ref vb0, .ref vb1, .ref vb2, .ref vb3, .ref vb4, .ref vb5, .ref vb6, .ref vb7, .ref vb8, .ref vb9])), (vb0, .inl (g.2 0, 8, .inl (fun _ => 0))), (vb1, .inl (g.2 0, 32, .inl (fun _ => 0))), (vb2, .inl (g.2 0, 4, .inl (fun _ => 0))), (vb3, .inl (g.2 0, 4, .inl (fun _ => 0))), (vb4, .inl (g.2 0, 8, .inl (fun _ => 0))), (vb5, .inl (g.2 0, 8, .inl (fun _ => 0))), (vb6, .inl (g.2 0, 4, .inl (fun _ => 0))), (vb7, .inl (g.2 0, 20, .inl (fun _ => 0))), (vb8, .inl (g.2 0, 6, .inl (fun _ => 0))), (vb9, .inr (3, [.ref xb0, .ref xb1, .ref xb2, .int 0])), (xb0, .inl (g.2 0, 60, .inl (fun _ => 0))), (xb1, .inl (g.2 0, 60, .inl (fun _ => 0))), (xb2, .inl (g.2 0, 60, .inl (fun _ => 0))), (ic, .inr (0, [.int 0, .int 0, .int 0, .int 0, .int 0, .int 0, .int 0, .int 0, .int 0, .int 0, .ref vc0, .ref vc1, .ref vc2, .ref vc3, .ref vc4, .ref vc5, .ref vc6, .ref vc7, .ref vc8, .ref vc9])), (vc0, .inl (g.2 0, 8, .inl (fun _ => 0))), (vc1, .inl (g.2 0, 32, .inl (fun _ => 0))), (vc2, .inl (g.2 0, 4, .inl (fun _ => 0))), (vc3, .inl (g.2 0, 4, .inl (fun _ => 0))), (vc4, .inl (g.2 0, 8, .inl (fun _ => 0))), (vc5, .inl (g.2 0, 8, .inl (fun _ => 0))), (vc6, .inl (g.2 0, 4, .inl (fun _ => 0))), (vc7, .inl (g.2 0, 20, .inl (fun _ => 0))), (vc8, .inl (g.2 0, 6, .inl (fun _ => 0))), (vc9, .inr (3, [.ref xc0, .ref xc1, .ref xc2, .int 0])), (xc0, .inl (g.2 0, 60, .inl (fun _ => 0))), (xc1, .inl (g.2 0, 60, .inl (fun _ => 0))), (xc2, .inl (g.2 0, 60, .inl (fun _ => 0)))] (S := Unit) (fun _ => some (.int (sp_image p1))) (fun _ => True) (fun u => []) := by
  refine Ct.of (by decide) (Nat.le_of_ble_eq_true rfl) ?_
  intro p e s m below meth c A ls FX hP hD hS hl
  obtain ⟨FC, hr, hlk, hKn, hA, hnm⟩ := id FX
  have FC : CallFix p m c cX11_image 3 s _ BIG RX11 := FC
  obtain ⟨hx, hb, hml, hown, hB⟩ := id FC
  have hl : lv_has ls 3 [(0, .ref h0), (1, .int p1)] := hl
  refine lv_iload_n hx hb dX11_image_0 rfl (lv_at hl 1 rfl) ?_
  refine lv_if_lt (tgt := 9) hx hb dX11_image_1 (by decide) (fun c1 => ?_) (fun c1 => ?_)
  · have c1 := k_lt (a := p1.toInt) (b := 0) rfl (by decide) c1
    refine lv_bipush (v := -2) hx hb dX11_image_9 (by decide) ?_
    exact rt_i FX () (congrArg (fun z => some (Value.int z)) (show (-2 : Int32) = _ from by first | decide | (unfold sp_image; (repeat' split) <;> first | rfl | (exfalso; omega)))) trivial (hP.sub [] rfl) (hD.sub [] (by decide) rfl) hS (Nat.le_of_ble_eq_true rfl) (Nat.le_of_ble_eq_true rfl) dX11_image_11
  · have c1 := k_nlt (a := p1.toInt) (b := 0) rfl (by decide) c1
    refine lv_iload_n hx hb dX11_image_4 rfl (lv_at hl 1 rfl) ?_
    refine lv_iconst (v := 3) hx hb dX11_image_5 (by decide) ?_
    refine lv_icmp_lt (tgt := 12) hx hb dX11_image_6 (by decide) (fun c2 => ?_) (fun c2 => ?_)
    · have c2 := k_lt (a := p1.toInt) (b := 3) rfl (by decide) c2
      refine lv_aload_n hx hb dX11_image_12 rfl (lv_at hl 0 rfl) ?_
      refine g_get (C := RX11) (T := TX11) (N := 11) (ci := 11) (v := .ref w2) FC hKn hP i_X11 0 rfl rfl 2 (by decide) b_148 rfl dX11_image_13 ?_
      refine lv_iload_n hx hb dX11_image_16 rfl (lv_at hl 1 rfl) ?_
      rcases (show p1.toInt = 0 ∨ p1.toInt = 1 ∨ p1.toInt = 2 by omega) with hv | hv | hv
      · obtain rfl : p1 = 0 := Int32.toInt_inj.mp (hv.trans (by decide))
        refine va_aldq hx hb hKn.1 hP 1 4 rfl rfl (by unfold vp_in; decide) dX11_image_17 ?_
        refine W.eq (g2 := F0 m 18 ls [.ref ia]) rfl ?_
        refine lv_astore_n (lv' := [(2, .ref ia), (0, .ref h0), (1, .int 0)]) hx hb dX11_image_18 rfl hl (by decide) rfl (fun ls hl => ?_)
        refine lv_aload_n hx hb dX11_image_19 rfl (lv_at hl 0 rfl) ?_
        refine lv_ifnonnull (tgt := 26) hx hb dX11_image_20 (by decide) ?_
        refine lv_aload_n hx hb dX11_image_26 rfl (lv_at hl 0 rfl) ?_
        refine lv_aload_n hx hb dX11_image_27 rfl (lv_at hl 1 rfl) ?_
        refine g_get (C := RX11) (T := TX11) (N := 11) (ci := 11) (v := .ref h1) FC hKn hP i_X11 0 rfl rfl 1 (by decide) b_10 rfl dX11_image_28 ?_
        refine call_VN (As := [.ref h1]) (rest := []) (wr := [(h0, .inr (11, [.ref w0, .ref h1, .ref w2, .ref w3, .ref w4, .ref w5, .ref w6, .ref w7, .ref w8, .ref w9, .ref w10])), (w2, .inl (g.2 4, 3, .inr (.inr (.inr (.inr (va_up (va_up (va_up (fun _ => none) 0 (some ia)) 1 (some ib)) 2 (some ic))))))), (w3, .inl (g.2 2, 3, .inl (fun _ => 0))), (ib, .inr (0, [.int 0, .int 0, .int 0, .int 0, .int 0, .int 0, .int 0, .int 0, .int 0, .int 0, .ref vb0, .ref vb1, .ref vb2, .ref vb3, .ref vb4, .ref vb5, .ref vb6, .ref vb7, .ref vb8, .ref vb9])), (vb0, .inl (g.2 0, 8, .inl (fun _ => 0))), (vb1, .inl (g.2 0, 32, .inl (fun _ => 0))), (vb2, .inl (g.2 0, 4, .inl (fun _ => 0))), (vb3, .inl (g.2 0, 4, .inl (fun _ => 0))), (vb4, .inl (g.2 0, 8, .inl (fun _ => 0))), (vb5, .inl (g.2 0, 8, .inl (fun _ => 0))), (vb6, .inl (g.2 0, 4, .inl (fun _ => 0))), (vb7, .inl (g.2 0, 20, .inl (fun _ => 0))), (vb8, .inl (g.2 0, 6, .inl (fun _ => 0))), (vb9, .inr (3, [.ref xb0, .ref xb1, .ref xb2, .int 0])), (xb0, .inl (g.2 0, 60, .inl (fun _ => 0))), (xb1, .inl (g.2 0, 60, .inl (fun _ => 0))), (xb2, .inl (g.2 0, 60, .inl (fun _ => 0))), (ic, .inr (0, [.int 0, .int 0, .int 0, .int 0, .int 0, .int 0, .int 0, .int 0, .int 0, .int 0, .ref vc0, .ref vc1, .ref vc2, .ref vc3, .ref vc4, .ref vc5, .ref vc6, .ref vc7, .ref vc8, .ref vc9])), (vc0, .inl (g.2 0, 8, .inl (fun _ => 0))), (vc1, .inl (g.2 0, 32, .inl (fun _ => 0))), (vc2, .inl (g.2 0, 4, .inl (fun _ => 0))), (vc3, .inl (g.2 0, 4, .inl (fun _ => 0))), (vc4, .inl (g.2 0, 8, .inl (fun _ => 0))), (vc5, .inl (g.2 0, 8, .inl (fun _ => 0))), (vc6, .inl (g.2 0, 4, .inl (fun _ => 0))), (vc7, .inl (g.2 0, 20, .inl (fun _ => 0))), (vc8, .inl (g.2 0, 6, .inl (fun _ => 0))), (vc9, .inr (3, [.ref xc0, .ref xc1, .ref xc2, .int 0])), (xc0, .inl (g.2 0, 60, .inl (fun _ => 0))), (xc1, .inl (g.2 0, 60, .inl (fun _ => 0))), (xc2, .inl (g.2 0, 60, .inl (fun _ => 0)))]) FC hKn (c_X0_copyFrom l g ia va0 va1 va2 va3 va4 va5 va6 va7 va8 va9 xa0 xa1 xa2 (fun _ => 0) (fun _ => 0) (fun _ => 0) (fun _ => 0) (fun _ => 0) (fun _ => 0) (fun _ => 0) (fun _ => 0) (fun _ => 0) (fun _ => 0) (fun _ => 0) (fun _ => 0) h1 v0 v1 v2 v3 v4 v5 v6 v7 v8 v9 x0 x1 x2 (fun _ => 0) (fun _ => 0) (fun _ => 0) (fun _ => 0) (fun _ => 0) (fun _ => 0) (fun _ => 0) (fun _ => 0) (fun _ => 0) (fun _ => 0) (fun _ => 0) (fun _ => 0)) m_yX0_copyFrom b_149 (ci := 0) rfl rfl rfl hP hD hS hA [17, 18, 19, 20, 21, 22, 23, 24, 25, 26, 27, 28, 29, 30, 3, 4, 5, 6, 7, 8, 9, 10, 11, 12, 13, 14, 15, 16] [0, 1, 2, 31, 32, 33, 34, 35, 36, 37, 38, 39, 40, 41, 42, 43, 44, 45, 46, 47, 48, 49, 50, 51, 52, 53, 54, 55, 56, 57, 58] rfl (by decide) rfl (by decide) (by decide) rfl hl.1 rfl (Nat.le_of_ble_eq_true rfl) dX11_image_31 ⟨(Nat.le_of_ble_eq_true rfl), (Nat.le_of_ble_eq_true rfl)⟩ ⟨(Nat.le_of_ble_eq_true rfl), (Nat.le_of_ble_eq_true rfl)⟩ (fun u3 H locs _ hP hD hS => ?_)
        have hP : va_P g.1 vwCl [(h0, .inr (11, [.ref w0, .ref h1, .ref w2, .ref w3, .ref w4, .ref w5, .ref w6, .ref w7, .ref w8, .ref w9, .ref w10])), (w2, .inl (g.2 4, 3, .inr (.inr (.inr (.inr (va_up (va_up (va_up (fun _ => none) 0 (some ia)) 1 (some ib)) 2 (some ic))))))), (w3, .inl (g.2 2, 3, .inl (fun _ => 0))), (ib, .inr (0, [.int 0, .int 0, .int 0, .int 0, .int 0, .int 0, .int 0, .int 0, .int 0, .int 0, .ref vb0, .ref vb1, .ref vb2, .ref vb3, .ref vb4, .ref vb5, .ref vb6, .ref vb7, .ref vb8, .ref vb9])), (vb0, .inl (g.2 0, 8, .inl (fun _ => 0))), (vb1, .inl (g.2 0, 32, .inl (fun _ => 0))), (vb2, .inl (g.2 0, 4, .inl (fun _ => 0))), (vb3, .inl (g.2 0, 4, .inl (fun _ => 0))), (vb4, .inl (g.2 0, 8, .inl (fun _ => 0))), (vb5, .inl (g.2 0, 8, .inl (fun _ => 0))), (vb6, .inl (g.2 0, 4, .inl (fun _ => 0))), (vb7, .inl (g.2 0, 20, .inl (fun _ => 0))), (vb8, .inl (g.2 0, 6, .inl (fun _ => 0))), (vb9, .inr (3, [.ref xb0, .ref xb1, .ref xb2, .int 0])), (xb0, .inl (g.2 0, 60, .inl (fun _ => 0))), (xb1, .inl (g.2 0, 60, .inl (fun _ => 0))), (xb2, .inl (g.2 0, 60, .inl (fun _ => 0))), (ic, .inr (0, [.int 0, .int 0, .int 0, .int 0, .int 0, .int 0, .int 0, .int 0, .int 0, .int 0, .ref vc0, .ref vc1, .ref vc2, .ref vc3, .ref vc4, .ref vc5, .ref vc6, .ref vc7, .ref vc8, .ref vc9])), (vc0, .inl (g.2 0, 8, .inl (fun _ => 0))), (vc1, .inl (g.2 0, 32, .inl (fun _ => 0))), (vc2, .inl (g.2 0, 4, .inl (fun _ => 0))), (vc3, .inl (g.2 0, 4, .inl (fun _ => 0))), (vc4, .inl (g.2 0, 8, .inl (fun _ => 0))), (vc5, .inl (g.2 0, 8, .inl (fun _ => 0))), (vc6, .inl (g.2 0, 4, .inl (fun _ => 0))), (vc7, .inl (g.2 0, 20, .inl (fun _ => 0))), (vc8, .inl (g.2 0, 6, .inl (fun _ => 0))), (vc9, .inr (3, [.ref xc0, .ref xc1, .ref xc2, .int 0])), (xc0, .inl (g.2 0, 60, .inl (fun _ => 0))), (xc1, .inl (g.2 0, 60, .inl (fun _ => 0))), (xc2, .inl (g.2 0, 60, .inl (fun _ => 0))), (ia, .inr (0, [.int 0, .int 0, .int 0, .int 0, .int 0, .int 0, .int 0, .int 0, .int 0, .int 0, .ref va0, .ref va1, .ref va2, .ref va3, .ref va4, .ref va5, .ref va6, .ref va7, .ref va8, .ref va9]))] H := hP
        have hD : va_D A [(h0, .inr (11, [.ref w0, .ref h1, .ref w2, .ref w3, .ref w4, .ref w5, .ref w6, .ref w7, .ref w8, .ref w9, .ref w10])), (w2, .inl (g.2 4, 3, .inr (.inr (.inr (.inr (va_up (va_up (va_up (fun _ => none) 0 (some ia)) 1 (some ib)) 2 (some ic))))))), (w3, .inl (g.2 2, 3, .inl (fun _ => 0))), (ib, .inr (0, [.int 0, .int 0, .int 0, .int 0, .int 0, .int 0, .int 0, .int 0, .int 0, .int 0, .ref vb0, .ref vb1, .ref vb2, .ref vb3, .ref vb4, .ref vb5, .ref vb6, .ref vb7, .ref vb8, .ref vb9])), (vb0, .inl (g.2 0, 8, .inl (fun _ => 0))), (vb1, .inl (g.2 0, 32, .inl (fun _ => 0))), (vb2, .inl (g.2 0, 4, .inl (fun _ => 0))), (vb3, .inl (g.2 0, 4, .inl (fun _ => 0))), (vb4, .inl (g.2 0, 8, .inl (fun _ => 0))), (vb5, .inl (g.2 0, 8, .inl (fun _ => 0))), (vb6, .inl (g.2 0, 4, .inl (fun _ => 0))), (vb7, .inl (g.2 0, 20, .inl (fun _ => 0))), (vb8, .inl (g.2 0, 6, .inl (fun _ => 0))), (vb9, .inr (3, [.ref xb0, .ref xb1, .ref xb2, .int 0])), (xb0, .inl (g.2 0, 60, .inl (fun _ => 0))), (xb1, .inl (g.2 0, 60, .inl (fun _ => 0))), (xb2, .inl (g.2 0, 60, .inl (fun _ => 0))), (ic, .inr (0, [.int 0, .int 0, .int 0, .int 0, .int 0, .int 0, .int 0, .int 0, .int 0, .int 0, .ref vc0, .ref vc1, .ref vc2, .ref vc3, .ref vc4, .ref vc5, .ref vc6, .ref vc7, .ref vc8, .ref vc9])), (vc0, .inl (g.2 0, 8, .inl (fun _ => 0))), (vc1, .inl (g.2 0, 32, .inl (fun _ => 0))), (vc2, .inl (g.2 0, 4, .inl (fun _ => 0))), (vc3, .inl (g.2 0, 4, .inl (fun _ => 0))), (vc4, .inl (g.2 0, 8, .inl (fun _ => 0))), (vc5, .inl (g.2 0, 8, .inl (fun _ => 0))), (vc6, .inl (g.2 0, 4, .inl (fun _ => 0))), (vc7, .inl (g.2 0, 20, .inl (fun _ => 0))), (vc8, .inl (g.2 0, 6, .inl (fun _ => 0))), (vc9, .inr (3, [.ref xc0, .ref xc1, .ref xc2, .int 0])), (xc0, .inl (g.2 0, 60, .inl (fun _ => 0))), (xc1, .inl (g.2 0, 60, .inl (fun _ => 0))), (xc2, .inl (g.2 0, 60, .inl (fun _ => 0))), (ia, .inr (0, [.int 0, .int 0, .int 0, .int 0, .int 0, .int 0, .int 0, .int 0, .int 0, .int 0, .ref va0, .ref va1, .ref va2, .ref va3, .ref va4, .ref va5, .ref va6, .ref va7, .ref va8, .ref va9]))] := hD
        refine W.eq (g2 := F0 m 34 ls []) rfl ?_
        refine lv_aload_n hx hb dX11_image_34 rfl (lv_at hl 1 rfl) ?_
        refine g_get (C := RX11) (T := TX11) (N := 11) (ci := 11) (v := .ref w3) FC hKn hP i_X11 0 rfl rfl 3 (by decide) b_150 rfl dX11_image_35 ?_
        refine lv_iload_n hx hb dX11_image_38 rfl (lv_at hl 2 rfl) ?_
        refine lv_iconst (v := 1) hx hb dX11_image_39 (by decide) ?_
        refine va_zast hx hb hKn.1 hP hD hS 2 2 rfl rfl (by unfold vp_in; decide) dX11_image_40 (fun H locs hP hD hS => ?_)
        have hP : va_P g.1 vwCl [(h0, .inr (11, [.ref w0, .ref h1, .ref w2, .ref w3, .ref w4, .ref w5, .ref w6, .ref w7, .ref w8, .ref w9, .ref w10])), (w2, .inl (g.2 4, 3, .inr (.inr (.inr (.inr (va_up (va_up (va_up (fun _ => none) 0 (some ia)) 1 (some ib)) 2 (some ic))))))), (w3, .inl (g.2 2, 3, .inl (upd (fun _ => 0) ((0 : Int32).toNatClampNeg) (vp_nar .boolean 1)))), (ib, .inr (0, [.int 0, .int 0, .int 0, .int 0, .int 0, .int 0, .int 0, .int 0, .int 0, .int 0, .ref vb0, .ref vb1, .ref vb2, .ref vb3, .ref vb4, .ref vb5, .ref vb6, .ref vb7, .ref vb8, .ref vb9])), (vb0, .inl (g.2 0, 8, .inl (fun _ => 0))), (vb1, .inl (g.2 0, 32, .inl (fun _ => 0))), (vb2, .inl (g.2 0, 4, .inl (fun _ => 0))), (vb3, .inl (g.2 0, 4, .inl (fun _ => 0))), (vb4, .inl (g.2 0, 8, .inl (fun _ => 0))), (vb5, .inl (g.2 0, 8, .inl (fun _ => 0))), (vb6, .inl (g.2 0, 4, .inl (fun _ => 0))), (vb7, .inl (g.2 0, 20, .inl (fun _ => 0))), (vb8, .inl (g.2 0, 6, .inl (fun _ => 0))), (vb9, .inr (3, [.ref xb0, .ref xb1, .ref xb2, .int 0])), (xb0, .inl (g.2 0, 60, .inl (fun _ => 0))), (xb1, .inl (g.2 0, 60, .inl (fun _ => 0))), (xb2, .inl (g.2 0, 60, .inl (fun _ => 0))), (ic, .inr (0, [.int 0, .int 0, .int 0, .int 0, .int 0, .int 0, .int 0, .int 0, .int 0, .int 0, .ref vc0, .ref vc1, .ref vc2, .ref vc3, .ref vc4, .ref vc5, .ref vc6, .ref vc7, .ref vc8, .ref vc9])), (vc0, .inl (g.2 0, 8, .inl (fun _ => 0))), (vc1, .inl (g.2 0, 32, .inl (fun _ => 0))), (vc2, .inl (g.2 0, 4, .inl (fun _ => 0))), (vc3, .inl (g.2 0, 4, .inl (fun _ => 0))), (vc4, .inl (g.2 0, 8, .inl (fun _ => 0))), (vc5, .inl (g.2 0, 8, .inl (fun _ => 0))), (vc6, .inl (g.2 0, 4, .inl (fun _ => 0))), (vc7, .inl (g.2 0, 20, .inl (fun _ => 0))), (vc8, .inl (g.2 0, 6, .inl (fun _ => 0))), (vc9, .inr (3, [.ref xc0, .ref xc1, .ref xc2, .int 0])), (xc0, .inl (g.2 0, 60, .inl (fun _ => 0))), (xc1, .inl (g.2 0, 60, .inl (fun _ => 0))), (xc2, .inl (g.2 0, 60, .inl (fun _ => 0))), (ia, .inr (0, [.int 0, .int 0, .int 0, .int 0, .int 0, .int 0, .int 0, .int 0, .int 0, .int 0, .ref va0, .ref va1, .ref va2, .ref va3, .ref va4, .ref va5, .ref va6, .ref va7, .ref va8, .ref va9]))] H := hP
        have hD : va_D A [(h0, .inr (11, [.ref w0, .ref h1, .ref w2, .ref w3, .ref w4, .ref w5, .ref w6, .ref w7, .ref w8, .ref w9, .ref w10])), (w2, .inl (g.2 4, 3, .inr (.inr (.inr (.inr (va_up (va_up (va_up (fun _ => none) 0 (some ia)) 1 (some ib)) 2 (some ic))))))), (w3, .inl (g.2 2, 3, .inl (upd (fun _ => 0) ((0 : Int32).toNatClampNeg) (vp_nar .boolean 1)))), (ib, .inr (0, [.int 0, .int 0, .int 0, .int 0, .int 0, .int 0, .int 0, .int 0, .int 0, .int 0, .ref vb0, .ref vb1, .ref vb2, .ref vb3, .ref vb4, .ref vb5, .ref vb6, .ref vb7, .ref vb8, .ref vb9])), (vb0, .inl (g.2 0, 8, .inl (fun _ => 0))), (vb1, .inl (g.2 0, 32, .inl (fun _ => 0))), (vb2, .inl (g.2 0, 4, .inl (fun _ => 0))), (vb3, .inl (g.2 0, 4, .inl (fun _ => 0))), (vb4, .inl (g.2 0, 8, .inl (fun _ => 0))), (vb5, .inl (g.2 0, 8, .inl (fun _ => 0))), (vb6, .inl (g.2 0, 4, .inl (fun _ => 0))), (vb7, .inl (g.2 0, 20, .inl (fun _ => 0))), (vb8, .inl (g.2 0, 6, .inl (fun _ => 0))), (vb9, .inr (3, [.ref xb0, .ref xb1, .ref xb2, .int 0])), (xb0, .inl (g.2 0, 60, .inl (fun _ => 0))), (xb1, .inl (g.2 0, 60, .inl (fun _ => 0))), (xb2, .inl (g.2 0, 60, .inl (fun _ => 0))), (ic, .inr (0, [.int 0, .int 0, .int 0, .int 0, .int 0, .int 0, .int 0, .int 0, .int 0, .int 0, .ref vc0, .ref vc1, .ref vc2, .ref vc3, .ref vc4, .ref vc5, .ref vc6, .ref vc7, .ref vc8, .ref vc9])), (vc0, .inl (g.2 0, 8, .inl (fun _ => 0))), (vc1, .inl (g.2 0, 32, .inl (fun _ => 0))), (vc2, .inl (g.2 0, 4, .inl (fun _ => 0))), (vc3, .inl (g.2 0, 4, .inl (fun _ => 0))), (vc4, .inl (g.2 0, 8, .inl (fun _ => 0))), (vc5, .inl (g.2 0, 8, .inl (fun _ => 0))), (vc6, .inl (g.2 0, 4, .inl (fun _ => 0))), (vc7, .inl (g.2 0, 20, .inl (fun _ => 0))), (vc8, .inl (g.2 0, 6, .inl (fun _ => 0))), (vc9, .inr (3, [.ref xc0, .ref xc1, .ref xc2, .int 0])), (xc0, .inl (g.2 0, 60, .inl (fun _ => 0))), (xc1, .inl (g.2 0, 60, .inl (fun _ => 0))), (xc2, .inl (g.2 0, 60, .inl (fun _ => 0))), (ia, .inr (0, [.int 0, .int 0, .int 0, .int 0, .int 0, .int 0, .int 0, .int 0, .int 0, .int 0, .ref va0, .ref va1, .ref va2, .ref va3, .ref va4, .ref va5, .ref va6, .ref va7, .ref va8, .ref va9]))] := hD
        generalize (upd (fun _ => 0) ((0 : Int32).toNatClampNeg) (vp_nar .boolean 1) : Nat → Int32) = f4 at hP hD
        refine lv_iconst (v := 0) hx hb dX11_image_41 (by decide) ?_
        exact rt_i FX () (congrArg (fun z => some (Value.int z)) (show (0 : Int32) = _ from by first | decide | (unfold sp_image; (repeat' split) <;> first | rfl | (exfalso; omega)))) trivial (hP.sub [] rfl) (hD.sub [] (by decide) rfl) hS (Nat.le_of_ble_eq_true rfl) (Nat.le_of_ble_eq_true rfl) dX11_image_42
      · obtain rfl : p1 = 1 := Int32.toInt_inj.mp (hv.trans (by decide))
        refine va_aldq hx hb hKn.1 hP 1 4 rfl rfl (by unfold vp_in; decide) dX11_image_17 ?_
        refine W.eq (g2 := F0 m 18 ls [.ref ib]) rfl ?_
        refine lv_astore_n (lv' := [(2, .ref ib), (0, .ref h0), (1, .int 1)]) hx hb dX11_image_18 rfl hl (by decide) rfl (fun ls hl => ?_)
        refine lv_aload_n hx hb dX11_image_19 rfl (lv_at hl 0 rfl) ?_
        refine lv_ifnonnull (tgt := 26) hx hb dX11_image_20 (by decide) ?_
        refine lv_aload_n hx hb dX11_image_26 rfl (lv_at hl 0 rfl) ?_
        refine lv_aload_n hx hb dX11_image_27 rfl (lv_at hl 1 rfl) ?_
        refine g_get (C := RX11) (T := TX11) (N := 11) (ci := 11) (v := .ref h1) FC hKn hP i_X11 0 rfl rfl 1 (by decide) b_10 rfl dX11_image_28 ?_
        refine call_VN (As := [.ref h1]) (rest := []) (wr := [(h0, .inr (11, [.ref w0, .ref h1, .ref w2, .ref w3, .ref w4, .ref w5, .ref w6, .ref w7, .ref w8, .ref w9, .ref w10])), (w2, .inl (g.2 4, 3, .inr (.inr (.inr (.inr (va_up (va_up (va_up (fun _ => none) 0 (some ia)) 1 (some ib)) 2 (some ic))))))), (w3, .inl (g.2 2, 3, .inl (fun _ => 0))), (ia, .inr (0, [.int 0, .int 0, .int 0, .int 0, .int 0, .int 0, .int 0, .int 0, .int 0, .int 0, .ref va0, .ref va1, .ref va2, .ref va3, .ref va4, .ref va5, .ref va6, .ref va7, .ref va8, .ref va9])), (va0, .inl (g.2 0, 8, .inl (fun _ => 0))), (va1, .inl (g.2 0, 32, .inl (fun _ => 0))), (va2, .inl (g.2 0, 4, .inl (fun _ => 0))), (va3, .inl (g.2 0, 4, .inl (fun _ => 0))), (va4, .inl (g.2 0, 8, .inl (fun _ => 0))), (va5, .inl (g.2 0, 8, .inl (fun _ => 0))), (va6, .inl (g.2 0, 4, .inl (fun _ => 0))), (va7, .inl (g.2 0, 20, .inl (fun _ => 0))), (va8, .inl (g.2 0, 6, .inl (fun _ => 0))), (va9, .inr (3, [.ref xa0, .ref xa1, .ref xa2, .int 0])), (xa0, .inl (g.2 0, 60, .inl (fun _ => 0))), (xa1, .inl (g.2 0, 60, .inl (fun _ => 0))), (xa2, .inl (g.2 0, 60, .inl (fun _ => 0))), (ic, .inr (0, [.int 0, .int 0, .int 0, .int 0, .int 0, .int 0, .int 0, .int 0, .int 0, .int 0, .ref vc0, .ref vc1, .ref vc2, .ref vc3, .ref vc4, .ref vc5, .ref vc6, .ref vc7, .ref vc8, .ref vc9])), (vc0, .inl (g.2 0, 8, .inl (fun _ => 0))), (vc1, .inl (g.2 0, 32, .inl (fun _ => 0))), (vc2, .inl (g.2 0, 4, .inl (fun _ => 0))), (vc3, .inl (g.2 0, 4, .inl (fun _ => 0))), (vc4, .inl (g.2 0, 8, .inl (fun _ => 0))), (vc5, .inl (g.2 0, 8, .inl (fun _ => 0))), (vc6, .inl (g.2 0, 4, .inl (fun _ => 0))), (vc7, .inl (g.2 0, 20, .inl (fun _ => 0))), (vc8, .inl (g.2 0, 6, .inl (fun _ => 0))), (vc9, .inr (3, [.ref xc0, .ref xc1, .ref xc2, .int 0])), (xc0, .inl (g.2 0, 60, .inl (fun _ => 0))), (xc1, .inl (g.2 0, 60, .inl (fun _ => 0))), (xc2, .inl (g.2 0, 60, .inl (fun _ => 0)))]) FC hKn (c_X0_copyFrom l g ib vb0 vb1 vb2 vb3 vb4 vb5 vb6 vb7 vb8 vb9 xb0 xb1 xb2 (fun _ => 0) (fun _ => 0) (fun _ => 0) (fun _ => 0) (fun _ => 0) (fun _ => 0) (fun _ => 0) (fun _ => 0) (fun _ => 0) (fun _ => 0) (fun _ => 0) (fun _ => 0) h1 v0 v1 v2 v3 v4 v5 v6 v7 v8 v9 x0 x1 x2 (fun _ => 0) (fun _ => 0) (fun _ => 0) (fun _ => 0) (fun _ => 0) (fun _ => 0) (fun _ => 0) (fun _ => 0) (fun _ => 0) (fun _ => 0) (fun _ => 0) (fun _ => 0)) m_yX0_copyFrom b_149 (ci := 0) rfl rfl rfl hP hD hS hA [31, 32, 33, 34, 35, 36, 37, 38, 39, 40, 41, 42, 43, 44, 3, 4, 5, 6, 7, 8, 9, 10, 11, 12, 13, 14, 15, 16] [0, 1, 2, 17, 18, 19, 20, 21, 22, 23, 24, 25, 26, 27, 28, 29, 30, 45, 46, 47, 48, 49, 50, 51, 52, 53, 54, 55, 56, 57, 58] rfl (by decide) rfl (by decide) (by decide) rfl hl.1 rfl (Nat.le_of_ble_eq_true rfl) dX11_image_31 ⟨(Nat.le_of_ble_eq_true rfl), (Nat.le_of_ble_eq_true rfl)⟩ ⟨(Nat.le_of_ble_eq_true rfl), (Nat.le_of_ble_eq_true rfl)⟩ (fun u5 H locs _ hP hD hS => ?_)
        have hP : va_P g.1 vwCl [(h0, .inr (11, [.ref w0, .ref h1, .ref w2, .ref w3, .ref w4, .ref w5, .ref w6, .ref w7, .ref w8, .ref w9, .ref w10])), (w2, .inl (g.2 4, 3, .inr (.inr (.inr (.inr (va_up (va_up (va_up (fun _ => none) 0 (some ia)) 1 (some ib)) 2 (some ic))))))), (w3, .inl (g.2 2, 3, .inl (fun _ => 0))), (ia, .inr (0, [.int 0, .int 0, .int 0, .int 0, .int 0, .int 0, .int 0, .int 0, .int 0, .int 0, .ref va0, .ref va1, .ref va2, .ref va3, .ref va4, .ref va5, .ref va6, .ref va7, .ref va8, .ref va9])), (va0, .inl (g.2 0, 8, .inl (fun _ => 0))), (va1, .inl (g.2 0, 32, .inl (fun _ => 0))), (va2, .inl (g.2 0, 4, .inl (fun _ => 0))), (va3, .inl (g.2 0, 4, .inl (fun _ => 0))), (va4, .inl (g.2 0, 8, .inl (fun _ => 0))), (va5, .inl (g.2 0, 8, .inl (fun _ => 0))), (va6, .inl (g.2 0, 4, .inl (fun _ => 0))), (va7, .inl (g.2 0, 20, .inl (fun _ => 0))), (va8, .inl (g.2 0, 6, .inl (fun _ => 0))), (va9, .inr (3, [.ref xa0, .ref xa1, .ref xa2, .int 0])), (xa0, .inl (g.2 0, 60, .inl (fun _ => 0))), (xa1, .inl (g.2 0, 60, .inl (fun _ => 0))), (xa2, .inl (g.2 0, 60, .inl (fun _ => 0))), (ic, .inr (0, [.int 0, .int 0, .int 0, .int 0, .int 0, .int 0, .int 0, .int 0, .int 0, .int 0, .ref vc0, .ref vc1, .ref vc2, .ref vc3, .ref vc4, .ref vc5, .ref vc6, .ref vc7, .ref vc8, .ref vc9])), (vc0, .inl (g.2 0, 8, .inl (fun _ => 0))), (vc1, .inl (g.2 0, 32, .inl (fun _ => 0))), (vc2, .inl (g.2 0, 4, .inl (fun _ => 0))), (vc3, .inl (g.2 0, 4, .inl (fun _ => 0))), (vc4, .inl (g.2 0, 8, .inl (fun _ => 0))), (vc5, .inl (g.2 0, 8, .inl (fun _ => 0))), (vc6, .inl (g.2 0, 4, .inl (fun _ => 0))), (vc7, .inl (g.2 0, 20, .inl (fun _ => 0))), (vc8, .inl (g.2 0, 6, .inl (fun _ => 0))), (vc9, .inr (3, [.ref xc0, .ref xc1, .ref xc2, .int 0])), (xc0, .inl (g.2 0, 60, .inl (fun _ => 0))), (xc1, .inl (g.2 0, 60, .inl (fun _ => 0))), (xc2, .inl (g.2 0, 60, .inl (fun _ => 0))), (ib, .inr (0, [.int 0, .int 0, .int 0, .int 0, .int 0, .int 0, .int 0, .int 0, .int 0, .int 0, .ref vb0, .ref vb1, .ref vb2, .ref vb3, .ref vb4, .ref vb5, .ref vb6, .ref vb7, .ref vb8, .ref vb9]))] H := hP
        have hD : va_D A [(h0, .inr (11, [.ref w0, .ref h1, .ref w2, .ref w3, .ref w4, .ref w5, .ref w6, .ref w7, .ref w8, .ref w9, .ref w10])), (w2, .inl (g.2 4, 3, .inr (.inr (.inr (.inr (va_up (va_up (va_up (fun _ => none) 0 (some ia)) 1 (some ib)) 2 (some ic))))))), (w3, .inl (g.2 2, 3, .inl (fun _ => 0))), (ia, .inr (0, [.int 0, .int 0, .int 0, .int 0, .int 0, .int 0, .int 0, .int 0, .int 0, .int 0, .ref va0, .ref va1, .ref va2, .ref va3, .ref va4, .ref va5, .ref va6, .ref va7, .ref va8, .ref va9])), (va0, .inl (g.2 0, 8, .inl (fun _ => 0))), (va1, .inl (g.2 0, 32, .inl (fun _ => 0))), (va2, .inl (g.2 0, 4, .inl (fun _ => 0))), (va3, .inl (g.2 0, 4, .inl (fun _ => 0))), (va4, .inl (g.2 0, 8, .inl (fun _ => 0))), (va5, .inl (g.2 0, 8, .inl (fun _ => 0))), (va6, .inl (g.2 0, 4, .inl (fun _ => 0))), (va7, .inl (g.2 0, 20, .inl (fun _ => 0))), (va8, .inl (g.2 0, 6, .inl (fun _ => 0))), (va9, .inr (3, [.ref xa0, .ref xa1, .ref xa2, .int 0])), (xa0, .inl (g.2 0, 60, .inl (fun _ => 0))), (xa1, .inl (g.2 0, 60, .inl (fun _ => 0))), (xa2, .inl (g.2 0, 60, .inl (fun _ => 0))), (ic, .inr (0, [.int 0, .int 0, .int 0, .int 0, .int 0, .int 0, .int 0, .int 0, .int 0, .int 0, .ref vc0, .ref vc1, .ref vc2, .ref vc3, .ref vc4, .ref vc5, .ref vc6, .ref vc7, .ref vc8, .ref vc9])), (vc0, .inl (g.2 0, 8, .inl (fun _ => 0))), (vc1, .inl (g.2 0, 32, .inl (fun _ => 0))), (vc2, .inl (g.2 0, 4, .inl (fun _ => 0))), (vc3, .inl (g.2 0, 4, .inl (fun _ => 0))), (vc4, .inl (g.2 0, 8, .inl (fun _ => 0))), (vc5, .inl (g.2 0, 8, .inl (fun _ => 0))), (vc6, .inl (g.2 0, 4, .inl (fun _ => 0))), (vc7, .inl (g.2 0, 20, .inl (fun _ => 0))), (vc8, .inl (g.2 0, 6, .inl (fun _ => 0))), (vc9, .inr (3, [.ref xc0, .ref xc1, .ref xc2, .int 0])), (xc0, .inl (g.2 0, 60, .inl (fun _ => 0))), (xc1, .inl (g.2 0, 60, .inl (fun _ => 0))), (xc2, .inl (g.2 0, 60, .inl (fun _ => 0))), (ib, .inr (0, [.int 0, .int 0, .int 0, .int 0, .int 0, .int 0, .int 0, .int 0, .int 0, .int 0, .ref vb0, .ref vb1, .ref vb2, .ref vb3, .ref vb4, .ref vb5, .ref vb6, .ref vb7, .ref vb8, .ref vb9]))] := hD
        refine W.eq (g2 := F0 m 34 ls []) rfl ?_
        refine lv_aload_n hx hb dX11_image_34 rfl (lv_at hl 1 rfl) ?_
        refine g_get (C := RX11) (T := TX11) (N := 11) (ci := 11) (v := .ref w3) FC hKn hP i_X11 0 rfl rfl 3 (by decide) b_150 rfl dX11_image_35 ?_
        refine lv_iload_n hx hb dX11_image_38 rfl (lv_at hl 2 rfl) ?_
        refine lv_iconst (v := 1) hx hb dX11_image_39 (by decide) ?_
        refine va_zast hx hb hKn.1 hP hD hS 2 2 rfl rfl (by unfold vp_in; decide) dX11_image_40 (fun H locs hP hD hS => ?_)
        have hP : va_P g.1 vwCl [(h0, .inr (11, [.ref w0, .ref h1, .ref w2, .ref w3, .ref w4, .ref w5, .ref w6, .ref w7, .ref w8, .ref w9, .ref w10])), (w2, .inl (g.2 4, 3, .inr (.inr (.inr (.inr (va_up (va_up (va_up (fun _ => none) 0 (some ia)) 1 (some ib)) 2 (some ic))))))), (w3, .inl (g.2 2, 3, .inl (upd (fun _ => 0) ((1 : Int32).toNatClampNeg) (vp_nar .boolean 1)))), (ia, .inr (0, [.int 0, .int 0, .int 0, .int 0, .int 0, .int 0, .int 0, .int 0, .int 0, .int 0, .ref va0, .ref va1, .ref va2, .ref va3, .ref va4, .ref va5, .ref va6, .ref va7, .ref va8, .ref va9])), (va0, .inl (g.2 0, 8, .inl (fun _ => 0))), (va1, .inl (g.2 0, 32, .inl (fun _ => 0))), (va2, .inl (g.2 0, 4, .inl (fun _ => 0))), (va3, .inl (g.2 0, 4, .inl (fun _ => 0))), (va4, .inl (g.2 0, 8, .inl (fun _ => 0))), (va5, .inl (g.2 0, 8, .inl (fun _ => 0))), (va6, .inl (g.2 0, 4, .inl (fun _ => 0))), (va7, .inl (g.2 0, 20, .inl (fun _ => 0))), (va8, .inl (g.2 0, 6, .inl (fun _ => 0))), (va9, .inr (3, [.ref xa0, .ref xa1, .ref xa2, .int 0])), (xa0, .inl (g.2 0, 60, .inl (fun _ => 0))), (xa1, .inl (g.2 0, 60, .inl (fun _ => 0))), (xa2, .inl (g.2 0, 60, .inl (fun _ => 0))), (ic, .inr (0, [.int 0, .int 0, .int 0, .int 0, .int 0, .int 0, .int 0, .int 0, .int 0, .int 0, .ref vc0, .ref vc1, .ref vc2, .ref vc3, .ref vc4, .ref vc5, .ref vc6, .ref vc7, .ref vc8, .ref vc9])), (vc0, .inl (g.2 0, 8, .inl (fun _ => 0))), (vc1, .inl (g.2 0, 32, .inl (fun _ => 0))), (vc2, .inl (g.2 0, 4, .inl (fun _ => 0))), (vc3, .inl (g.2 0, 4, .inl (fun _ => 0))), (vc4, .inl (g.2 0, 8, .inl (fun _ => 0))), (vc5, .inl (g.2 0, 8, .inl (fun _ => 0))), (vc6, .inl (g.2 0, 4, .inl (fun _ => 0))), (vc7, .inl (g.2 0, 20, .inl (fun _ => 0))), (vc8, .inl (g.2 0, 6, .inl (fun _ => 0))), (vc9, .inr (3, [.ref xc0, .ref xc1, .ref xc2, .int 0])), (xc0, .inl (g.2 0, 60, .inl (fun _ => 0))), (xc1, .inl (g.2 0, 60, .inl (fun _ => 0))), (xc2, .inl (g.2 0, 60, .inl (fun _ => 0))), (ib, .inr (0, [.int 0, .int 0, .int 0, .int 0, .int 0, .int 0, .int 0, .int 0, .int 0, .int 0, .ref vb0, .ref vb1, .ref vb2, .ref vb3, .ref vb4, .ref vb5, .ref vb6, .ref vb7, .ref vb8, .ref vb9]))] H := hP
        have hD : va_D A [(h0, .inr (11, [.ref w0, .ref h1, .ref w2, .ref w3, .ref w4, .ref w5, .ref w6, .ref w7, .ref w8, .ref w9, .ref w10])), (w2, .inl (g.2 4, 3, .inr (.inr (.inr (.inr (va_up (va_up (va_up (fun _ => none) 0 (some ia)) 1 (some ib)) 2 (some ic))))))), (w3, .inl (g.2 2, 3, .inl (upd (fun _ => 0) ((1 : Int32).toNatClampNeg) (vp_nar .boolean 1)))), (ia, .inr (0, [.int 0, .int 0, .int 0, .int 0, .int 0, .int 0, .int 0, .int 0, .int 0, .int 0, .ref va0, .ref va1, .ref va2, .ref va3, .ref va4, .ref va5, .ref va6, .ref va7, .ref va8, .ref va9])), (va0, .inl (g.2 0, 8, .inl (fun _ => 0))), (va1, .inl (g.2 0, 32, .inl (fun _ => 0))), (va2, .inl (g.2 0, 4, .inl (fun _ => 0))), (va3, .inl (g.2 0, 4, .inl (fun _ => 0))), (va4, .inl (g.2 0, 8, .inl (fun _ => 0))), (va5, .inl (g.2 0, 8, .inl (fun _ => 0))), (va6, .inl (g.2 0, 4, .inl (fun _ => 0))), (va7, .inl (g.2 0, 20, .inl (fun _ => 0))), (va8, .inl (g.2 0, 6, .inl (fun _ => 0))), (va9, .inr (3, [.ref xa0, .ref xa1, .ref xa2, .int 0])), (xa0, .inl (g.2 0, 60, .inl (fun _ => 0))), (xa1, .inl (g.2 0, 60, .inl (fun _ => 0))), (xa2, .inl (g.2 0, 60, .inl (fun _ => 0))), (ic, .inr (0, [.int 0, .int 0, .int 0, .int 0, .int 0, .int 0, .int 0, .int 0, .int 0, .int 0, .ref vc0, .ref vc1, .ref vc2, .ref vc3, .ref vc4, .ref vc5, .ref vc6, .ref vc7, .ref vc8, .ref vc9])), (vc0, .inl (g.2 0, 8, .inl (fun _ => 0))), (vc1, .inl (g.2 0, 32, .inl (fun _ => 0))), (vc2, .inl (g.2 0, 4, .inl (fun _ => 0))), (vc3, .inl (g.2 0, 4, .inl (fun _ => 0))), (vc4, .inl (g.2 0, 8, .inl (fun _ => 0))), (vc5, .inl (g.2 0, 8, .inl (fun _ => 0))), (vc6, .inl (g.2 0, 4, .inl (fun _ => 0))), (vc7, .inl (g.2 0, 20, .inl (fun _ => 0))), (vc8, .inl (g.2 0, 6, .inl (fun _ => 0))), (vc9, .inr (3, [.ref xc0, .ref xc1, .ref xc2, .int 0])), (xc0, .inl (g.2 0, 60, .inl (fun _ => 0))), (xc1, .inl (g.2 0, 60, .inl (fun _ => 0))), (xc2, .inl (g.2 0, 60, .inl (fun _ => 0))), (ib, .inr (0, [.int 0, .int 0, .int 0, .int 0, .int 0, .int 0, .int 0, .int 0, .int 0, .int 0, .ref vb0, .ref vb1, .ref vb2, .ref vb3, .ref vb4, .ref vb5, .ref vb6, .ref vb7, .ref vb8, .ref vb9]))] := hD
        generalize (upd (fun _ => 0) ((1 : Int32).toNatClampNeg) (vp_nar .boolean 1) : Nat → Int32) = f6 at hP hD
        refine lv_iconst (v := 0) hx hb dX11_image_41 (by decide) ?_
        exact rt_i FX () (congrArg (fun z => some (Value.int z)) (show (0 : Int32) = _ from by first | decide | (unfold sp_image; (repeat' split) <;> first | rfl | (exfalso; omega)))) trivial (hP.sub [] rfl) (hD.sub [] (by decide) rfl) hS (Nat.le_of_ble_eq_true rfl) (Nat.le_of_ble_eq_true rfl) dX11_image_42
      · obtain rfl : p1 = 2 := Int32.toInt_inj.mp (hv.trans (by decide))
        refine va_aldq hx hb hKn.1 hP 1 4 rfl rfl (by unfold vp_in; decide) dX11_image_17 ?_
        refine W.eq (g2 := F0 m 18 ls [.ref ic]) rfl ?_
        refine lv_astore_n (lv' := [(2, .ref ic), (0, .ref h0), (1, .int 2)]) hx hb dX11_image_18 rfl hl (by decide) rfl (fun ls hl => ?_)
        refine lv_aload_n hx hb dX11_image_19 rfl (lv_at hl 0 rfl) ?_
        refine lv_ifnonnull (tgt := 26) hx hb dX11_image_20 (by decide) ?_
        refine lv_aload_n hx hb dX11_image_26 rfl (lv_at hl 0 rfl) ?_
        refine lv_aload_n hx hb dX11_image_27 rfl (lv_at hl 1 rfl) ?_
        refine g_get (C := RX11) (T := TX11) (N := 11) (ci := 11) (v := .ref h1) FC hKn hP i_X11 0 rfl rfl 1 (by decide) b_10 rfl dX11_image_28 ?_
        refine call_VN (As := [.ref h1]) (rest := []) (wr := [(h0, .inr (11, [.ref w0, .ref h1, .ref w2, .ref w3, .ref w4, .ref w5, .ref w6, .ref w7, .ref w8, .ref w9, .ref w10])), (w2, .inl (g.2 4, 3, .inr (.inr (.inr (.inr (va_up (va_up (va_up (fun _ => none) 0 (some ia)) 1 (some ib)) 2 (some ic))))))), (w3, .inl (g.2 2, 3, .inl (fun _ => 0))), (ia, .inr (0, [.int 0, .int 0, .int 0, .int 0, .int 0, .int 0, .int 0, .int 0, .int 0, .int 0, .ref va0, .ref va1, .ref va2, .ref va3, .ref va4, .ref va5, .ref va6, .ref va7, .ref va8, .ref va9])), (va0, .inl (g.2 0, 8, .inl (fun _ => 0))), (va1, .inl (g.2 0, 32, .inl (fun _ => 0))), (va2, .inl (g.2 0, 4, .inl (fun _ => 0))), (va3, .inl (g.2 0, 4, .inl (fun _ => 0))), (va4, .inl (g.2 0, 8, .inl (fun _ => 0))), (va5, .inl (g.2 0, 8, .inl (fun _ => 0))), (va6, .inl (g.2 0, 4, .inl (fun _ => 0))), (va7, .inl (g.2 0, 20, .inl (fun _ => 0))), (va8, .inl (g.2 0, 6, .inl (fun _ => 0))), (va9, .inr (3, [.ref xa0, .ref xa1, .ref xa2, .int 0])), (xa0, .inl (g.2 0, 60, .inl (fun _ => 0))), (xa1, .inl (g.2 0, 60, .inl (fun _ => 0))), (xa2, .inl (g.2 0, 60, .inl (fun _ => 0))), (ib, .inr (0, [.int 0, .int 0, .int 0, .int 0, .int 0, .int 0, .int 0, .int 0, .int 0, .int 0, .ref vb0, .ref vb1, .ref vb2, .ref vb3, .ref vb4, .ref vb5, .ref vb6, .ref vb7, .ref vb8, .ref vb9])), (vb0, .inl (g.2 0, 8, .inl (fun _ => 0))), (vb1, .inl (g.2 0, 32, .inl (fun _ => 0))), (vb2, .inl (g.2 0, 4, .inl (fun _ => 0))), (vb3, .inl (g.2 0, 4, .inl (fun _ => 0))), (vb4, .inl (g.2 0, 8, .inl (fun _ => 0))), (vb5, .inl (g.2 0, 8, .inl (fun _ => 0))), (vb6, .inl (g.2 0, 4, .inl (fun _ => 0))), (vb7, .inl (g.2 0, 20, .inl (fun _ => 0))), (vb8, .inl (g.2 0, 6, .inl (fun _ => 0))), (vb9, .inr (3, [.ref xb0, .ref xb1, .ref xb2, .int 0])), (xb0, .inl (g.2 0, 60, .inl (fun _ => 0))), (xb1, .inl (g.2 0, 60, .inl (fun _ => 0))), (xb2, .inl (g.2 0, 60, .inl (fun _ => 0)))]) FC hKn (c_X0_copyFrom l g ic vc0 vc1 vc2 vc3 vc4 vc5 vc6 vc7 vc8 vc9 xc0 xc1 xc2 (fun _ => 0) (fun _ => 0) (fun _ => 0) (fun _ => 0) (fun _ => 0) (fun _ => 0) (fun _ => 0) (fun _ => 0) (fun _ => 0) (fun _ => 0) (fun _ => 0) (fun _ => 0) h1 v0 v1 v2 v3 v4 v5 v6 v7 v8 v9 x0 x1 x2 (fun _ => 0) (fun _ => 0) (fun _ => 0) (fun _ => 0) (fun _ => 0) (fun _ => 0) (fun _ => 0) (fun _ => 0) (fun _ => 0) (fun _ => 0) (fun _ => 0) (fun _ => 0)) m_yX0_copyFrom b_149 (ci := 0) rfl rfl rfl hP hD hS hA [45, 46, 47, 48, 49, 50, 51, 52, 53, 54, 55, 56, 57, 58, 3, 4, 5, 6, 7, 8, 9, 10, 11, 12, 13, 14, 15, 16] [0, 1, 2, 17, 18, 19, 20, 21, 22, 23, 24, 25, 26, 27, 28, 29, 30, 31, 32, 33, 34, 35, 36, 37, 38, 39, 40, 41, 42, 43, 44] rfl (by decide) rfl (by decide) (by decide) rfl hl.1 rfl (Nat.le_of_ble_eq_true rfl) dX11_image_31 ⟨(Nat.le_of_ble_eq_true rfl), (Nat.le_of_ble_eq_true rfl)⟩ ⟨(Nat.le_of_ble_eq_true rfl), (Nat.le_of_ble_eq_true rfl)⟩ (fun u7 H locs _ hP hD hS => ?_)
        have hP : va_P g.1 vwCl [(h0, .inr (11, [.ref w0, .ref h1, .ref w2, .ref w3, .ref w4, .ref w5, .ref w6, .ref w7, .ref w8, .ref w9, .ref w10])), (w2, .inl (g.2 4, 3, .inr (.inr (.inr (.inr (va_up (va_up (va_up (fun _ => none) 0 (some ia)) 1 (some ib)) 2 (some ic))))))), (w3, .inl (g.2 2, 3, .inl (fun _ => 0))), (ia, .inr (0, [.int 0, .int 0, .int 0, .int 0, .int 0, .int 0, .int 0, .int 0, .int 0, .int 0, .ref va0, .ref va1, .ref va2, .ref va3, .ref va4, .ref va5, .ref va6, .ref va7, .ref va8, .ref va9])), (va0, .inl (g.2 0, 8, .inl (fun _ => 0))), (va1, .inl (g.2 0, 32, .inl (fun _ => 0))), (va2, .inl (g.2 0, 4, .inl (fun _ => 0))), (va3, .inl (g.2 0, 4, .inl (fun _ => 0))), (va4, .inl (g.2 0, 8, .inl (fun _ => 0))), (va5, .inl (g.2 0, 8, .inl (fun _ => 0))), (va6, .inl (g.2 0, 4, .inl (fun _ => 0))), (va7, .inl (g.2 0, 20, .inl (fun _ => 0))), (va8, .inl (g.2 0, 6, .inl (fun _ => 0))), (va9, .inr (3, [.ref xa0, .ref xa1, .ref xa2, .int 0])), (xa0, .inl (g.2 0, 60, .inl (fun _ => 0))), (xa1, .inl (g.2 0, 60, .inl (fun _ => 0))), (xa2, .inl (g.2 0, 60, .inl (fun _ => 0))), (ib, .inr (0, [.int 0, .int 0, .int 0, .int 0, .int 0, .int 0, .int 0, .int 0, .int 0, .int 0, .ref vb0, .ref vb1, .ref vb2, .ref vb3, .ref vb4, .ref vb5, .ref vb6, .ref vb7, .ref vb8, .ref vb9])), (vb0, .inl (g.2 0, 8, .inl (fun _ => 0))), (vb1, .inl (g.2 0, 32, .inl (fun _ => 0))), (vb2, .inl (g.2 0, 4, .inl (fun _ => 0))), (vb3, .inl (g.2 0, 4, .inl (fun _ => 0))), (vb4, .inl (g.2 0, 8, .inl (fun _ => 0))), (vb5, .inl (g.2 0, 8, .inl (fun _ => 0))), (vb6, .inl (g.2 0, 4, .inl (fun _ => 0))), (vb7, .inl (g.2 0, 20, .inl (fun _ => 0))), (vb8, .inl (g.2 0, 6, .inl (fun _ => 0))), (vb9, .inr (3, [.ref xb0, .ref xb1, .ref xb2, .int 0])), (xb0, .inl (g.2 0, 60, .inl (fun _ => 0))), (xb1, .inl (g.2 0, 60, .inl (fun _ => 0))), (xb2, .inl (g.2 0, 60, .inl (fun _ => 0))), (ic, .inr (0, [.int 0, .int 0, .int 0, .int 0, .int 0, .int 0, .int 0, .int 0, .int 0, .int 0, .ref vc0, .ref vc1, .ref vc2, .ref vc3, .ref vc4, .ref vc5, .ref vc6, .ref vc7, .ref vc8, .ref vc9]))] H := hP
        have hD : va_D A [(h0, .inr (11, [.ref w0, .ref h1, .ref w2, .ref w3, .ref w4, .ref w5, .ref w6, .ref w7, .ref w8, .ref w9, .ref w10])), (w2, .inl (g.2 4, 3, .inr (.inr (.inr (.inr (va_up (va_up (va_up (fun _ => none) 0 (some ia)) 1 (some ib)) 2 (some ic))))))), (w3, .inl (g.2 2, 3, .inl (fun _ => 0))), (ia, .inr (0, [.int 0, .int 0, .int 0, .int 0, .int 0, .int 0, .int 0, .int 0, .int 0, .int 0, .ref va0, .ref va1, .ref va2, .ref va3, .ref va4, .ref va5, .ref va6, .ref va7, .ref va8, .ref va9])), (va0, .inl (g.2 0, 8, .inl (fun _ => 0))), (va1, .inl (g.2 0, 32, .inl (fun _ => 0))), (va2, .inl (g.2 0, 4, .inl (fun _ => 0))), (va3, .inl (g.2 0, 4, .inl (fun _ => 0))), (va4, .inl (g.2 0, 8, .inl (fun _ => 0))), (va5, .inl (g.2 0, 8, .inl (fun _ => 0))), (va6, .inl (g.2 0, 4, .inl (fun _ => 0))), (va7, .inl (g.2 0, 20, .inl (fun _ => 0))), (va8, .inl (g.2 0, 6, .inl (fun _ => 0))), (va9, .inr (3, [.ref xa0, .ref xa1, .ref xa2, .int 0])), (xa0, .inl (g.2 0, 60, .inl (fun _ => 0))), (xa1, .inl (g.2 0, 60, .inl (fun _ => 0))), (xa2, .inl (g.2 0, 60, .inl (fun _ => 0))), (ib, .inr (0, [.int 0, .int 0, .int 0, .int 0, .int 0, .int 0, .int 0, .int 0, .int 0, .int 0, .ref vb0, .ref vb1, .ref vb2, .ref vb3, .ref vb4, .ref vb5, .ref vb6, .ref vb7, .ref vb8, .ref vb9])), (vb0, .inl (g.2 0, 8, .inl (fun _ => 0))), (vb1, .inl (g.2 0, 32, .inl (fun _ => 0))), (vb2, .inl (g.2 0, 4, .inl (fun _ => 0))), (vb3, .inl (g.2 0, 4, .inl (fun _ => 0))), (vb4, .inl (g.2 0, 8, .inl (fun _ => 0))), (vb5, .inl (g.2 0, 8, .inl (fun _ => 0))), (vb6, .inl (g.2 0, 4, .inl (fun _ => 0))), (vb7, .inl (g.2 0, 20, .inl (fun _ => 0))), (vb8, .inl (g.2 0, 6, .inl (fun _ => 0))), (vb9, .inr (3, [.ref xb0, .ref xb1, .ref xb2, .int 0])), (xb0, .inl (g.2 0, 60, .inl (fun _ => 0))), (xb1, .inl (g.2 0, 60, .inl (fun _ => 0))), (xb2, .inl (g.2 0, 60, .inl (fun _ => 0))), (ic, .inr (0, [.int 0, .int 0, .int 0, .int 0, .int 0, .int 0, .int 0, .int 0, .int 0, .int 0, .ref vc0, .ref vc1, .ref vc2, .ref vc3, .ref vc4, .ref vc5, .ref vc6, .ref vc7, .ref vc8, .ref vc9]))] := hD
        refine W.eq (g2 := F0 m 34 ls []) rfl ?_
        refine lv_aload_n hx hb dX11_image_34 rfl (lv_at hl 1 rfl) ?_
        refine g_get (C := RX11) (T := TX11) (N := 11) (ci := 11) (v := .ref w3) FC hKn hP i_X11 0 rfl rfl 3 (by decide) b_150 rfl dX11_image_35 ?_
        refine lv_iload_n hx hb dX11_image_38 rfl (lv_at hl 2 rfl) ?_
        refine lv_iconst (v := 1) hx hb dX11_image_39 (by decide) ?_
        refine va_zast hx hb hKn.1 hP hD hS 2 2 rfl rfl (by unfold vp_in; decide) dX11_image_40 (fun H locs hP hD hS => ?_)
        have hP : va_P g.1 vwCl [(h0, .inr (11, [.ref w0, .ref h1, .ref w2, .ref w3, .ref w4, .ref w5, .ref w6, .ref w7, .ref w8, .ref w9, .ref w10])), (w2, .inl (g.2 4, 3, .inr (.inr (.inr (.inr (va_up (va_up (va_up (fun _ => none) 0 (some ia)) 1 (some ib)) 2 (some ic))))))), (w3, .inl (g.2 2, 3, .inl (upd (fun _ => 0) ((2 : Int32).toNatClampNeg) (vp_nar .boolean 1)))), (ia, .inr (0, [.int 0, .int 0, .int 0, .int 0, .int 0, .int 0, .int 0, .int 0, .int 0, .int 0, .ref va0, .ref va1, .ref va2, .ref va3, .ref va4, .ref va5, .ref va6, .ref va7, .ref va8, .ref va9])), (va0, .inl (g.2 0, 8, .inl (fun _ => 0))), (va1, .inl (g.2 0, 32, .inl (fun _ => 0))), (va2, .inl (g.2 0, 4, .inl (fun _ => 0))), (va3, .inl (g.2 0, 4, .inl (fun _ => 0))), (va4, .inl (g.2 0, 8, .inl (fun _ => 0))), (va5, .inl (g.2 0, 8, .inl (fun _ => 0))), (va6, .inl (g.2 0, 4, .inl (fun _ => 0))), (va7, .inl (g.2 0, 20, .inl (fun _ => 0))), (va8, .inl (g.2 0, 6, .inl (fun _ => 0))), (va9, .inr (3, [.ref xa0, .ref xa1, .ref xa2, .int 0])), (xa0, .inl (g.2 0, 60, .inl (fun _ => 0))), (xa1, .inl (g.2 0, 60, .inl (fun _ => 0))), (xa2, .inl (g.2 0, 60, .inl (fun _ => 0))), (ib, .inr (0, [.int 0, .int 0, .int 0, .int 0, .int 0, .int 0, .int 0, .int 0, .int 0, .int 0, .ref vb0, .ref vb1, .ref vb2, .ref vb3, .ref vb4, .ref vb5, .ref vb6, .ref vb7, .ref vb8, .ref vb9])), (vb0, .inl (g.2 0, 8, .inl (fun _ => 0))), (vb1, .inl (g.2 0, 32, .inl (fun _ => 0))), (vb2, .inl (g.2 0, 4, .inl (fun _ => 0))), (vb3, .inl (g.2 0, 4, .inl (fun _ => 0))), (vb4, .inl (g.2 0, 8, .inl (fun _ => 0))), (vb5, .inl (g.2 0, 8, .inl (fun _ => 0))), (vb6, .inl (g.2 0, 4, .inl (fun _ => 0))), (vb7, .inl (g.2 0, 20, .inl (fun _ => 0))), (vb8, .inl (g.2 0, 6, .inl (fun _ => 0))), (vb9, .inr (3, [.ref xb0, .ref xb1, .ref xb2, .int 0])), (xb0, .inl (g.2 0, 60, .inl (fun _ => 0))), (xb1, .inl (g.2 0, 60, .inl (fun _ => 0))), (xb2, .inl (g.2 0, 60, .inl (fun _ => 0))), (ic, .inr (0, [.int 0, .int 0, .int 0, .int 0, .int 0, .int 0, .int 0, .int 0, .int 0, .int 0, .ref vc0, .ref vc1, .ref vc2, .ref vc3, .ref vc4, .ref vc5, .ref vc6, .ref vc7, .ref vc8, .ref vc9]))] H := hP
        have hD : va_D A [(h0, .inr (11, [.ref w0, .ref h1, .ref w2, .ref w3, .ref w4, .ref w5, .ref w6, .ref w7, .ref w8, .ref w9, .ref w10])), (w2, .inl (g.2 4, 3, .inr (.inr (.inr (.inr (va_up (va_up (va_up (fun _ => none) 0 (some ia)) 1 (some ib)) 2 (some ic))))))), (w3, .inl (g.2 2, 3, .inl (upd (fun _ => 0) ((2 : Int32).toNatClampNeg) (vp_nar .boolean 1)))), (ia, .inr (0, [.int 0, .int 0, .int 0, .int 0, .int 0, .int 0, .int 0, .int 0, .int 0, .int 0, .ref va0, .ref va1, .ref va2, .ref va3, .ref va4, .ref va5, .ref va6, .ref va7, .ref va8, .ref va9])), (va0, .inl (g.2 0, 8, .inl (fun _ => 0))), (va1, .inl (g.2 0, 32, .inl (fun _ => 0))), (va2, .inl (g.2 0, 4, .inl (fun _ => 0))), (va3, .inl (g.2 0, 4, .inl (fun _ => 0))), (va4, .inl (g.2 0, 8, .inl (fun _ => 0))), (va5, .inl (g.2 0, 8, .inl (fun _ => 0))), (va6, .inl (g.2 0, 4, .inl (fun _ => 0))), (va7, .inl (g.2 0, 20, .inl (fun _ => 0))), (va8, .inl (g.2 0, 6, .inl (fun _ => 0))), (va9, .inr (3, [.ref xa0, .ref xa1, .ref xa2, .int 0])), (xa0, .inl (g.2 0, 60, .inl (fun _ => 0))), (xa1, .inl (g.2 0, 60, .inl (fun _ => 0))), (xa2, .inl (g.2 0, 60, .inl (fun _ => 0))), (ib, .inr (0, [.int 0, .int 0, .int 0, .int 0, .int 0, .int 0, .int 0, .int 0, .int 0, .int 0, .ref vb0, .ref vb1, .ref vb2, .ref vb3, .ref vb4, .ref vb5, .ref vb6, .ref vb7, .ref vb8, .ref vb9])), (vb0, .inl (g.2 0, 8, .inl (fun _ => 0))), (vb1, .inl (g.2 0, 32, .inl (fun _ => 0))), (vb2, .inl (g.2 0, 4, .inl (fun _ => 0))), (vb3, .inl (g.2 0, 4, .inl (fun _ => 0))), (vb4, .inl (g.2 0, 8, .inl (fun _ => 0))), (vb5, .inl (g.2 0, 8, .inl (fun _ => 0))), (vb6, .inl (g.2 0, 4, .inl (fun _ => 0))), (vb7, .inl (g.2 0, 20, .inl (fun _ => 0))), (vb8, .inl (g.2 0, 6, .inl (fun _ => 0))), (vb9, .inr (3, [.ref xb0, .ref xb1, .ref xb2, .int 0])), (xb0, .inl (g.2 0, 60, .inl (fun _ => 0))), (xb1, .inl (g.2 0, 60, .inl (fun _ => 0))), (xb2, .inl (g.2 0, 60, .inl (fun _ => 0))), (ic, .inr (0, [.int 0, .int 0, .int 0, .int 0, .int 0, .int 0, .int 0, .int 0, .int 0, .int 0, .ref vc0, .ref vc1, .ref vc2, .ref vc3, .ref vc4, .ref vc5, .ref vc6, .ref vc7, .ref vc8, .ref vc9]))] := hD
        generalize (upd (fun _ => 0) ((2 : Int32).toNatClampNeg) (vp_nar .boolean 1) : Nat → Int32) = f8 at hP hD
        refine lv_iconst (v := 0) hx hb dX11_image_41 (by decide) ?_
        exact rt_i FX () (congrArg (fun z => some (Value.int z)) (show (0 : Int32) = _ from by first | decide | (unfold sp_image; (repeat' split) <;> first | rfl | (exfalso; omega)))) trivial (hP.sub [] rfl) (hD.sub [] (by decide) rfl) hS (Nat.le_of_ble_eq_true rfl) (Nat.le_of_ble_eq_true rfl) dX11_image_42
    · have c2 := k_nlt (a := p1.toInt) (b := 3) rfl (by decide) c2
      refine lv_bipush (v := -2) hx hb dX11_image_9 (by decide) ?_
      exact rt_i FX () (congrArg (fun z => some (Value.int z)) (show (-2 : Int32) = _ from by first | decide | (unfold sp_image; (repeat' split) <;> first | rfl | (exfalso; omega)))) trivial (hP.sub [] rfl) (hD.sub [] (by decide) rfl) hS (Nat.le_of_ble_eq_true rfl) (Nat.le_of_ble_eq_true rfl) dX11_image_11
set_option maxRecDepth 100000 in
set_option maxHeartbeats 4000000 in
theorem c_X11_back (l : Launch) (g : GG) (h0 : Nat) (h1 : Nat) (w0 : Nat) (w2 : Nat) (w3 : Nat) (w4 : Nat) (w5 : Nat) (w6 : Nat) (w7 : Nat) (w8 : Nat) (w9 : Nat) (w10 : Nat) (ia : Nat) (ib : Nat) (ic : Nat) (p1 : Int32) : Ct l g yX11_back cX11_back 3 (some .int) { frames := 0, cells := 0, slots := 0, locals := 0 } [.ref h0, .int p1] [(h0, .inr (11, [.ref w0, .ref h1, .ref w2, .ref w3, .ref w4, .ref w5, .ref w6, .ref w7, .ref w8, .ref w9, .ref w10])), (w2, .inl (g.2 4, 3, .inr (.inr (.inr (.inr (va_up (va_up (va_up (fun _ => none) 0 (some ia)) 1 (some ib)) 2 (some ic))))))), (w3, .inl (g.2 2, 3, .inl (fun _ => 0)))] (S := Unit) (fun _ => some (.int (sp_back p1))) (fun _ => True) (fun u => []) := by
  refine Ct.of (by decide) (Nat.le_of_ble_eq_true rfl) ?_
  intro p e s m below meth c A ls FX hP hD hS hl
  obtain ⟨FC, hr, hlk, hKn, hA, hnm⟩ := id FX
  have FC : CallFix p m c cX11_back 3 s _ BIG RX11 := FC
  obtain ⟨hx, hb, hml, hown, hB⟩ := id FC
  have hl : lv_has ls 3 [(0, .ref h0), (1, .int p1)] := hl
  refine lv_iload_n hx hb dX11_back_0 rfl (lv_at hl 1 rfl) ?_
  refine lv_if_lt (tgt := 9) hx hb dX11_back_1 (by decide) (fun c1 => ?_) (fun c1 => ?_)
  · have c1 := k_lt (a := p1.toInt) (b := 0) rfl (by decide) c1
    refine lv_bipush (v := -2) hx hb dX11_back_9 (by decide) ?_
    exact rt_i FX () (congrArg (fun z => some (Value.int z)) (show (-2 : Int32) = _ from by first | decide | (unfold sp_back; (repeat' split) <;> first | rfl | (exfalso; omega)))) trivial (hP.sub [] rfl) (hD.sub [] (by decide) rfl) hS (Nat.le_of_ble_eq_true rfl) (Nat.le_of_ble_eq_true rfl) dX11_back_11
  · have c1 := k_nlt (a := p1.toInt) (b := 0) rfl (by decide) c1
    refine lv_iload_n hx hb dX11_back_4 rfl (lv_at hl 1 rfl) ?_
    refine lv_iconst (v := 3) hx hb dX11_back_5 (by decide) ?_
    refine lv_icmp_lt (tgt := 12) hx hb dX11_back_6 (by decide) (fun c2 => ?_) (fun c2 => ?_)
    · have c2 := k_lt (a := p1.toInt) (b := 3) rfl (by decide) c2
      refine lv_aload_n hx hb dX11_back_12 rfl (lv_at hl 0 rfl) ?_
      refine g_get (C := RX11) (T := TX11) (N := 11) (ci := 11) (v := .ref w2) FC hKn hP i_X11 0 rfl rfl 2 (by decide) b_148 rfl dX11_back_13 ?_
      refine lv_iload_n hx hb dX11_back_16 rfl (lv_at hl 1 rfl) ?_
      rcases (show p1.toInt = 0 ∨ p1.toInt = 1 ∨ p1.toInt = 2 by omega) with hv | hv | hv
      · obtain rfl : p1 = 0 := Int32.toInt_inj.mp (hv.trans (by decide))
        refine va_aldq hx hb hKn.1 hP 1 4 rfl rfl (by unfold vp_in; decide) dX11_back_17 ?_
        refine W.eq (g2 := F0 m 18 ls [.ref ia]) rfl ?_
        refine lv_astore_n (lv' := [(2, .ref ia), (0, .ref h0), (1, .int 0)]) hx hb dX11_back_18 rfl hl (by decide) rfl (fun ls hl => ?_)
        refine lv_aload_n hx hb dX11_back_19 rfl (lv_at hl 0 rfl) ?_
        refine lv_ifnull hx hb dX11_back_20 ?_
        refine lv_aload_n hx hb dX11_back_23 rfl (lv_at hl 1 rfl) ?_
        refine g_get (C := RX11) (T := TX11) (N := 11) (ci := 11) (v := .ref w3) FC hKn hP i_X11 0 rfl rfl 3 (by decide) b_150 rfl dX11_back_24 ?_
        refine lv_iload_n hx hb dX11_back_27 rfl (lv_at hl 2 rfl) ?_
        refine va_zald hx hb hKn.1 hP 2 2 rfl rfl (by unfold vp_in; decide) dX11_back_28 ?_
        refine tp_i (v := 0) rfl ?_
        refine lv_if_ne (tgt := 35) hx hb dX11_back_29 (by decide) (fun h => absurd h (by decide)) (fun _ => ?_)
        refine lv_bipush (v := -6) hx hb dX11_back_32 (by decide) ?_
        exact rt_i FX () (congrArg (fun z => some (Value.int z)) (show (-6 : Int32) = _ from by first | decide | (unfold sp_back; (repeat' split) <;> first | rfl | (exfalso; omega)))) trivial (hP.sub [] rfl) (hD.sub [] (by decide) rfl) hS (Nat.le_of_ble_eq_true rfl) (Nat.le_of_ble_eq_true rfl) dX11_back_34
      · obtain rfl : p1 = 1 := Int32.toInt_inj.mp (hv.trans (by decide))
        refine va_aldq hx hb hKn.1 hP 1 4 rfl rfl (by unfold vp_in; decide) dX11_back_17 ?_
        refine W.eq (g2 := F0 m 18 ls [.ref ib]) rfl ?_
        refine lv_astore_n (lv' := [(2, .ref ib), (0, .ref h0), (1, .int 1)]) hx hb dX11_back_18 rfl hl (by decide) rfl (fun ls hl => ?_)
        refine lv_aload_n hx hb dX11_back_19 rfl (lv_at hl 0 rfl) ?_
        refine lv_ifnull hx hb dX11_back_20 ?_
        refine lv_aload_n hx hb dX11_back_23 rfl (lv_at hl 1 rfl) ?_
        refine g_get (C := RX11) (T := TX11) (N := 11) (ci := 11) (v := .ref w3) FC hKn hP i_X11 0 rfl rfl 3 (by decide) b_150 rfl dX11_back_24 ?_
        refine lv_iload_n hx hb dX11_back_27 rfl (lv_at hl 2 rfl) ?_
        refine va_zald hx hb hKn.1 hP 2 2 rfl rfl (by unfold vp_in; decide) dX11_back_28 ?_
        refine tp_i (v := 0) rfl ?_
        refine lv_if_ne (tgt := 35) hx hb dX11_back_29 (by decide) (fun h => absurd h (by decide)) (fun _ => ?_)
        refine lv_bipush (v := -6) hx hb dX11_back_32 (by decide) ?_
        exact rt_i FX () (congrArg (fun z => some (Value.int z)) (show (-6 : Int32) = _ from by first | decide | (unfold sp_back; (repeat' split) <;> first | rfl | (exfalso; omega)))) trivial (hP.sub [] rfl) (hD.sub [] (by decide) rfl) hS (Nat.le_of_ble_eq_true rfl) (Nat.le_of_ble_eq_true rfl) dX11_back_34
      · obtain rfl : p1 = 2 := Int32.toInt_inj.mp (hv.trans (by decide))
        refine va_aldq hx hb hKn.1 hP 1 4 rfl rfl (by unfold vp_in; decide) dX11_back_17 ?_
        refine W.eq (g2 := F0 m 18 ls [.ref ic]) rfl ?_
        refine lv_astore_n (lv' := [(2, .ref ic), (0, .ref h0), (1, .int 2)]) hx hb dX11_back_18 rfl hl (by decide) rfl (fun ls hl => ?_)
        refine lv_aload_n hx hb dX11_back_19 rfl (lv_at hl 0 rfl) ?_
        refine lv_ifnull hx hb dX11_back_20 ?_
        refine lv_aload_n hx hb dX11_back_23 rfl (lv_at hl 1 rfl) ?_
        refine g_get (C := RX11) (T := TX11) (N := 11) (ci := 11) (v := .ref w3) FC hKn hP i_X11 0 rfl rfl 3 (by decide) b_150 rfl dX11_back_24 ?_
        refine lv_iload_n hx hb dX11_back_27 rfl (lv_at hl 2 rfl) ?_
        refine va_zald hx hb hKn.1 hP 2 2 rfl rfl (by unfold vp_in; decide) dX11_back_28 ?_
        refine tp_i (v := 0) rfl ?_
        refine lv_if_ne (tgt := 35) hx hb dX11_back_29 (by decide) (fun h => absurd h (by decide)) (fun _ => ?_)
        refine lv_bipush (v := -6) hx hb dX11_back_32 (by decide) ?_
        exact rt_i FX () (congrArg (fun z => some (Value.int z)) (show (-6 : Int32) = _ from by first | decide | (unfold sp_back; (repeat' split) <;> first | rfl | (exfalso; omega)))) trivial (hP.sub [] rfl) (hD.sub [] (by decide) rfl) hS (Nat.le_of_ble_eq_true rfl) (Nat.le_of_ble_eq_true rfl) dX11_back_34
    · have c2 := k_nlt (a := p1.toInt) (b := 3) rfl (by decide) c2
      refine lv_bipush (v := -2) hx hb dX11_back_9 (by decide) ?_
      exact rt_i FX () (congrArg (fun z => some (Value.int z)) (show (-2 : Int32) = _ from by first | decide | (unfold sp_back; (repeat' split) <;> first | rfl | (exfalso; omega)))) trivial (hP.sub [] rfl) (hD.sub [] (by decide) rfl) hS (Nat.le_of_ble_eq_true rfl) (Nat.le_of_ble_eq_true rfl) dX11_back_11
set_option maxRecDepth 100000 in
set_option maxHeartbeats 4000000 in
theorem c_X11_fault (l : Launch) (g : GG) (h0 : Nat) (h1 : Nat) (w0 : Nat) (w2 : Nat) (w3 : Nat) (w4 : Nat) (w5 : Nat) (w6 : Nat) (w7 : Nat) (w8 : Nat) (w9 : Nat) (w10 : Nat) (t0 : Nat) (k0 : Nat) (p1 : Int32) : Ct l g yX11_fault cX11_fault 2 (some .int) { frames := 0, cells := 0, slots := 0, locals := 0 } [.ref h0, .int p1] [(h0, .inr (11, [.ref w0, .ref h1, .ref w2, .ref w3, .ref w4, .ref w5, .ref w6, .ref w7, .ref w8, .ref w9, .ref w10])), (w0, .inr (1, [.ref t0, .ref k0, .int 0, .int (-1), .int 0]))] (S := Unit) (fun _ => some (.int (sp_fault p1))) (fun _ => True) (fun u => []) := by
  refine Ct.of (by decide) (Nat.le_of_ble_eq_true rfl) ?_
  intro p e s m below meth c A ls FX hP hD hS hl
  obtain ⟨FC, hr, hlk, hKn, hA, hnm⟩ := id FX
  have FC : CallFix p m c cX11_fault 2 s _ BIG RX11 := FC
  obtain ⟨hx, hb, hml, hown, hB⟩ := id FC
  have hl : lv_has ls 2 [(0, .ref h0), (1, .int p1)] := hl
  refine lv_iload_n hx hb dX11_fault_0 rfl (lv_at hl 1 rfl) ?_
  refine lv_if_ne (tgt := 12) hx hb dX11_fault_1 (by decide) (fun c1 => ?_) (fun c1 => ?_)
  · have c1 := k_ne (a := p1.toInt) (b := 0) rfl (by decide) c1
    refine lv_iload_n hx hb dX11_fault_12 rfl (lv_at hl 1 rfl) ?_
    refine lv_iconst (v := 1) hx hb dX11_fault_13 (by decide) ?_
    refine lv_icmp_ne (tgt := 27) hx hb dX11_fault_14 (by decide) (fun c2 => ?_) (fun c2 => ?_)
    · have c2 := k_ne (a := p1.toInt) (b := 1) rfl (by decide) c2
      refine lv_iconst (v := -1) hx hb dX11_fault_27 (by decide) ?_
      exact rt_i FX () (congrArg (fun z => some (Value.int z)) (show (-1 : Int32) = _ from by first | decide | (unfold sp_fault; (repeat' split) <;> first | rfl | (exfalso; omega)))) trivial (hP.sub [] rfl) (hD.sub [] (by decide) rfl) hS (Nat.le_of_ble_eq_true rfl) (Nat.le_of_ble_eq_true rfl) dX11_fault_28
    · have c2 := k_eq (a := p1.toInt) (b := 1) rfl (by decide) c2
      obtain rfl : p1 = 1 := Int32.toInt_inj.mp (show p1.toInt = 1 by omega)
      refine lv_aload_n hx hb dX11_fault_17 rfl (lv_at hl 0 rfl) ?_
      refine g_get (C := RX11) (T := TX11) (N := 11) (ci := 11) (v := .ref w0) FC hKn hP i_X11 0 rfl rfl 0 (by decide) b_151 rfl dX11_fault_18 ?_
      refine g_getN (C := RX1) (T := TX1) (N := 5) (ci := 1) (v := .int (-1)) FC hKn hP i_X1 1 rfl rfl 3 (by decide) b_152 rfl dX11_fault_21 ?_
      refine lv_goto (tgt := 28) hx hb dX11_fault_24 (by decide) ?_
      exact rt_i FX () (congrArg (fun z => some (Value.int z)) (show (-1 : Int32) = _ from by first | decide | (unfold sp_fault; (repeat' split) <;> first | rfl | (exfalso; omega)))) trivial (hP.sub [] rfl) (hD.sub [] (by decide) rfl) hS (Nat.le_of_ble_eq_true rfl) (Nat.le_of_ble_eq_true rfl) dX11_fault_28
  · have c1 := k_eq (a := p1.toInt) (b := 0) rfl (by decide) c1
    obtain rfl : p1 = 0 := Int32.toInt_inj.mp (show p1.toInt = 0 by omega)
    refine lv_aload_n hx hb dX11_fault_4 rfl (lv_at hl 0 rfl) ?_
    refine g_get (C := RX11) (T := TX11) (N := 11) (ci := 11) (v := .ref w0) FC hKn hP i_X11 0 rfl rfl 0 (by decide) b_151 rfl dX11_fault_5 ?_
    refine g_getN (C := RX1) (T := TX1) (N := 5) (ci := 1) (v := .int 0) FC hKn hP i_X1 1 rfl rfl 2 (by decide) b_153 rfl dX11_fault_8 ?_
    exact rt_i FX () (congrArg (fun z => some (Value.int z)) (show (0 : Int32) = _ from by first | decide | (unfold sp_fault; (repeat' split) <;> first | rfl | (exfalso; omega)))) trivial (hP.sub [] rfl) (hD.sub [] (by decide) rfl) hS (Nat.le_of_ble_eq_true rfl) (Nat.le_of_ble_eq_true rfl) dX11_fault_11
set_option maxRecDepth 100000 in
set_option maxHeartbeats 4000000 in
theorem c_X11_end (l : Launch) (g : GG) (h0 : Nat) (h1 : Nat) (w0 : Nat) (w2 : Nat) (w3 : Nat) (w4 : Nat) (w5 : Nat) (w6 : Nat) (w7 : Nat) (w8 : Nat) (w9 : Nat) (w10 : Nat) (t0 : Nat) (k0 : Nat) (b0 : Nat) (p1 : Int32) : Ct l g yX11_end cX11_end 2 (some .int) { frames := 0, cells := 0, slots := 0, locals := 0 } [.ref h0, .int p1] [(h0, .inr (11, [.ref w0, .ref h1, .ref w2, .ref w3, .ref w4, .ref w5, .ref w6, .ref w7, .ref w8, .ref w9, .ref w10])), (w0, .inr (1, [.ref t0, .ref k0, .int 0, .int (-1), .int 0])), (t0, .inr (9, [.ref b0, .int 0, .int 0, .int 0, .int 0, .int 0]))] (S := Unit) (fun _ => some (.int (sp_end p1))) (fun _ => True) (fun u => []) := by
  refine Ct.of (by decide) (Nat.le_of_ble_eq_true rfl) ?_
  intro p e s m below meth c A ls FX hP hD hS hl
  obtain ⟨FC, hr, hlk, hKn, hA, hnm⟩ := id FX
  have FC : CallFix p m c cX11_end 2 s _ BIG RX11 := FC
  obtain ⟨hx, hb, hml, hown, hB⟩ := id FC
  have hl : lv_has ls 2 [(0, .ref h0), (1, .int p1)] := hl
  refine lv_iload_n hx hb dX11_end_0 rfl (lv_at hl 1 rfl) ?_
  refine lv_if_lt (tgt := 18) hx hb dX11_end_1 (by decide) (fun c1 => ?_) (fun c1 => ?_)
  · have c1 := k_lt (a := p1.toInt) (b := 0) rfl (by decide) c1
    refine lv_iconst (v := -1) hx hb dX11_end_18 (by decide) ?_
    exact rt_i FX () (congrArg (fun z => some (Value.int z)) (show (-1 : Int32) = _ from by first | decide | (unfold sp_end; (repeat' split) <;> first | rfl | (exfalso; omega)))) trivial (hP.sub [] rfl) (hD.sub [] (by decide) rfl) hS (Nat.le_of_ble_eq_true rfl) (Nat.le_of_ble_eq_true rfl) dX11_end_19
  · have c1 := k_nlt (a := p1.toInt) (b := 0) rfl (by decide) c1
    refine lv_iload_n hx hb dX11_end_4 rfl (lv_at hl 1 rfl) ?_
    refine lv_aload_n hx hb dX11_end_5 rfl (lv_at hl 0 rfl) ?_
    refine g_get (C := RX11) (T := TX11) (N := 11) (ci := 11) (v := .ref w0) FC hKn hP i_X11 0 rfl rfl 0 (by decide) b_151 rfl dX11_end_6 ?_
    refine g_getN (C := RX1) (T := TX1) (N := 5) (ci := 1) (v := .ref t0) FC hKn hP i_X1 1 rfl rfl 0 (by decide) b_154 rfl dX11_end_9 ?_
    refine g_getN (C := RX9) (T := TX9) (N := 6) (ci := 9) (v := .int 0) FC hKn hP i_X9 2 rfl rfl 1 (by decide) b_155 rfl dX11_end_12 ?_
    refine lv_icmp_le (tgt := 20) hx hb dX11_end_15 (by decide) (fun c2 => ?_) (fun c2 => ?_)
    · have c2 := k_le (a := p1.toInt) (b := 0) rfl (by decide) c2
      obtain rfl : p1 = 0 := Int32.toInt_inj.mp (show p1.toInt = 0 by omega)
      refine lv_aload_n hx hb dX11_end_20 rfl (lv_at hl 0 rfl) ?_
      refine g_get (C := RX11) (T := TX11) (N := 11) (ci := 11) (v := .ref w0) FC hKn hP i_X11 0 rfl rfl 0 (by decide) b_151 rfl dX11_end_21 ?_
      refine g_getN (C := RX1) (T := TX1) (N := 5) (ci := 1) (v := .ref t0) FC hKn hP i_X1 1 rfl rfl 0 (by decide) b_154 rfl dX11_end_24 ?_
      refine lv_iload_n hx hb dX11_end_27 rfl (lv_at hl 1 rfl) ?_
      refine g_putN (C := RX9) (T := TX9) (N := 6) (ci := 9) (v := .int 0) FC hKn hP hD hS i_X9 tyX9 tyX9_ok nmX9 2 rfl rfl 1 (by decide) b_155 rfl rfl rfl (Nat.le_of_ble_eq_true rfl) dX11_end_28 (fun H locs hP hD hS => ?_)
      have hP : va_P g.1 vwCl [(h0, .inr (11, [.ref w0, .ref h1, .ref w2, .ref w3, .ref w4, .ref w5, .ref w6, .ref w7, .ref w8, .ref w9, .ref w10])), (w0, .inr (1, [.ref t0, .ref k0, .int 0, .int (-1), .int 0])), (t0, .inr (9, [.ref b0, .int 0, .int 0, .int 0, .int 0, .int 0]))] H := hP
      have hD : va_D A [(h0, .inr (11, [.ref w0, .ref h1, .ref w2, .ref w3, .ref w4, .ref w5, .ref w6, .ref w7, .ref w8, .ref w9, .ref w10])), (w0, .inr (1, [.ref t0, .ref k0, .int 0, .int (-1), .int 0])), (t0, .inr (9, [.ref b0, .int 0, .int 0, .int 0, .int 0, .int 0]))] := hD
      refine lv_iload_n hx hb dX11_end_31 rfl (lv_at hl 1 rfl) ?_
      exact rt_i FX () (congrArg (fun z => some (Value.int z)) (show (0 : Int32) = _ from by first | decide | (unfold sp_end; (repeat' split) <;> first | rfl | (exfalso; omega)))) trivial (hP.sub [] rfl) (hD.sub [] (by decide) rfl) hS (Nat.le_of_ble_eq_true rfl) (Nat.le_of_ble_eq_true rfl) dX11_end_32
    · have c2 := k_nle (a := p1.toInt) (b := 0) rfl (by decide) c2
      refine lv_iconst (v := -1) hx hb dX11_end_18 (by decide) ?_
      exact rt_i FX () (congrArg (fun z => some (Value.int z)) (show (-1 : Int32) = _ from by first | decide | (unfold sp_end; (repeat' split) <;> first | rfl | (exfalso; omega)))) trivial (hP.sub [] rfl) (hD.sub [] (by decide) rfl) hS (Nat.le_of_ble_eq_true rfl) (Nat.le_of_ble_eq_true rfl) dX11_end_19
set_option maxRecDepth 100000 in
set_option maxHeartbeats 4000000 in
theorem c_X11_feed (l : Launch) (g : GG) (h0 : Nat) (h1 : Nat) (w0 : Nat) (w2 : Nat) (w3 : Nat) (w4 : Nat) (w5 : Nat) (w6 : Nat) (w7 : Nat) (w8 : Nat) (w9 : Nat) (w10 : Nat) (t0 : Nat) (k0 : Nat) (b0 : Nat) (ff : Nat → Int32) (p1 : Int32) (p2 : Int32) (p3 : Int32) (p4 : Int32) (p5 : Int32) : Ct l g yX11_feed cX11_feed 7 (some .int) { frames := 1, cells := 0, slots := 0, locals := 22 } [.ref h0, .int p1, .int p2, .int p3, .int p4, .int p5] [(h0, .inr (11, [.ref w0, .ref h1, .ref w2, .ref w3, .ref w4, .ref w5, .ref w6, .ref w7, .ref w8, .ref w9, .ref w10])), (w0, .inr (1, [.ref t0, .ref k0, .int 0, .int (-1), .int 0])), (t0, .inr (9, [.ref b0, .int 0, .int 0, .int 0, .int 0, .int 0])), (b0, .inl (g.2 1, 900, .inl ff))] (S := Unit) (fun _ => some (.int 20)) (fun _ => True) (fun u => []) := by
  refine Ct.of (by decide) (Nat.le_of_ble_eq_true rfl) ?_
  intro p e s m below meth c A ls FX hP hD hS hl
  obtain ⟨FC, hr, hlk, hKn, hA, hnm⟩ := id FX
  have FC : CallFix p m c cX11_feed 7 s _ BIG RX11 := FC
  obtain ⟨hx, hb, hml, hown, hB⟩ := id FC
  have hl : lv_has ls 7 [(0, .ref h0), (1, .int p1), (2, .int p2), (3, .int p3), (4, .int p4), (5, .int p5)] := hl
  refine lv_aload_n hx hb dX11_feed_0 rfl (lv_at hl 0 rfl) ?_
  refine g_get (C := RX11) (T := TX11) (N := 11) (ci := 11) (v := .ref w0) FC hKn hP i_X11 0 rfl rfl 0 (by decide) b_151 rfl dX11_feed_1 ?_
  refine g_getN (C := RX1) (T := TX1) (N := 5) (ci := 1) (v := .ref t0) FC hKn hP i_X1 1 rfl rfl 0 (by decide) b_154 rfl dX11_feed_4 ?_
  refine lv_astore (lv' := [(6, .ref t0), (0, .ref h0), (1, .int p1), (2, .int p2), (3, .int p3), (4, .int p4), (5, .int p5)]) hx hb dX11_feed_7 hl (by decide) rfl (fun ls hl => ?_)
  refine lv_aload hx hb dX11_feed_9 (lv_at hl 0 rfl) ?_
  refine g_getN (C := RX9) (T := TX9) (N := 6) (ci := 9) (v := .int 0) FC hKn hP i_X9 2 rfl rfl 1 (by decide) b_155 rfl dX11_feed_11 ?_
  refine lv_sipush (v := 880) hx hb dX11_feed_14 (by decide) ?_
  refine lv_icmp_le (tgt := 22) hx hb dX11_feed_17 (by decide) (fun _ => ?_) (fun h => absurd h (by decide))
  refine lv_aload hx hb dX11_feed_22 (lv_at hl 0 rfl) ?_
  refine lv_iload_n hx hb dX11_feed_24 rfl (lv_at hl 2 rfl) ?_
  refine call_VN (As := [.int p1]) (rest := []) (wr := [(h0, .inr (11, [.ref w0, .ref h1, .ref w2, .ref w3, .ref w4, .ref w5, .ref w6, .ref w7, .ref w8, .ref w9, .ref w10])), (w0, .inr (1, [.ref t0, .ref k0, .int 0, .int (-1), .int 0]))]) FC hKn (c_X9_put_0 l g t0 b0 ff p1) m_yX9_put b_156 (ci := 9) rfl rfl rfl hP hD hS hA [2, 3] [0, 1] rfl (by decide) rfl (by decide) (by decide) rfl hl.1 rfl (Nat.le_of_ble_eq_true rfl) dX11_feed_25 ⟨(Nat.le_of_ble_eq_true rfl), (Nat.le_of_ble_eq_true rfl)⟩ ⟨(Nat.le_of_ble_eq_true rfl), (Nat.le_of_ble_eq_true rfl)⟩ (fun u1 H locs _ hP hD hS => ?_)
  have hP : va_P g.1 vwCl [(h0, .inr (11, [.ref w0, .ref h1, .ref w2, .ref w3, .ref w4, .ref w5, .ref w6, .ref w7, .ref w8, .ref w9, .ref w10])), (w0, .inr (1, [.ref t0, .ref k0, .int 0, .int (-1), .int 0])), (t0, .inr (9, [.ref b0, .int 4, .int 0, .int 0, .int 0, .int 0])), (b0, .inl (g.2 1, 900, .inl u1))] H := hP
  have hD : va_D A [(h0, .inr (11, [.ref w0, .ref h1, .ref w2, .ref w3, .ref w4, .ref w5, .ref w6, .ref w7, .ref w8, .ref w9, .ref w10])), (w0, .inr (1, [.ref t0, .ref k0, .int 0, .int (-1), .int 0])), (t0, .inr (9, [.ref b0, .int 4, .int 0, .int 0, .int 0, .int 0])), (b0, .inl (g.2 1, 900, .inl u1))] := hD
  refine W.eq (g2 := F0 m 28 ls []) rfl ?_
  refine lv_aload hx hb dX11_feed_28 (lv_at hl 0 rfl) ?_
  refine lv_iload_n hx hb dX11_feed_30 rfl (lv_at hl 3 rfl) ?_
  refine call_VN (As := [.int p2]) (rest := []) (wr := [(h0, .inr (11, [.ref w0, .ref h1, .ref w2, .ref w3, .ref w4, .ref w5, .ref w6, .ref w7, .ref w8, .ref w9, .ref w10])), (w0, .inr (1, [.ref t0, .ref k0, .int 0, .int (-1), .int 0]))]) FC hKn (c_X9_put_1 l g t0 b0 u1 p2) m_yX9_put b_156 (ci := 9) rfl rfl rfl hP hD hS hA [2, 3] [0, 1] rfl (by decide) rfl (by decide) (by decide) rfl hl.1 rfl (Nat.le_of_ble_eq_true rfl) dX11_feed_31 ⟨(Nat.le_of_ble_eq_true rfl), (Nat.le_of_ble_eq_true rfl)⟩ ⟨(Nat.le_of_ble_eq_true rfl), (Nat.le_of_ble_eq_true rfl)⟩ (fun u2 H locs _ hP hD hS => ?_)
  have hP : va_P g.1 vwCl [(h0, .inr (11, [.ref w0, .ref h1, .ref w2, .ref w3, .ref w4, .ref w5, .ref w6, .ref w7, .ref w8, .ref w9, .ref w10])), (w0, .inr (1, [.ref t0, .ref k0, .int 0, .int (-1), .int 0])), (t0, .inr (9, [.ref b0, .int 8, .int 0, .int 0, .int 0, .int 0])), (b0, .inl (g.2 1, 900, .inl u2))] H := hP
  have hD : va_D A [(h0, .inr (11, [.ref w0, .ref h1, .ref w2, .ref w3, .ref w4, .ref w5, .ref w6, .ref w7, .ref w8, .ref w9, .ref w10])), (w0, .inr (1, [.ref t0, .ref k0, .int 0, .int (-1), .int 0])), (t0, .inr (9, [.ref b0, .int 8, .int 0, .int 0, .int 0, .int 0])), (b0, .inl (g.2 1, 900, .inl u2))] := hD
  refine W.eq (g2 := F0 m 34 ls []) rfl ?_
  refine lv_aload hx hb dX11_feed_34 (lv_at hl 0 rfl) ?_
  refine lv_iload_n hx hb dX11_feed_36 rfl (lv_at hl 4 rfl) ?_
  refine call_VN (As := [.int p3]) (rest := []) (wr := [(h0, .inr (11, [.ref w0, .ref h1, .ref w2, .ref w3, .ref w4, .ref w5, .ref w6, .ref w7, .ref w8, .ref w9, .ref w10])), (w0, .inr (1, [.ref t0, .ref k0, .int 0, .int (-1), .int 0]))]) FC hKn (c_X9_put_2 l g t0 b0 u2 p3) m_yX9_put b_156 (ci := 9) rfl rfl rfl hP hD hS hA [2, 3] [0, 1] rfl (by decide) rfl (by decide) (by decide) rfl hl.1 rfl (Nat.le_of_ble_eq_true rfl) dX11_feed_37 ⟨(Nat.le_of_ble_eq_true rfl), (Nat.le_of_ble_eq_true rfl)⟩ ⟨(Nat.le_of_ble_eq_true rfl), (Nat.le_of_ble_eq_true rfl)⟩ (fun u3 H locs _ hP hD hS => ?_)
  have hP : va_P g.1 vwCl [(h0, .inr (11, [.ref w0, .ref h1, .ref w2, .ref w3, .ref w4, .ref w5, .ref w6, .ref w7, .ref w8, .ref w9, .ref w10])), (w0, .inr (1, [.ref t0, .ref k0, .int 0, .int (-1), .int 0])), (t0, .inr (9, [.ref b0, .int 12, .int 0, .int 0, .int 0, .int 0])), (b0, .inl (g.2 1, 900, .inl u3))] H := hP
  have hD : va_D A [(h0, .inr (11, [.ref w0, .ref h1, .ref w2, .ref w3, .ref w4, .ref w5, .ref w6, .ref w7, .ref w8, .ref w9, .ref w10])), (w0, .inr (1, [.ref t0, .ref k0, .int 0, .int (-1), .int 0])), (t0, .inr (9, [.ref b0, .int 12, .int 0, .int 0, .int 0, .int 0])), (b0, .inl (g.2 1, 900, .inl u3))] := hD
  refine W.eq (g2 := F0 m 40 ls []) rfl ?_
  refine lv_aload hx hb dX11_feed_40 (lv_at hl 0 rfl) ?_
  refine lv_iload hx hb dX11_feed_42 (lv_at hl 5 rfl) ?_
  refine call_VN (As := [.int p4]) (rest := []) (wr := [(h0, .inr (11, [.ref w0, .ref h1, .ref w2, .ref w3, .ref w4, .ref w5, .ref w6, .ref w7, .ref w8, .ref w9, .ref w10])), (w0, .inr (1, [.ref t0, .ref k0, .int 0, .int (-1), .int 0]))]) FC hKn (c_X9_put_3 l g t0 b0 u3 p4) m_yX9_put b_156 (ci := 9) rfl rfl rfl hP hD hS hA [2, 3] [0, 1] rfl (by decide) rfl (by decide) (by decide) rfl hl.1 rfl (Nat.le_of_ble_eq_true rfl) dX11_feed_44 ⟨(Nat.le_of_ble_eq_true rfl), (Nat.le_of_ble_eq_true rfl)⟩ ⟨(Nat.le_of_ble_eq_true rfl), (Nat.le_of_ble_eq_true rfl)⟩ (fun u4 H locs _ hP hD hS => ?_)
  have hP : va_P g.1 vwCl [(h0, .inr (11, [.ref w0, .ref h1, .ref w2, .ref w3, .ref w4, .ref w5, .ref w6, .ref w7, .ref w8, .ref w9, .ref w10])), (w0, .inr (1, [.ref t0, .ref k0, .int 0, .int (-1), .int 0])), (t0, .inr (9, [.ref b0, .int 16, .int 0, .int 0, .int 0, .int 0])), (b0, .inl (g.2 1, 900, .inl u4))] H := hP
  have hD : va_D A [(h0, .inr (11, [.ref w0, .ref h1, .ref w2, .ref w3, .ref w4, .ref w5, .ref w6, .ref w7, .ref w8, .ref w9, .ref w10])), (w0, .inr (1, [.ref t0, .ref k0, .int 0, .int (-1), .int 0])), (t0, .inr (9, [.ref b0, .int 16, .int 0, .int 0, .int 0, .int 0])), (b0, .inl (g.2 1, 900, .inl u4))] := hD
  refine W.eq (g2 := F0 m 47 ls []) rfl ?_
  refine lv_aload hx hb dX11_feed_47 (lv_at hl 0 rfl) ?_
  refine lv_iload hx hb dX11_feed_49 (lv_at hl 6 rfl) ?_
  refine call_VN (As := [.int p5]) (rest := []) (wr := [(h0, .inr (11, [.ref w0, .ref h1, .ref w2, .ref w3, .ref w4, .ref w5, .ref w6, .ref w7, .ref w8, .ref w9, .ref w10])), (w0, .inr (1, [.ref t0, .ref k0, .int 0, .int (-1), .int 0]))]) FC hKn (c_X9_put_4 l g t0 b0 u4 p5) m_yX9_put b_156 (ci := 9) rfl rfl rfl hP hD hS hA [2, 3] [0, 1] rfl (by decide) rfl (by decide) (by decide) rfl hl.1 rfl (Nat.le_of_ble_eq_true rfl) dX11_feed_51 ⟨(Nat.le_of_ble_eq_true rfl), (Nat.le_of_ble_eq_true rfl)⟩ ⟨(Nat.le_of_ble_eq_true rfl), (Nat.le_of_ble_eq_true rfl)⟩ (fun u5 H locs _ hP hD hS => ?_)
  have hP : va_P g.1 vwCl [(h0, .inr (11, [.ref w0, .ref h1, .ref w2, .ref w3, .ref w4, .ref w5, .ref w6, .ref w7, .ref w8, .ref w9, .ref w10])), (w0, .inr (1, [.ref t0, .ref k0, .int 0, .int (-1), .int 0])), (t0, .inr (9, [.ref b0, .int 20, .int 0, .int 0, .int 0, .int 0])), (b0, .inl (g.2 1, 900, .inl u5))] H := hP
  have hD : va_D A [(h0, .inr (11, [.ref w0, .ref h1, .ref w2, .ref w3, .ref w4, .ref w5, .ref w6, .ref w7, .ref w8, .ref w9, .ref w10])), (w0, .inr (1, [.ref t0, .ref k0, .int 0, .int (-1), .int 0])), (t0, .inr (9, [.ref b0, .int 20, .int 0, .int 0, .int 0, .int 0])), (b0, .inl (g.2 1, 900, .inl u5))] := hD
  refine W.eq (g2 := F0 m 54 ls []) rfl ?_
  refine lv_aload hx hb dX11_feed_54 (lv_at hl 0 rfl) ?_
  refine g_getN (C := RX9) (T := TX9) (N := 6) (ci := 9) (v := .int 20) FC hKn hP i_X9 2 rfl rfl 1 (by decide) b_155 rfl dX11_feed_56 ?_
  exact rt_i FX () rfl trivial (hP.sub [] rfl) (hD.sub [] (by decide) rfl) hS (Nat.le_of_ble_eq_true rfl) (Nat.le_of_ble_eq_true rfl) dX11_feed_59
set_option maxRecDepth 100000 in
set_option maxHeartbeats 4000000 in
theorem c_X11_desk (l : Launch) (g : GG) (h0 : Nat) (w0 : Nat) (w2 : Nat) (w3 : Nat) (w4 : Nat) (w5 : Nat) (w6 : Nat) (w7 : Nat) (w8 : Nat) (w9 : Nat) (w10 : Nat) (t0 : Nat) (b0 : Nat) (h1 : Nat) (v0 : Nat) (v1 : Nat) (v2 : Nat) (v3 : Nat) (v4 : Nat) (v5 : Nat) (v6 : Nat) (v7 : Nat) (v8 : Nat) (v9 : Nat) (x0 : Nat) (x1 : Nat) (x2 : Nat) (k0 : Nat) (z0 : Nat) (z1 : Nat) (z2 : Nat) (z3 : Nat) (z4 : Nat) (z5 : Nat) (z6 : Nat) (z7 : Nat) (z8 : Nat) (z9 : Nat) (y0 : Nat) (y1 : Nat) (y2 : Nat) : Ct l g yX11_desk cX11_desk 1 (some .int) { frames := 3, cells := 0, slots := 0, locals := 64 } [.ref h0] [(h0, .inr (11, [.ref w0, .ref h1, .ref w2, .ref w3, .ref w4, .ref w5, .ref w6, .ref w7, .ref w8, .ref w9, .ref w10])), (w0, .inr (1, [.ref t0, .ref k0, .int 0, .int (-1), .int 0])), (t0, .inr (9, [.ref b0, .int 0, .int 0, .int 0, .int 0, .int 0])), (h1, .inr (0, [.int 0, .int 0, .int 0, .int 0, .int 0, .int 0, .int 0, .int 0, .int 0, .int 0, .ref v0, .ref v1, .ref v2, .ref v3, .ref v4, .ref v5, .ref v6, .ref v7, .ref v8, .ref v9])), (v0, .inl (g.2 0, 8, .inl (fun _ => 0))), (v1, .inl (g.2 0, 32, .inl (fun _ => 0))), (v2, .inl (g.2 0, 4, .inl (fun _ => 0))), (v3, .inl (g.2 0, 4, .inl (fun _ => 0))), (v4, .inl (g.2 0, 8, .inl (fun _ => 0))), (v5, .inl (g.2 0, 8, .inl (fun _ => 0))), (v6, .inl (g.2 0, 4, .inl (fun _ => 0))), (v7, .inl (g.2 0, 20, .inl (fun _ => 0))), (v8, .inl (g.2 0, 6, .inl (fun _ => 0))), (v9, .inr (3, [.ref x0, .ref x1, .ref x2, .int 0])), (x0, .inl (g.2 0, 60, .inl (fun _ => 0))), (x1, .inl (g.2 0, 60, .inl (fun _ => 0))), (x2, .inl (g.2 0, 60, .inl (fun _ => 0))), (k0, .inr (0, [.int 0, .int 0, .int 0, .int 0, .int 0, .int 0, .int 0, .int 0, .int 0, .int 0, .ref z0, .ref z1, .ref z2, .ref z3, .ref z4, .ref z5, .ref z6, .ref z7, .ref z8, .ref z9])), (z0, .inl (g.2 0, 8, .inl (fun _ => 0))), (z1, .inl (g.2 0, 32, .inl (fun _ => 0))), (z2, .inl (g.2 0, 4, .inl (fun _ => 0))), (z3, .inl (g.2 0, 4, .inl (fun _ => 0))), (z4, .inl (g.2 0, 8, .inl (fun _ => 0))), (z5, .inl (g.2 0, 8, .inl (fun _ => 0))), (z6, .inl (g.2 0, 4, .inl (fun _ => 0))), (z7, .inl (g.2 0, 20, .inl (fun _ => 0))), (z8, .inl (g.2 0, 6, .inl (fun _ => 0))), (z9, .inr (3, [.ref y0, .ref y1, .ref y2, .int 0])), (y0, .inl (g.2 0, 60, .inl (fun _ => 0))), (y1, .inl (g.2 0, 60, .inl (fun _ => 0))), (y2, .inl (g.2 0, 60, .inl (fun _ => 0)))] (S := Unit) (fun _ => some (.int 0)) (fun _ => True) (fun u => []) := by
  refine Ct.of (by decide) (Nat.le_of_ble_eq_true rfl) ?_
  intro p e s m below meth c A ls FX hP hD hS hl
  obtain ⟨FC, hr, hlk, hKn, hA, hnm⟩ := id FX
  have FC : CallFix p m c cX11_desk 1 s _ BIG RX11 := FC
  obtain ⟨hx, hb, hml, hown, hB⟩ := id FC
  have hl : lv_has ls 1 [(0, .ref h0)] := hl
  refine lv_aload_n hx hb dX11_desk_0 rfl (lv_at hl 0 rfl) ?_
  refine g_get (C := RX11) (T := TX11) (N := 11) (ci := 11) (v := .ref w0) FC hKn hP i_X11 0 rfl rfl 0 (by decide) b_151 rfl dX11_desk_1 ?_
  refine call_VN (As := []) (rest := []) (wr := [(h0, .inr (11, [.ref w0, .ref h1, .ref w2, .ref w3, .ref w4, .ref w5, .ref w6, .ref w7, .ref w8, .ref w9, .ref w10])), (h1, .inr (0, [.int 0, .int 0, .int 0, .int 0, .int 0, .int 0, .int 0, .int 0, .int 0, .int 0, .ref v0, .ref v1, .ref v2, .ref v3, .ref v4, .ref v5, .ref v6, .ref v7, .ref v8, .ref v9])), (v0, .inl (g.2 0, 8, .inl (fun _ => 0))), (v1, .inl (g.2 0, 32, .inl (fun _ => 0))), (v2, .inl (g.2 0, 4, .inl (fun _ => 0))), (v3, .inl (g.2 0, 4, .inl (fun _ => 0))), (v4, .inl (g.2 0, 8, .inl (fun _ => 0))), (v5, .inl (g.2 0, 8, .inl (fun _ => 0))), (v6, .inl (g.2 0, 4, .inl (fun _ => 0))), (v7, .inl (g.2 0, 20, .inl (fun _ => 0))), (v8, .inl (g.2 0, 6, .inl (fun _ => 0))), (v9, .inr (3, [.ref x0, .ref x1, .ref x2, .int 0])), (x0, .inl (g.2 0, 60, .inl (fun _ => 0))), (x1, .inl (g.2 0, 60, .inl (fun _ => 0))), (x2, .inl (g.2 0, 60, .inl (fun _ => 0))), (z1, .inl (g.2 0, 32, .inl (fun _ => 0))), (z4, .inl (g.2 0, 8, .inl (fun _ => 0))), (z5, .inl (g.2 0, 8, .inl (fun _ => 0))), (z6, .inl (g.2 0, 4, .inl (fun _ => 0))), (z7, .inl (g.2 0, 20, .inl (fun _ => 0))), (z8, .inl (g.2 0, 6, .inl (fun _ => 0))), (y0, .inl (g.2 0, 60, .inl (fun _ => 0))), (y1, .inl (g.2 0, 60, .inl (fun _ => 0))), (y2, .inl (g.2 0, 60, .inl (fun _ => 0)))]) FC hKn (c_X1_readDesk l g w0 t0 b0 k0 z0 z1 z2 z3 z4 z5 z6 z7 z8 z9 y0 y1 y2 (fun _ => 0) (fun _ => 0) (fun _ => 0)) m_yX1_readDesk b_157 (ci := 1) rfl rfl rfl hP hD hS hA [1, 2, 17, 27, 18, 20, 21] [0, 3, 4, 5, 6, 7, 8, 9, 10, 11, 12, 13, 14, 15, 16, 19, 22, 23, 24, 25, 26, 28, 29, 30] rfl (by decide) rfl (by decide) (by decide) rfl hl.1 rfl (Nat.le_of_ble_eq_true rfl) dX11_desk_4 ⟨(Nat.le_of_ble_eq_true rfl), (Nat.le_of_ble_eq_true rfl)⟩ ⟨(Nat.le_of_ble_eq_true rfl), (Nat.le_of_ble_eq_true rfl)⟩ (fun u1 H locs _ hP hD hS => ?_)
  have hP : va_P g.1 vwCl [(h0, .inr (11, [.ref w0, .ref h1, .ref w2, .ref w3, .ref w4, .ref w5, .ref w6, .ref w7, .ref w8, .ref w9, .ref w10])), (h1, .inr (0, [.int 0, .int 0, .int 0, .int 0, .int 0, .int 0, .int 0, .int 0, .int 0, .int 0, .ref v0, .ref v1, .ref v2, .ref v3, .ref v4, .ref v5, .ref v6, .ref v7, .ref v8, .ref v9])), (v0, .inl (g.2 0, 8, .inl (fun _ => 0))), (v1, .inl (g.2 0, 32, .inl (fun _ => 0))), (v2, .inl (g.2 0, 4, .inl (fun _ => 0))), (v3, .inl (g.2 0, 4, .inl (fun _ => 0))), (v4, .inl (g.2 0, 8, .inl (fun _ => 0))), (v5, .inl (g.2 0, 8, .inl (fun _ => 0))), (v6, .inl (g.2 0, 4, .inl (fun _ => 0))), (v7, .inl (g.2 0, 20, .inl (fun _ => 0))), (v8, .inl (g.2 0, 6, .inl (fun _ => 0))), (v9, .inr (3, [.ref x0, .ref x1, .ref x2, .int 0])), (x0, .inl (g.2 0, 60, .inl (fun _ => 0))), (x1, .inl (g.2 0, 60, .inl (fun _ => 0))), (x2, .inl (g.2 0, 60, .inl (fun _ => 0))), (z1, .inl (g.2 0, 32, .inl (fun _ => 0))), (z4, .inl (g.2 0, 8, .inl (fun _ => 0))), (z5, .inl (g.2 0, 8, .inl (fun _ => 0))), (z6, .inl (g.2 0, 4, .inl (fun _ => 0))), (z7, .inl (g.2 0, 20, .inl (fun _ => 0))), (z8, .inl (g.2 0, 6, .inl (fun _ => 0))), (y0, .inl (g.2 0, 60, .inl (fun _ => 0))), (y1, .inl (g.2 0, 60, .inl (fun _ => 0))), (y2, .inl (g.2 0, 60, .inl (fun _ => 0))), (w0, .inr (1, [.ref t0, .ref k0, .int 0, .int (-1), .int 0])), (t0, .inr (9, [.ref b0, .int 0, .int 0, .int 0, .int 0, .int 0])), (k0, .inr (0, [.int 0, .int 0, .int 0, .int 0, .int 0, .int 0, .int 0, .int 0, .int 0, .int 0, .ref z0, .ref z1, .ref z2, .ref z3, .ref z4, .ref z5, .ref z6, .ref z7, .ref z8, .ref z9])), (z9, .inr (3, [.ref y0, .ref y1, .ref y2, .int 0])), (z0, .inl (g.2 0, 8, .inl (u1 0))), (z2, .inl (g.2 0, 4, .inl (u1 1))), (z3, .inl (g.2 0, 4, .inl (u1 2)))] H := hP
  have hD : va_D A [(h0, .inr (11, [.ref w0, .ref h1, .ref w2, .ref w3, .ref w4, .ref w5, .ref w6, .ref w7, .ref w8, .ref w9, .ref w10])), (h1, .inr (0, [.int 0, .int 0, .int 0, .int 0, .int 0, .int 0, .int 0, .int 0, .int 0, .int 0, .ref v0, .ref v1, .ref v2, .ref v3, .ref v4, .ref v5, .ref v6, .ref v7, .ref v8, .ref v9])), (v0, .inl (g.2 0, 8, .inl (fun _ => 0))), (v1, .inl (g.2 0, 32, .inl (fun _ => 0))), (v2, .inl (g.2 0, 4, .inl (fun _ => 0))), (v3, .inl (g.2 0, 4, .inl (fun _ => 0))), (v4, .inl (g.2 0, 8, .inl (fun _ => 0))), (v5, .inl (g.2 0, 8, .inl (fun _ => 0))), (v6, .inl (g.2 0, 4, .inl (fun _ => 0))), (v7, .inl (g.2 0, 20, .inl (fun _ => 0))), (v8, .inl (g.2 0, 6, .inl (fun _ => 0))), (v9, .inr (3, [.ref x0, .ref x1, .ref x2, .int 0])), (x0, .inl (g.2 0, 60, .inl (fun _ => 0))), (x1, .inl (g.2 0, 60, .inl (fun _ => 0))), (x2, .inl (g.2 0, 60, .inl (fun _ => 0))), (z1, .inl (g.2 0, 32, .inl (fun _ => 0))), (z4, .inl (g.2 0, 8, .inl (fun _ => 0))), (z5, .inl (g.2 0, 8, .inl (fun _ => 0))), (z6, .inl (g.2 0, 4, .inl (fun _ => 0))), (z7, .inl (g.2 0, 20, .inl (fun _ => 0))), (z8, .inl (g.2 0, 6, .inl (fun _ => 0))), (y0, .inl (g.2 0, 60, .inl (fun _ => 0))), (y1, .inl (g.2 0, 60, .inl (fun _ => 0))), (y2, .inl (g.2 0, 60, .inl (fun _ => 0))), (w0, .inr (1, [.ref t0, .ref k0, .int 0, .int (-1), .int 0])), (t0, .inr (9, [.ref b0, .int 0, .int 0, .int 0, .int 0, .int 0])), (k0, .inr (0, [.int 0, .int 0, .int 0, .int 0, .int 0, .int 0, .int 0, .int 0, .int 0, .int 0, .ref z0, .ref z1, .ref z2, .ref z3, .ref z4, .ref z5, .ref z6, .ref z7, .ref z8, .ref z9])), (z9, .inr (3, [.ref y0, .ref y1, .ref y2, .int 0])), (z0, .inl (g.2 0, 8, .inl (u1 0))), (z2, .inl (g.2 0, 4, .inl (u1 1))), (z3, .inl (g.2 0, 4, .inl (u1 2)))] := hD
  refine W.eq (g2 := F0 m 7 ls [.int 1]) rfl ?_
  refine lv_if_ne (tgt := 13) hx hb dX11_desk_7 (by decide) (fun _ => ?_) (fun h => absurd h (by decide))
  refine lv_aload_n hx hb dX11_desk_13 rfl (lv_at hl 0 rfl) ?_
  refine g_get (C := RX11) (T := TX11) (N := 11) (ci := 11) (v := .ref h1) FC hKn hP i_X11 0 rfl rfl 1 (by decide) b_10 rfl dX11_desk_14 ?_
  refine lv_aload_n hx hb dX11_desk_17 rfl (lv_at hl 0 rfl) ?_
  refine g_get (C := RX11) (T := TX11) (N := 11) (ci := 11) (v := .ref w0) FC hKn hP i_X11 0 rfl rfl 0 (by decide) b_151 rfl dX11_desk_18 ?_
  refine g_getN (C := RX1) (T := TX1) (N := 5) (ci := 1) (v := .ref k0) FC hKn hP i_X1 24 rfl rfl 1 (by decide) b_158 rfl dX11_desk_21 ?_
  refine call_VN (As := [.ref k0]) (rest := []) (wr := [(h0, .inr (11, [.ref w0, .ref h1, .ref w2, .ref w3, .ref w4, .ref w5, .ref w6, .ref w7, .ref w8, .ref w9, .ref w10])), (w0, .inr (1, [.ref t0, .ref k0, .int 0, .int (-1), .int 0])), (t0, .inr (9, [.ref b0, .int 0, .int 0, .int 0, .int 0, .int 0]))]) FC hKn (c_X0_copyFrom l g h1 v0 v1 v2 v3 v4 v5 v6 v7 v8 v9 x0 x1 x2 (fun _ => 0) (fun _ => 0) (fun _ => 0) (fun _ => 0) (fun _ => 0) (fun _ => 0) (fun _ => 0) (fun _ => 0) (fun _ => 0) (fun _ => 0) (fun _ => 0) (fun _ => 0) k0 z0 z1 z2 z3 z4 z5 z6 z7 z8 z9 y0 y1 y2 (u1 0) (fun _ => 0) (u1 1) (u1 2) (fun _ => 0) (fun _ => 0) (fun _ => 0) (fun _ => 0) (fun _ => 0) (fun _ => 0) (fun _ => 0) (fun _ => 0)) m_yX0_copyFrom b_149 (ci := 0) rfl rfl rfl hP hD hS hA [1, 2, 3, 4, 5, 6, 7, 8, 9, 10, 11, 12, 13, 14, 26, 28, 15, 29, 30, 16, 17, 18, 19, 20, 27, 21, 22, 23] [0, 24, 25] rfl (by decide) rfl (by decide) (by decide) rfl hl.1 rfl (Nat.le_of_ble_eq_true rfl) dX11_desk_24 ⟨(Nat.le_of_ble_eq_true rfl), (Nat.le_of_ble_eq_true rfl)⟩ ⟨(Nat.le_of_ble_eq_true rfl), (Nat.le_of_ble_eq_true rfl)⟩ (fun u2 H locs _ hP hD hS => ?_)
  have hP : va_P g.1 vwCl [(h0, .inr (11, [.ref w0, .ref h1, .ref w2, .ref w3, .ref w4, .ref w5, .ref w6, .ref w7, .ref w8, .ref w9, .ref w10])), (w0, .inr (1, [.ref t0, .ref k0, .int 0, .int (-1), .int 0])), (t0, .inr (9, [.ref b0, .int 0, .int 0, .int 0, .int 0, .int 0])), (h1, .inr (0, [.int 0, .int 0, .int 0, .int 0, .int 0, .int 0, .int 0, .int 0, .int 0, .int 0, .ref v0, .ref v1, .ref v2, .ref v3, .ref v4, .ref v5, .ref v6, .ref v7, .ref v8, .ref v9]))] H := hP
  have hD : va_D A [(h0, .inr (11, [.ref w0, .ref h1, .ref w2, .ref w3, .ref w4, .ref w5, .ref w6, .ref w7, .ref w8, .ref w9, .ref w10])), (w0, .inr (1, [.ref t0, .ref k0, .int 0, .int (-1), .int 0])), (t0, .inr (9, [.ref b0, .int 0, .int 0, .int 0, .int 0, .int 0])), (h1, .inr (0, [.int 0, .int 0, .int 0, .int 0, .int 0, .int 0, .int 0, .int 0, .int 0, .int 0, .ref v0, .ref v1, .ref v2, .ref v3, .ref v4, .ref v5, .ref v6, .ref v7, .ref v8, .ref v9]))] := hD
  refine W.eq (g2 := F0 m 27 ls []) rfl ?_
  refine lv_aload_n hx hb dX11_desk_27 rfl (lv_at hl 0 rfl) ?_
  refine g_get (C := RX11) (T := TX11) (N := 11) (ci := 11) (v := .ref w0) FC hKn hP i_X11 0 rfl rfl 0 (by decide) b_151 rfl dX11_desk_28 ?_
  refine g_getN (C := RX1) (T := TX1) (N := 5) (ci := 1) (v := .ref t0) FC hKn hP i_X1 1 rfl rfl 0 (by decide) b_154 rfl dX11_desk_31 ?_
  refine lv_iconst (v := 0) hx hb dX11_desk_34 (by decide) ?_
  refine g_putN (C := RX9) (T := TX9) (N := 6) (ci := 9) (v := .int 0) FC hKn hP hD hS i_X9 tyX9 tyX9_ok nmX9 2 rfl rfl 1 (by decide) b_155 rfl rfl rfl (Nat.le_of_ble_eq_true rfl) dX11_desk_35 (fun H locs hP hD hS => ?_)
  have hP : va_P g.1 vwCl [(h0, .inr (11, [.ref w0, .ref h1, .ref w2, .ref w3, .ref w4, .ref w5, .ref w6, .ref w7, .ref w8, .ref w9, .ref w10])), (w0, .inr (1, [.ref t0, .ref k0, .int 0, .int (-1), .int 0])), (t0, .inr (9, [.ref b0, .int 0, .int 0, .int 0, .int 0, .int 0])), (h1, .inr (0, [.int 0, .int 0, .int 0, .int 0, .int 0, .int 0, .int 0, .int 0, .int 0, .int 0, .ref v0, .ref v1, .ref v2, .ref v3, .ref v4, .ref v5, .ref v6, .ref v7, .ref v8, .ref v9]))] H := hP
  have hD : va_D A [(h0, .inr (11, [.ref w0, .ref h1, .ref w2, .ref w3, .ref w4, .ref w5, .ref w6, .ref w7, .ref w8, .ref w9, .ref w10])), (w0, .inr (1, [.ref t0, .ref k0, .int 0, .int (-1), .int 0])), (t0, .inr (9, [.ref b0, .int 0, .int 0, .int 0, .int 0, .int 0])), (h1, .inr (0, [.int 0, .int 0, .int 0, .int 0, .int 0, .int 0, .int 0, .int 0, .int 0, .int 0, .ref v0, .ref v1, .ref v2, .ref v3, .ref v4, .ref v5, .ref v6, .ref v7, .ref v8, .ref v9]))] := hD
  refine lv_aload_n hx hb dX11_desk_38 rfl (lv_at hl 0 rfl) ?_
  refine g_get (C := RX11) (T := TX11) (N := 11) (ci := 11) (v := .ref h1) FC hKn hP i_X11 0 rfl rfl 1 (by decide) b_10 rfl dX11_desk_39 ?_
  refine g_getN (C := RX0) (T := TX0) (N := 20) (ci := 0) (v := .int 0) FC hKn hP i_X0 3 rfl rfl 5 (by decide) b_159 rfl dX11_desk_42 ?_
  exact rt_i FX () rfl trivial (hP.sub [] rfl) (hD.sub [] (by decide) rfl) hS (Nat.le_of_ble_eq_true rfl) (Nat.le_of_ble_eq_true rfl) dX11_desk_45
set_option maxRecDepth 100000 in
set_option maxHeartbeats 4000000 in
theorem c_X11_count (l : Launch) (g : GG) (h0 : Nat) (h1 : Nat) (w0 : Nat) (w2 : Nat) (w3 : Nat) (w4 : Nat) (w5 : Nat) (w6 : Nat) (w7 : Nat) (w8 : Nat) (w9 : Nat) (w10 : Nat) (v0 : Nat) (v1 : Nat) (v2 : Nat) (v3 : Nat) (v4 : Nat) (v5 : Nat) (v6 : Nat) (v7 : Nat) (v8 : Nat) (v9 : Nat) (x0 : Nat) (x1 : Nat) (x2 : Nat) (t0 : Nat) (k0 : Nat) (b0 : Nat) (r0 : Nat) (r1 : Nat) (r2 : Nat) (r3 : Nat) (n0 : Nat) (n1 : Nat) (n2 : Nat) (n3 : Nat) (p1 : Int32) : Ct l g yX11_count cX11_count 2 (some .int) { frames := 3, cells := 0, slots := 0, locals := 64 } [.ref h0, .int p1] [(h0, .inr (11, [.ref w0, .ref h1, .ref w2, .ref w3, .ref w4, .ref w5, .ref w6, .ref w7, .ref w8, .ref w9, .ref w10])), (h1, .inr (0, [.int 0, .int 0, .int 0, .int 0, .int 0, .int 0, .int 0, .int 0, .int 0, .int 0, .ref v0, .ref v1, .ref v2, .ref v3, .ref v4, .ref v5, .ref v6, .ref v7, .ref v8, .ref v9])), (v9, .inr (3, [.ref x0, .ref x1, .ref x2, .int 0])), (w0, .inr (1, [.ref t0, .ref k0, .int 0, .int (-1), .int 0])), (t0, .inr (9, [.ref b0, .int 0, .int 0, .int 0, .int 0, .int 0])), (w4, .inl (g.2 5, 4, .inr (.inr (.inr (.inr (va_up (va_up (va_up (va_up (fun _ => none) 0 (some r0)) 1 (some r1)) 2 (some r2)) 3 (some r3))))))), (r0, .inr (8, [.ref n0, .int 0, .int 0, .int 0])), (r1, .inr (8, [.ref n1, .int 0, .int 0, .int 0])), (r2, .inr (8, [.ref n2, .int 0, .int 0, .int 0])), (r3, .inr (8, [.ref n3, .int 0, .int 0, .int 0]))] (S := Unit) (fun _ => some (.int (sp_count p1))) (fun _ => True) (fun u => []) := by
  refine Ct.of (by decide) (Nat.le_of_ble_eq_true rfl) ?_
  intro p e s m below meth c A ls FX hP hD hS hl
  obtain ⟨FC, hr, hlk, hKn, hA, hnm⟩ := id FX
  have FC : CallFix p m c cX11_count 2 s _ BIG RX11 := FC
  obtain ⟨hx, hb, hml, hown, hB⟩ := id FC
  have hl : lv_has ls 2 [(0, .ref h0), (1, .int p1)] := hl
  refine lv_iload_n hx hb dX11_count_0 rfl (lv_at hl 1 rfl) ?_
  by_cases c1 : p1.toInt < 0 ∨ 12 < p1.toInt
  · refine lv_tableOut (tgt := 175) hx hb dX11_count_1 c1 (by decide) ?_
    refine lv_iconst (v := -1) hx hb dX11_count_175 (by decide) ?_
    exact rt_i FX () (congrArg (fun z => some (Value.int z)) (show (-1 : Int32) = _ from by first | decide | (unfold sp_count; (repeat' split) <;> first | rfl | (exfalso; omega)))) trivial (hP.sub [] rfl) (hD.sub [] (by decide) rfl) hS (Nat.le_of_ble_eq_true rfl) (Nat.le_of_ble_eq_true rfl) dX11_count_176
  · have hv0 : True := trivial
    rcases (show p1.toInt = 0 ∨ p1.toInt = 1 ∨ p1.toInt = 2 ∨ p1.toInt = 3 ∨ p1.toInt = 4 ∨ p1.toInt = 5 ∨ p1.toInt = 6 ∨ p1.toInt = 7 ∨ p1.toInt = 8 ∨ p1.toInt = 9 ∨ p1.toInt = 10 ∨ p1.toInt = 11 ∨ p1.toInt = 12 by omega) with hv | hv | hv | hv | hv | hv | hv | hv | hv | hv | hv | hv | hv
    · obtain rfl : p1 = 0 := Int32.toInt_inj.mp (hv.trans (by decide))
      refine lv_tableIn (tgt := 68) (off := 67) hx hb dX11_count_1 (by decide) (by decide) (by decide) (by decide) ?_
      refine lv_aload_n hx hb dX11_count_68 rfl (lv_at hl 0 rfl) ?_
      refine g_get (C := RX11) (T := TX11) (N := 11) (ci := 11) (v := .ref h1) FC hKn hP i_X11 0 rfl rfl 1 (by decide) b_10 rfl dX11_count_69 ?_
      refine g_getN (C := RX0) (T := TX0) (N := 20) (ci := 0) (v := .int 0) FC hKn hP i_X0 1 rfl rfl 0 (by decide) b_160 rfl dX11_count_72 ?_
      exact rt_i FX () (congrArg (fun z => some (Value.int z)) (show (0 : Int32) = _ from by first | decide | (unfold sp_count; (repeat' split) <;> first | rfl | (exfalso; omega)))) trivial (hP.sub [] rfl) (hD.sub [] (by decide) rfl) hS (Nat.le_of_ble_eq_true rfl) (Nat.le_of_ble_eq_true rfl) dX11_count_75
    · obtain rfl : p1 = 1 := Int32.toInt_inj.mp (hv.trans (by decide))
      refine lv_tableIn (tgt := 76) (off := 75) hx hb dX11_count_1 (by decide) (by decide) (by decide) (by decide) ?_
      refine lv_aload_n hx hb dX11_count_76 rfl (lv_at hl 0 rfl) ?_
      refine g_get (C := RX11) (T := TX11) (N := 11) (ci := 11) (v := .ref h1) FC hKn hP i_X11 0 rfl rfl 1 (by decide) b_10 rfl dX11_count_77 ?_
      refine g_getN (C := RX0) (T := TX0) (N := 20) (ci := 0) (v := .int 0) FC hKn hP i_X0 1 rfl rfl 1 (by decide) b_161 rfl dX11_count_80 ?_
      exact rt_i FX () (congrArg (fun z => some (Value.int z)) (show (0 : Int32) = _ from by first | decide | (unfold sp_count; (repeat' split) <;> first | rfl | (exfalso; omega)))) trivial (hP.sub [] rfl) (hD.sub [] (by decide) rfl) hS (Nat.le_of_ble_eq_true rfl) (Nat.le_of_ble_eq_true rfl) dX11_count_83
    · obtain rfl : p1 = 2 := Int32.toInt_inj.mp (hv.trans (by decide))
      refine lv_tableIn (tgt := 84) (off := 83) hx hb dX11_count_1 (by decide) (by decide) (by decide) (by decide) ?_
      refine lv_aload_n hx hb dX11_count_84 rfl (lv_at hl 0 rfl) ?_
      refine g_get (C := RX11) (T := TX11) (N := 11) (ci := 11) (v := .ref h1) FC hKn hP i_X11 0 rfl rfl 1 (by decide) b_10 rfl dX11_count_85 ?_
      refine g_getN (C := RX0) (T := TX0) (N := 20) (ci := 0) (v := .int 0) FC hKn hP i_X0 1 rfl rfl 2 (by decide) b_162 rfl dX11_count_88 ?_
      exact rt_i FX () (congrArg (fun z => some (Value.int z)) (show (0 : Int32) = _ from by first | decide | (unfold sp_count; (repeat' split) <;> first | rfl | (exfalso; omega)))) trivial (hP.sub [] rfl) (hD.sub [] (by decide) rfl) hS (Nat.le_of_ble_eq_true rfl) (Nat.le_of_ble_eq_true rfl) dX11_count_91
    · obtain rfl : p1 = 3 := Int32.toInt_inj.mp (hv.trans (by decide))
      refine lv_tableIn (tgt := 92) (off := 91) hx hb dX11_count_1 (by decide) (by decide) (by decide) (by decide) ?_
      refine lv_aload_n hx hb dX11_count_92 rfl (lv_at hl 0 rfl) ?_
      refine g_get (C := RX11) (T := TX11) (N := 11) (ci := 11) (v := .ref h1) FC hKn hP i_X11 0 rfl rfl 1 (by decide) b_10 rfl dX11_count_93 ?_
      refine g_getN (C := RX0) (T := TX0) (N := 20) (ci := 0) (v := .int 0) FC hKn hP i_X0 1 rfl rfl 3 (by decide) b_163 rfl dX11_count_96 ?_
      exact rt_i FX () (congrArg (fun z => some (Value.int z)) (show (0 : Int32) = _ from by first | decide | (unfold sp_count; (repeat' split) <;> first | rfl | (exfalso; omega)))) trivial (hP.sub [] rfl) (hD.sub [] (by decide) rfl) hS (Nat.le_of_ble_eq_true rfl) (Nat.le_of_ble_eq_true rfl) dX11_count_99
    · obtain rfl : p1 = 4 := Int32.toInt_inj.mp (hv.trans (by decide))
      refine lv_tableIn (tgt := 100) (off := 99) hx hb dX11_count_1 (by decide) (by decide) (by decide) (by decide) ?_
      refine lv_aload_n hx hb dX11_count_100 rfl (lv_at hl 0 rfl) ?_
      refine g_get (C := RX11) (T := TX11) (N := 11) (ci := 11) (v := .ref h1) FC hKn hP i_X11 0 rfl rfl 1 (by decide) b_10 rfl dX11_count_101 ?_
      refine g_getN (C := RX0) (T := TX0) (N := 20) (ci := 0) (v := .int 0) FC hKn hP i_X0 1 rfl rfl 4 (by decide) b_164 rfl dX11_count_104 ?_
      exact rt_i FX () (congrArg (fun z => some (Value.int z)) (show (0 : Int32) = _ from by first | decide | (unfold sp_count; (repeat' split) <;> first | rfl | (exfalso; omega)))) trivial (hP.sub [] rfl) (hD.sub [] (by decide) rfl) hS (Nat.le_of_ble_eq_true rfl) (Nat.le_of_ble_eq_true rfl) dX11_count_107
    · obtain rfl : p1 = 5 := Int32.toInt_inj.mp (hv.trans (by decide))
      refine lv_tableIn (tgt := 108) (off := 107) hx hb dX11_count_1 (by decide) (by decide) (by decide) (by decide) ?_
      refine lv_aload_n hx hb dX11_count_108 rfl (lv_at hl 0 rfl) ?_
      refine g_get (C := RX11) (T := TX11) (N := 11) (ci := 11) (v := .ref h1) FC hKn hP i_X11 0 rfl rfl 1 (by decide) b_10 rfl dX11_count_109 ?_
      refine g_getN (C := RX0) (T := TX0) (N := 20) (ci := 0) (v := .int 0) FC hKn hP i_X0 1 rfl rfl 6 (by decide) b_165 rfl dX11_count_112 ?_
      exact rt_i FX () (congrArg (fun z => some (Value.int z)) (show (0 : Int32) = _ from by first | decide | (unfold sp_count; (repeat' split) <;> first | rfl | (exfalso; omega)))) trivial (hP.sub [] rfl) (hD.sub [] (by decide) rfl) hS (Nat.le_of_ble_eq_true rfl) (Nat.le_of_ble_eq_true rfl) dX11_count_115
    · obtain rfl : p1 = 6 := Int32.toInt_inj.mp (hv.trans (by decide))
      refine lv_tableIn (tgt := 116) (off := 115) hx hb dX11_count_1 (by decide) (by decide) (by decide) (by decide) ?_
      refine lv_aload_n hx hb dX11_count_116 rfl (lv_at hl 0 rfl) ?_
      refine g_get (C := RX11) (T := TX11) (N := 11) (ci := 11) (v := .ref h1) FC hKn hP i_X11 0 rfl rfl 1 (by decide) b_10 rfl dX11_count_117 ?_
      refine g_getN (C := RX0) (T := TX0) (N := 20) (ci := 0) (v := .int 0) FC hKn hP i_X0 1 rfl rfl 7 (by decide) b_166 rfl dX11_count_120 ?_
      exact rt_i FX () (congrArg (fun z => some (Value.int z)) (show (0 : Int32) = _ from by first | decide | (unfold sp_count; (repeat' split) <;> first | rfl | (exfalso; omega)))) trivial (hP.sub [] rfl) (hD.sub [] (by decide) rfl) hS (Nat.le_of_ble_eq_true rfl) (Nat.le_of_ble_eq_true rfl) dX11_count_123
    · obtain rfl : p1 = 7 := Int32.toInt_inj.mp (hv.trans (by decide))
      refine lv_tableIn (tgt := 124) (off := 123) hx hb dX11_count_1 (by decide) (by decide) (by decide) (by decide) ?_
      refine lv_aload_n hx hb dX11_count_124 rfl (lv_at hl 0 rfl) ?_
      refine g_get (C := RX11) (T := TX11) (N := 11) (ci := 11) (v := .ref h1) FC hKn hP i_X11 0 rfl rfl 1 (by decide) b_10 rfl dX11_count_125 ?_
      refine g_getN (C := RX0) (T := TX0) (N := 20) (ci := 0) (v := .int 0) FC hKn hP i_X0 1 rfl rfl 8 (by decide) b_167 rfl dX11_count_128 ?_
      exact rt_i FX () (congrArg (fun z => some (Value.int z)) (show (0 : Int32) = _ from by first | decide | (unfold sp_count; (repeat' split) <;> first | rfl | (exfalso; omega)))) trivial (hP.sub [] rfl) (hD.sub [] (by decide) rfl) hS (Nat.le_of_ble_eq_true rfl) (Nat.le_of_ble_eq_true rfl) dX11_count_131
    · obtain rfl : p1 = 8 := Int32.toInt_inj.mp (hv.trans (by decide))
      refine lv_tableIn (tgt := 132) (off := 131) hx hb dX11_count_1 (by decide) (by decide) (by decide) (by decide) ?_
      refine lv_aload_n hx hb dX11_count_132 rfl (lv_at hl 0 rfl) ?_
      refine g_get (C := RX11) (T := TX11) (N := 11) (ci := 11) (v := .ref h1) FC hKn hP i_X11 0 rfl rfl 1 (by decide) b_10 rfl dX11_count_133 ?_
      refine g_getN (C := RX0) (T := TX0) (N := 20) (ci := 0) (v := .int 0) FC hKn hP i_X0 1 rfl rfl 9 (by decide) b_168 rfl dX11_count_136 ?_
      exact rt_i FX () (congrArg (fun z => some (Value.int z)) (show (0 : Int32) = _ from by first | decide | (unfold sp_count; (repeat' split) <;> first | rfl | (exfalso; omega)))) trivial (hP.sub [] rfl) (hD.sub [] (by decide) rfl) hS (Nat.le_of_ble_eq_true rfl) (Nat.le_of_ble_eq_true rfl) dX11_count_139
    · obtain rfl : p1 = 9 := Int32.toInt_inj.mp (hv.trans (by decide))
      refine lv_tableIn (tgt := 140) (off := 139) hx hb dX11_count_1 (by decide) (by decide) (by decide) (by decide) ?_
      refine lv_aload_n hx hb dX11_count_140 rfl (lv_at hl 0 rfl) ?_
      refine g_get (C := RX11) (T := TX11) (N := 11) (ci := 11) (v := .ref h1) FC hKn hP i_X11 0 rfl rfl 1 (by decide) b_10 rfl dX11_count_141 ?_
      refine g_getN (C := RX0) (T := TX0) (N := 20) (ci := 0) (v := .int 0) FC hKn hP i_X0 1 rfl rfl 5 (by decide) b_159 rfl dX11_count_144 ?_
      exact rt_i FX () (congrArg (fun z => some (Value.int z)) (show (0 : Int32) = _ from by first | decide | (unfold sp_count; (repeat' split) <;> first | rfl | (exfalso; omega)))) trivial (hP.sub [] rfl) (hD.sub [] (by decide) rfl) hS (Nat.le_of_ble_eq_true rfl) (Nat.le_of_ble_eq_true rfl) dX11_count_147
    · obtain rfl : p1 = 10 := Int32.toInt_inj.mp (hv.trans (by decide))
      refine lv_tableIn (tgt := 148) (off := 147) hx hb dX11_count_1 (by decide) (by decide) (by decide) (by decide) ?_
      refine lv_aload_n hx hb dX11_count_148 rfl (lv_at hl 0 rfl) ?_
      refine g_get (C := RX11) (T := TX11) (N := 11) (ci := 11) (v := .ref w0) FC hKn hP i_X11 0 rfl rfl 0 (by decide) b_151 rfl dX11_count_149 ?_
      refine g_getN (C := RX1) (T := TX1) (N := 5) (ci := 1) (v := .ref t0) FC hKn hP i_X1 3 rfl rfl 0 (by decide) b_154 rfl dX11_count_152 ?_
      refine g_getN (C := RX9) (T := TX9) (N := 6) (ci := 9) (v := .int 0) FC hKn hP i_X9 4 rfl rfl 1 (by decide) b_155 rfl dX11_count_155 ?_
      exact rt_i FX () (congrArg (fun z => some (Value.int z)) (show (0 : Int32) = _ from by first | decide | (unfold sp_count; (repeat' split) <;> first | rfl | (exfalso; omega)))) trivial (hP.sub [] rfl) (hD.sub [] (by decide) rfl) hS (Nat.le_of_ble_eq_true rfl) (Nat.le_of_ble_eq_true rfl) dX11_count_158
    · obtain rfl : p1 = 11 := Int32.toInt_inj.mp (hv.trans (by decide))
      refine lv_tableIn (tgt := 159) (off := 158) hx hb dX11_count_1 (by decide) (by decide) (by decide) (by decide) ?_
      refine lv_aload_n hx hb dX11_count_159 rfl (lv_at hl 0 rfl) ?_
      refine g_get (C := RX11) (T := TX11) (N := 11) (ci := 11) (v := .ref h1) FC hKn hP i_X11 0 rfl rfl 1 (by decide) b_10 rfl dX11_count_160 ?_
      refine g_getN (C := RX0) (T := TX0) (N := 20) (ci := 0) (v := .ref v9) FC hKn hP i_X0 1 rfl rfl 19 (by decide) b_169 rfl dX11_count_163 ?_
      refine g_getN (C := RX3) (T := TX3) (N := 4) (ci := 3) (v := .int 0) FC hKn hP i_X3 2 rfl rfl 3 (by decide) b_170 rfl dX11_count_166 ?_
      exact rt_i FX () (congrArg (fun z => some (Value.int z)) (show (0 : Int32) = _ from by first | decide | (unfold sp_count; (repeat' split) <;> first | rfl | (exfalso; omega)))) trivial (hP.sub [] rfl) (hD.sub [] (by decide) rfl) hS (Nat.le_of_ble_eq_true rfl) (Nat.le_of_ble_eq_true rfl) dX11_count_169
    · obtain rfl : p1 = 12 := Int32.toInt_inj.mp (hv.trans (by decide))
      refine lv_tableIn (tgt := 170) (off := 169) hx hb dX11_count_1 (by decide) (by decide) (by decide) (by decide) ?_
      refine lv_aload_n hx hb dX11_count_170 rfl (lv_at hl 0 rfl) ?_
      refine call_V (As := []) (rest := []) (wr := [(h1, .inr (0, [.int 0, .int 0, .int 0, .int 0, .int 0, .int 0, .int 0, .int 0, .int 0, .int 0, .ref v0, .ref v1, .ref v2, .ref v3, .ref v4, .ref v5, .ref v6, .ref v7, .ref v8, .ref v9])), (v9, .inr (3, [.ref x0, .ref x1, .ref x2, .int 0])), (w0, .inr (1, [.ref t0, .ref k0, .int 0, .int (-1), .int 0])), (t0, .inr (9, [.ref b0, .int 0, .int 0, .int 0, .int 0, .int 0]))]) FC hKn (c_X11_countRows l g h0 h1 w0 w2 w3 w4 w5 w6 w7 w8 w9 w10 r0 r1 r2 r3 n0 n1 n2 n3) m_yX11_countRows b_171 (ci := 11) rfl rfl rfl hP hD hS hA [0, 5, 6, 7, 8, 9] [1, 2, 3, 4] rfl (by decide) rfl (by decide) (by decide) rfl hl.1 rfl (Nat.le_of_ble_eq_true rfl) dX11_count_171 ⟨(Nat.le_of_ble_eq_true rfl), (Nat.le_of_ble_eq_true rfl)⟩ ⟨(Nat.le_of_ble_eq_true rfl), (Nat.le_of_ble_eq_true rfl)⟩ (fun u2 H locs _ hP hD hS => ?_)
      have hP : va_P g.1 vwCl [(h1, .inr (0, [.int 0, .int 0, .int 0, .int 0, .int 0, .int 0, .int 0, .int 0, .int 0, .int 0, .ref v0, .ref v1, .ref v2, .ref v3, .ref v4, .ref v5, .ref v6, .ref v7, .ref v8, .ref v9])), (v9, .inr (3, [.ref x0, .ref x1, .ref x2, .int 0])), (w0, .inr (1, [.ref t0, .ref k0, .int 0, .int (-1), .int 0])), (t0, .inr (9, [.ref b0, .int 0, .int 0, .int 0, .int 0, .int 0])), (h0, .inr (11, [.ref w0, .ref h1, .ref w2, .ref w3, .ref w4, .ref w5, .ref w6, .ref w7, .ref w8, .ref w9, .ref w10])), (w4, .inl (g.2 5, 4, .inr (.inr (.inr (.inr (va_up (va_up (va_up (va_up (fun _ => none) 0 (some r0)) 1 (some r1)) 2 (some r2)) 3 (some r3))))))), (r0, .inr (8, [.ref n0, .int 0, .int 0, .int 0])), (r1, .inr (8, [.ref n1, .int 0, .int 0, .int 0])), (r2, .inr (8, [.ref n2, .int 0, .int 0, .int 0])), (r3, .inr (8, [.ref n3, .int 0, .int 0, .int 0]))] H := hP
      have hD : va_D A [(h1, .inr (0, [.int 0, .int 0, .int 0, .int 0, .int 0, .int 0, .int 0, .int 0, .int 0, .int 0, .ref v0, .ref v1, .ref v2, .ref v3, .ref v4, .ref v5, .ref v6, .ref v7, .ref v8, .ref v9])), (v9, .inr (3, [.ref x0, .ref x1, .ref x2, .int 0])), (w0, .inr (1, [.ref t0, .ref k0, .int 0, .int (-1), .int 0])), (t0, .inr (9, [.ref b0, .int 0, .int 0, .int 0, .int 0, .int 0])), (h0, .inr (11, [.ref w0, .ref h1, .ref w2, .ref w3, .ref w4, .ref w5, .ref w6, .ref w7, .ref w8, .ref w9, .ref w10])), (w4, .inl (g.2 5, 4, .inr (.inr (.inr (.inr (va_up (va_up (va_up (va_up (fun _ => none) 0 (some r0)) 1 (some r1)) 2 (some r2)) 3 (some r3))))))), (r0, .inr (8, [.ref n0, .int 0, .int 0, .int 0])), (r1, .inr (8, [.ref n1, .int 0, .int 0, .int 0])), (r2, .inr (8, [.ref n2, .int 0, .int 0, .int 0])), (r3, .inr (8, [.ref n3, .int 0, .int 0, .int 0]))] := hD
      refine W.eq (g2 := F0 m 174 ls [.int 0]) rfl ?_
      exact rt_i FX () (congrArg (fun z => some (Value.int z)) (show (0 : Int32) = _ from by first | decide | (unfold sp_count; (repeat' split) <;> first | rfl | (exfalso; omega)))) trivial (hP.sub [] rfl) (hD.sub [] (by decide) rfl) hS (Nat.le_of_ble_eq_true rfl) (Nat.le_of_ble_eq_true rfl) dX11_count_174
end
