section
-- ===== PART A: goes FIRST, ahead of the names: the tables' words, and 'selects' of the private methods out of them =====
/-- a private method of a class that the tables say can be made, by its rows of tables_1 -/
def lw_okq (q : MethodName × Nat) : Prop := (q.1.cls ≠ "java/lang/invoke/MethodHandle" ∧ q.1.cls ≠ "java/lang/invoke/VarHandle") ∧ Cond.instantiable q.1.cls q.2 ∈ tables_1 ∧ Cond.privateMethod q.1 ∈ tables_1 ∧ Cond.instanceMethod q.1 ∈ tables_1
theorem lw_p0 : lw_okq (⟨"GentleLetters$Tape", "put", "(I)V"⟩, 6) := ⟨⟨by decide +kernel, by decide +kernel⟩, List.mem_of_getElem? (i := 37) (by decide +kernel), List.mem_of_getElem? (i := 436) (by decide +kernel), List.mem_of_getElem? (i := 437) (by decide +kernel)⟩
theorem lw_p1 : lw_okq (⟨"GentleLetters$DeskReader", "readDesk", "()Z"⟩, 5) := ⟨⟨by decide +kernel, by decide +kernel⟩, List.mem_of_getElem? (i := 31) (by decide +kernel), List.mem_of_getElem? (i := 448) (by decide +kernel), List.mem_of_getElem? (i := 449) (by decide +kernel)⟩
theorem lw_p2 : lw_okq (⟨"GentleLetters$Desk", "clear", "()V"⟩, 20) := ⟨⟨by decide +kernel, by decide +kernel⟩, List.mem_of_getElem? (i := 67) (by decide +kernel), List.mem_of_getElem? (i := 452) (by decide +kernel), List.mem_of_getElem? (i := 453) (by decide +kernel)⟩
theorem lw_p3 : lw_okq (⟨"GentleLetters$Tape", "rewind", "()V"⟩, 6) := ⟨⟨by decide +kernel, by decide +kernel⟩, List.mem_of_getElem? (i := 37) (by decide +kernel), List.mem_of_getElem? (i := 459) (by decide +kernel), List.mem_of_getElem? (i := 460) (by decide +kernel)⟩
theorem lw_p4 : lw_okq (⟨"GentleLetters$Tape", "advance", "()V"⟩, 6) := ⟨⟨by decide +kernel, by decide +kernel⟩, List.mem_of_getElem? (i := 37) (by decide +kernel), List.mem_of_getElem? (i := 463) (by decide +kernel), List.mem_of_getElem? (i := 464) (by decide +kernel)⟩
theorem lw_p5 : lw_okq (⟨"GentleLetters$DeskReader", "readLine", "()Z"⟩, 5) := ⟨⟨by decide +kernel, by decide +kernel⟩, List.mem_of_getElem? (i := 31) (by decide +kernel), List.mem_of_getElem? (i := 474) (by decide +kernel), List.mem_of_getElem? (i := 475) (by decide +kernel)⟩
theorem lw_p6 : lw_okq (⟨"GentleLetters$DeskReader", "readHead", "()Z"⟩, 5) := ⟨⟨by decide +kernel, by decide +kernel⟩, List.mem_of_getElem? (i := 31) (by decide +kernel), List.mem_of_getElem? (i := 478) (by decide +kernel), List.mem_of_getElem? (i := 479) (by decide +kernel)⟩
theorem lw_p7 : lw_okq (⟨"GentleLetters$DeskReader", "takeWord", "(Ljava/lang/String;)Z"⟩, 5) := ⟨⟨by decide +kernel, by decide +kernel⟩, List.mem_of_getElem? (i := 31) (by decide +kernel), List.mem_of_getElem? (i := 483) (by decide +kernel), List.mem_of_getElem? (i := 484) (by decide +kernel)⟩
theorem lw_p8 : lw_okq (⟨"GentleLetters$Tape", "standsOn", "(Ljava/lang/String;)Z"⟩, 6) := ⟨⟨by decide +kernel, by decide +kernel⟩, List.mem_of_getElem? (i := 37) (by decide +kernel), List.mem_of_getElem? (i := 487) (by decide +kernel), List.mem_of_getElem? (i := 488) (by decide +kernel)⟩
theorem lw_p9 : lw_okq (⟨"GentleLetters$DeskReader", "blame", "(I)Z"⟩, 5) := ⟨⟨by decide +kernel, by decide +kernel⟩, List.mem_of_getElem? (i := 31) (by decide +kernel), List.mem_of_getElem? (i := 539) (by decide +kernel), List.mem_of_getElem? (i := 540) (by decide +kernel)⟩
theorem lw_p10 : lw_okq (⟨"GentleLetters$DeskReader", "takeNamed", "(Ljava/lang/String;II)Z"⟩, 5) := ⟨⟨by decide +kernel, by decide +kernel⟩, List.mem_of_getElem? (i := 31) (by decide +kernel), List.mem_of_getElem? (i := 545) (by decide +kernel), List.mem_of_getElem? (i := 546) (by decide +kernel)⟩
theorem lw_p11 : lw_okq (⟨"GentleLetters$DeskReader", "takeNumber", "(II)Z"⟩, 5) := ⟨⟨by decide +kernel, by decide +kernel⟩, List.mem_of_getElem? (i := 31) (by decide +kernel), List.mem_of_getElem? (i := 549) (by decide +kernel), List.mem_of_getElem? (i := 550) (by decide +kernel)⟩
theorem lw_p12 : lw_okq (⟨"GentleLetters$DeskReader", "findNumber", "(II)Z"⟩, 5) := ⟨⟨by decide +kernel, by decide +kernel⟩, List.mem_of_getElem? (i := 31) (by decide +kernel), List.mem_of_getElem? (i := 553) (by decide +kernel), List.mem_of_getElem? (i := 554) (by decide +kernel)⟩
theorem lw_p13 : lw_okq (⟨"GentleLetters$DeskReader", "readGrades", "()Z"⟩, 5) := ⟨⟨by decide +kernel, by decide +kernel⟩, List.mem_of_getElem? (i := 31) (by decide +kernel), List.mem_of_getElem? (i := 562) (by decide +kernel), List.mem_of_getElem? (i := 563) (by decide +kernel)⟩
theorem lw_p14 : lw_okq (⟨"GentleLetters$DeskReader", "readHearer", "()Z"⟩, 5) := ⟨⟨by decide +kernel, by decide +kernel⟩, List.mem_of_getElem? (i := 31) (by decide +kernel), List.mem_of_getElem? (i := 567) (by decide +kernel), List.mem_of_getElem? (i := 568) (by decide +kernel)⟩
theorem lw_p15 : lw_okq (⟨"GentleLetters$DeskReader", "readWord", "()Z"⟩, 5) := ⟨⟨by decide +kernel, by decide +kernel⟩, List.mem_of_getElem? (i := 31) (by decide +kernel), List.mem_of_getElem? (i := 574) (by decide +kernel), List.mem_of_getElem? (i := 575) (by decide +kernel)⟩
def lw_privs_1 : List (MethodName × Nat) := [(⟨"GentleLetters$Tape", "put", "(I)V"⟩, 6), (⟨"GentleLetters$DeskReader", "readDesk", "()Z"⟩, 5), (⟨"GentleLetters$Desk", "clear", "()V"⟩, 20), (⟨"GentleLetters$Tape", "rewind", "()V"⟩, 6), (⟨"GentleLetters$Tape", "advance", "()V"⟩, 6), (⟨"GentleLetters$DeskReader", "readLine", "()Z"⟩, 5), (⟨"GentleLetters$DeskReader", "readHead", "()Z"⟩, 5), (⟨"GentleLetters$DeskReader", "takeWord", "(Ljava/lang/String;)Z"⟩, 5), (⟨"GentleLetters$Tape", "standsOn", "(Ljava/lang/String;)Z"⟩, 6), (⟨"GentleLetters$DeskReader", "blame", "(I)Z"⟩, 5), (⟨"GentleLetters$DeskReader", "takeNamed", "(Ljava/lang/String;II)Z"⟩, 5), (⟨"GentleLetters$DeskReader", "takeNumber", "(II)Z"⟩, 5), (⟨"GentleLetters$DeskReader", "findNumber", "(II)Z"⟩, 5), (⟨"GentleLetters$DeskReader", "readGrades", "()Z"⟩, 5), (⟨"GentleLetters$DeskReader", "readHearer", "()Z"⟩, 5), (⟨"GentleLetters$DeskReader", "readWord", "()Z"⟩, 5)]
theorem lw_r1 : ∀ q ∈ lw_privs_1, lw_okq q := List.forall_mem_cons.mpr ⟨lw_p0, List.forall_mem_cons.mpr ⟨lw_p1, List.forall_mem_cons.mpr ⟨lw_p2, List.forall_mem_cons.mpr ⟨lw_p3, List.forall_mem_cons.mpr ⟨lw_p4, List.forall_mem_cons.mpr ⟨lw_p5, List.forall_mem_cons.mpr ⟨lw_p6, List.forall_mem_cons.mpr ⟨lw_p7, List.forall_mem_cons.mpr ⟨lw_p8, List.forall_mem_cons.mpr ⟨lw_p9, List.forall_mem_cons.mpr ⟨lw_p10, List.forall_mem_cons.mpr ⟨lw_p11, List.forall_mem_cons.mpr ⟨lw_p12, List.forall_mem_cons.mpr ⟨lw_p13, List.forall_mem_cons.mpr ⟨lw_p14, List.forall_mem_cons.mpr ⟨lw_p15, fun _ h => absurd h List.not_mem_nil⟩⟩⟩⟩⟩⟩⟩⟩⟩⟩⟩⟩⟩⟩⟩⟩
theorem lw_p16 : lw_okq (⟨"GentleLetters$DeskReader", "readPlan", "()Z"⟩, 5) := ⟨⟨by decide +kernel, by decide +kernel⟩, List.mem_of_getElem? (i := 31) (by decide +kernel), List.mem_of_getElem? (i := 581) (by decide +kernel), List.mem_of_getElem? (i := 582) (by decide +kernel)⟩
theorem lw_p17 : lw_okq (⟨"GentleLetters$DeskReader", "readNews", "()Z"⟩, 5) := ⟨⟨by decide +kernel, by decide +kernel⟩, List.mem_of_getElem? (i := 31) (by decide +kernel), List.mem_of_getElem? (i := 586) (by decide +kernel), List.mem_of_getElem? (i := 587) (by decide +kernel)⟩
theorem lw_p18 : lw_okq (⟨"GentleLetters$DeskReader", "readTells", "()Z"⟩, 5) := ⟨⟨by decide +kernel, by decide +kernel⟩, List.mem_of_getElem? (i := 31) (by decide +kernel), List.mem_of_getElem? (i := 593) (by decide +kernel), List.mem_of_getElem? (i := 594) (by decide +kernel)⟩
theorem lw_p19 : lw_okq (⟨"GentleLetters$DeskReader", "takeSemicolon", "()Z"⟩, 5) := ⟨⟨by decide +kernel, by decide +kernel⟩, List.mem_of_getElem? (i := 31) (by decide +kernel), List.mem_of_getElem? (i := 597) (by decide +kernel), List.mem_of_getElem? (i := 598) (by decide +kernel)⟩
theorem lw_p20 : lw_okq (⟨"GentleLetters$Desk", "copyFrom", "(LGentleLetters$Desk;)V"⟩, 20) := ⟨⟨by decide +kernel, by decide +kernel⟩, List.mem_of_getElem? (i := 67) (by decide +kernel), List.mem_of_getElem? (i := 601) (by decide +kernel), List.mem_of_getElem? (i := 602) (by decide +kernel)⟩
theorem lw_p21 : lw_okq (⟨"GentleLetters$Log", "takeAll", "(LGentleLetters$Log;)V"⟩, 4) := ⟨⟨by decide +kernel, by decide +kernel⟩, List.mem_of_getElem? (i := 73) (by decide +kernel), List.mem_of_getElem? (i := 608) (by decide +kernel), List.mem_of_getElem? (i := 609) (by decide +kernel)⟩
theorem lw_p22 : lw_okq (⟨"GentleLetters$Desk", "hasState", "(I)Z"⟩, 20) := ⟨⟨by decide +kernel, by decide +kernel⟩, List.mem_of_getElem? (i := 67) (by decide +kernel), List.mem_of_getElem? (i := 621) (by decide +kernel), List.mem_of_getElem? (i := 622) (by decide +kernel)⟩
theorem lw_p23 : lw_okq (⟨"GentleLetters$Desk", "hasHearer", "(I)Z"⟩, 20) := ⟨⟨by decide +kernel, by decide +kernel⟩, List.mem_of_getElem? (i := 67) (by decide +kernel), List.mem_of_getElem? (i := 629) (by decide +kernel), List.mem_of_getElem? (i := 630) (by decide +kernel)⟩
theorem lw_p24 : lw_okq (⟨"GentleLetters$Desk", "thoughtOf", "(II)I"⟩, 20) := ⟨⟨by decide +kernel, by decide +kernel⟩, List.mem_of_getElem? (i := 67) (by decide +kernel), List.mem_of_getElem? (i := 633) (by decide +kernel), List.mem_of_getElem? (i := 634) (by decide +kernel)⟩
theorem lw_p25 : lw_okq (⟨"GentleLetters$Desk", "hasWord", "(I)Z"⟩, 20) := ⟨⟨by decide +kernel, by decide +kernel⟩, List.mem_of_getElem? (i := 67) (by decide +kernel), List.mem_of_getElem? (i := 641) (by decide +kernel), List.mem_of_getElem? (i := 642) (by decide +kernel)⟩
theorem lw_p26 : lw_okq (⟨"GentleLetters$Desk", "isTrue", "(I)Z"⟩, 20) := ⟨⟨by decide +kernel, by decide +kernel⟩, List.mem_of_getElem? (i := 67) (by decide +kernel), List.mem_of_getElem? (i := 645) (by decide +kernel), List.mem_of_getElem? (i := 646) (by decide +kernel)⟩
theorem lw_p27 : lw_okq (⟨"GentleLetters$Desk", "hasPlan", "(I)Z"⟩, 20) := ⟨⟨by decide +kernel, by decide +kernel⟩, List.mem_of_getElem? (i := 67) (by decide +kernel), List.mem_of_getElem? (i := 653) (by decide +kernel), List.mem_of_getElem? (i := 654) (by decide +kernel)⟩
theorem lw_p28 : lw_okq (⟨"GentleLetters$Desk", "planWord", "(II)I"⟩, 20) := ⟨⟨by decide +kernel, by decide +kernel⟩, List.mem_of_getElem? (i := 67) (by decide +kernel), List.mem_of_getElem? (i := 657) (by decide +kernel), List.mem_of_getElem? (i := 658) (by decide +kernel)⟩
theorem lw_p29 : lw_okq (⟨"GentleLetters$Desk", "hasNews", "(I)Z"⟩, 20) := ⟨⟨by decide +kernel, by decide +kernel⟩, List.mem_of_getElem? (i := 67) (by decide +kernel), List.mem_of_getElem? (i := 665) (by decide +kernel), List.mem_of_getElem? (i := 666) (by decide +kernel)⟩
theorem lw_p30 : lw_okq (⟨"GentleLetters$Desk", "hasBelief", "(I)Z"⟩, 20) := ⟨⟨by decide +kernel, by decide +kernel⟩, List.mem_of_getElem? (i := 67) (by decide +kernel), List.mem_of_getElem? (i := 677) (by decide +kernel), List.mem_of_getElem? (i := 678) (by decide +kernel)⟩
theorem lw_p31 : lw_okq (⟨"GentleLetters$Desk", "everything", "()I"⟩, 20) := ⟨⟨by decide +kernel, by decide +kernel⟩, List.mem_of_getElem? (i := 67) (by decide +kernel), List.mem_of_getElem? (i := 681) (by decide +kernel), List.mem_of_getElem? (i := 682) (by decide +kernel)⟩
def lw_privs_2 : List (MethodName × Nat) := [(⟨"GentleLetters$DeskReader", "readPlan", "()Z"⟩, 5), (⟨"GentleLetters$DeskReader", "readNews", "()Z"⟩, 5), (⟨"GentleLetters$DeskReader", "readTells", "()Z"⟩, 5), (⟨"GentleLetters$DeskReader", "takeSemicolon", "()Z"⟩, 5), (⟨"GentleLetters$Desk", "copyFrom", "(LGentleLetters$Desk;)V"⟩, 20), (⟨"GentleLetters$Log", "takeAll", "(LGentleLetters$Log;)V"⟩, 4), (⟨"GentleLetters$Desk", "hasState", "(I)Z"⟩, 20), (⟨"GentleLetters$Desk", "hasHearer", "(I)Z"⟩, 20), (⟨"GentleLetters$Desk", "thoughtOf", "(II)I"⟩, 20), (⟨"GentleLetters$Desk", "hasWord", "(I)Z"⟩, 20), (⟨"GentleLetters$Desk", "isTrue", "(I)Z"⟩, 20), (⟨"GentleLetters$Desk", "hasPlan", "(I)Z"⟩, 20), (⟨"GentleLetters$Desk", "planWord", "(II)I"⟩, 20), (⟨"GentleLetters$Desk", "hasNews", "(I)Z"⟩, 20), (⟨"GentleLetters$Desk", "hasBelief", "(I)Z"⟩, 20), (⟨"GentleLetters$Desk", "everything", "()I"⟩, 20)]
theorem lw_r2 : ∀ q ∈ lw_privs_2, lw_okq q := List.forall_mem_cons.mpr ⟨lw_p16, List.forall_mem_cons.mpr ⟨lw_p17, List.forall_mem_cons.mpr ⟨lw_p18, List.forall_mem_cons.mpr ⟨lw_p19, List.forall_mem_cons.mpr ⟨lw_p20, List.forall_mem_cons.mpr ⟨lw_p21, List.forall_mem_cons.mpr ⟨lw_p22, List.forall_mem_cons.mpr ⟨lw_p23, List.forall_mem_cons.mpr ⟨lw_p24, List.forall_mem_cons.mpr ⟨lw_p25, List.forall_mem_cons.mpr ⟨lw_p26, List.forall_mem_cons.mpr ⟨lw_p27, List.forall_mem_cons.mpr ⟨lw_p28, List.forall_mem_cons.mpr ⟨lw_p29, List.forall_mem_cons.mpr ⟨lw_p30, List.forall_mem_cons.mpr ⟨lw_p31, fun _ h => absurd h List.not_mem_nil⟩⟩⟩⟩⟩⟩⟩⟩⟩⟩⟩⟩⟩⟩⟩⟩
theorem lw_p32 : lw_okq (⟨"GentleLetters$Desk", "meanOf", "(II)I"⟩, 20) := ⟨⟨by decide +kernel, by decide +kernel⟩, List.mem_of_getElem? (i := 67) (by decide +kernel), List.mem_of_getElem? (i := 685) (by decide +kernel), List.mem_of_getElem? (i := 686) (by decide +kernel)⟩
theorem lw_p33 : lw_okq (⟨"GentleLetters$Desk", "likelihood", "(IIII)I"⟩, 20) := ⟨⟨by decide +kernel, by decide +kernel⟩, List.mem_of_getElem? (i := 67) (by decide +kernel), List.mem_of_getElem? (i := 694) (by decide +kernel), List.mem_of_getElem? (i := 695) (by decide +kernel)⟩
theorem lw_p34 : lw_okq (⟨"GentleLetters$Desk", "canTell", "(I)Z"⟩, 20) := ⟨⟨by decide +kernel, by decide +kernel⟩, List.mem_of_getElem? (i := 67) (by decide +kernel), List.mem_of_getElem? (i := 711) (by decide +kernel), List.mem_of_getElem? (i := 712) (by decide +kernel)⟩
theorem lw_p35 : lw_okq (⟨"GentleLetters$Desk", "nextBelief", "(II)I"⟩, 20) := ⟨⟨by decide +kernel, by decide +kernel⟩, List.mem_of_getElem? (i := 67) (by decide +kernel), List.mem_of_getElem? (i := 716) (by decide +kernel), List.mem_of_getElem? (i := 717) (by decide +kernel)⟩
theorem lw_p36 : lw_okq (⟨"GentleLetters$Desk", "hurtBetween", "(III)I"⟩, 20) := ⟨⟨by decide +kernel, by decide +kernel⟩, List.mem_of_getElem? (i := 67) (by decide +kernel), List.mem_of_getElem? (i := 724) (by decide +kernel), List.mem_of_getElem? (i := 725) (by decide +kernel)⟩
theorem lw_p37 : lw_okq (⟨"GentleLetters", "takeWeek", "(I)I"⟩, 11) := ⟨⟨by decide +kernel, by decide +kernel⟩, List.mem_of_getElem? (i := 23) (by decide +kernel), List.mem_of_getElem? (i := 741) (by decide +kernel), List.mem_of_getElem? (i := 742) (by decide +kernel)⟩
theorem lw_p38 : lw_okq (⟨"GentleLetters$Desk", "stands", "()Z"⟩, 20) := ⟨⟨by decide +kernel, by decide +kernel⟩, List.mem_of_getElem? (i := 67) (by decide +kernel), List.mem_of_getElem? (i := 748) (by decide +kernel), List.mem_of_getElem? (i := 749) (by decide +kernel)⟩
theorem lw_p39 : lw_okq (⟨"GentleLetters", "rowOf", "(I)LGentleLetters$Row;"⟩, 11) := ⟨⟨by decide +kernel, by decide +kernel⟩, List.mem_of_getElem? (i := 23) (by decide +kernel), List.mem_of_getElem? (i := 752) (by decide +kernel), List.mem_of_getElem? (i := 753) (by decide +kernel)⟩
theorem lw_p40 : lw_okq (⟨"GentleLetters$Week", "take", "(LGentleLetters$Row;LGentleLetters$Desk;)Z"⟩, 10) := ⟨⟨by decide +kernel, by decide +kernel⟩, List.mem_of_getElem? (i := 232) (by decide +kernel), List.mem_of_getElem? (i := 756) (by decide +kernel), List.mem_of_getElem? (i := 757) (by decide +kernel)⟩
theorem lw_p41 : lw_okq (⟨"GentleLetters$Week", "believe", "(LGentleLetters$Desk;)V"⟩, 10) := ⟨⟨by decide +kernel, by decide +kernel⟩, List.mem_of_getElem? (i := 232) (by decide +kernel), List.mem_of_getElem? (i := 761) (by decide +kernel), List.mem_of_getElem? (i := 762) (by decide +kernel)⟩
theorem lw_p42 : lw_okq (⟨"GentleLetters$Week", "lastBelief", "(LGentleLetters$Desk;)I"⟩, 10) := ⟨⟨by decide +kernel, by decide +kernel⟩, List.mem_of_getElem? (i := 232) (by decide +kernel), List.mem_of_getElem? (i := 767) (by decide +kernel), List.mem_of_getElem? (i := 768) (by decide +kernel)⟩
theorem lw_p43 : lw_okq (⟨"GentleLetters", "feelWeek", "(II)I"⟩, 11) := ⟨⟨by decide +kernel, by decide +kernel⟩, List.mem_of_getElem? (i := 23) (by decide +kernel), List.mem_of_getElem? (i := 775) (by decide +kernel), List.mem_of_getElem? (i := 776) (by decide +kernel)⟩
theorem lw_p44 : lw_okq (⟨"GentleLetters$Week", "feel", "(LGentleLetters$Desk;I)V"⟩, 10) := ⟨⟨by decide +kernel, by decide +kernel⟩, List.mem_of_getElem? (i := 232) (by decide +kernel), List.mem_of_getElem? (i := 779) (by decide +kernel), List.mem_of_getElem? (i := 780) (by decide +kernel)⟩
theorem lw_p45 : lw_okq (⟨"GentleLetters$Week", "sumOfHurts", "()I"⟩, 10) := ⟨⟨by decide +kernel, by decide +kernel⟩, List.mem_of_getElem? (i := 232) (by decide +kernel), List.mem_of_getElem? (i := 784) (by decide +kernel), List.mem_of_getElem? (i := 785) (by decide +kernel)⟩
theorem lw_p46 : lw_okq (⟨"GentleLetters$Week", "greatestHurt", "()I"⟩, 10) := ⟨⟨by decide +kernel, by decide +kernel⟩, List.mem_of_getElem? (i := 232) (by decide +kernel), List.mem_of_getElem? (i := 792) (by decide +kernel), List.mem_of_getElem? (i := 793) (by decide +kernel)⟩
theorem lw_p47 : lw_okq (⟨"GentleLetters$Week", "sumLeft", "(LGentleLetters$Desk;)I"⟩, 10) := ⟨⟨by decide +kernel, by decide +kernel⟩, List.mem_of_getElem? (i := 232) (by decide +kernel), List.mem_of_getElem? (i := 803) (by decide +kernel), List.mem_of_getElem? (i := 804) (by decide +kernel)⟩
def lw_privs_3 : List (MethodName × Nat) := [(⟨"GentleLetters$Desk", "meanOf", "(II)I"⟩, 20), (⟨"GentleLetters$Desk", "likelihood", "(IIII)I"⟩, 20), (⟨"GentleLetters$Desk", "canTell", "(I)Z"⟩, 20), (⟨"GentleLetters$Desk", "nextBelief", "(II)I"⟩, 20), (⟨"GentleLetters$Desk", "hurtBetween", "(III)I"⟩, 20), (⟨"GentleLetters", "takeWeek", "(I)I"⟩, 11), (⟨"GentleLetters$Desk", "stands", "()Z"⟩, 20), (⟨"GentleLetters", "rowOf", "(I)LGentleLetters$Row;"⟩, 11), (⟨"GentleLetters$Week", "take", "(LGentleLetters$Row;LGentleLetters$Desk;)Z"⟩, 10), (⟨"GentleLetters$Week", "believe", "(LGentleLetters$Desk;)V"⟩, 10), (⟨"GentleLetters$Week", "lastBelief", "(LGentleLetters$Desk;)I"⟩, 10), (⟨"GentleLetters", "feelWeek", "(II)I"⟩, 11), (⟨"GentleLetters$Week", "feel", "(LGentleLetters$Desk;I)V"⟩, 10), (⟨"GentleLetters$Week", "sumOfHurts", "()I"⟩, 10), (⟨"GentleLetters$Week", "greatestHurt", "()I"⟩, 10), (⟨"GentleLetters$Week", "sumLeft", "(LGentleLetters$Desk;)I"⟩, 10)]
theorem lw_r3 : ∀ q ∈ lw_privs_3, lw_okq q := List.forall_mem_cons.mpr ⟨lw_p32, List.forall_mem_cons.mpr ⟨lw_p33, List.forall_mem_cons.mpr ⟨lw_p34, List.forall_mem_cons.mpr ⟨lw_p35, List.forall_mem_cons.mpr ⟨lw_p36, List.forall_mem_cons.mpr ⟨lw_p37, List.forall_mem_cons.mpr ⟨lw_p38, List.forall_mem_cons.mpr ⟨lw_p39, List.forall_mem_cons.mpr ⟨lw_p40, List.forall_mem_cons.mpr ⟨lw_p41, List.forall_mem_cons.mpr ⟨lw_p42, List.forall_mem_cons.mpr ⟨lw_p43, List.forall_mem_cons.mpr ⟨lw_p44, List.forall_mem_cons.mpr ⟨lw_p45, List.forall_mem_cons.mpr ⟨lw_p46, List.forall_mem_cons.mpr ⟨lw_p47, fun _ h => absurd h List.not_mem_nil⟩⟩⟩⟩⟩⟩⟩⟩⟩⟩⟩⟩⟩⟩⟩⟩
theorem lw_p48 : lw_okq (⟨"GentleLetters$Desk", "leftOf", "(II)I"⟩, 20) := ⟨⟨by decide +kernel, by decide +kernel⟩, List.mem_of_getElem? (i := 67) (by decide +kernel), List.mem_of_getElem? (i := 807) (by decide +kernel), List.mem_of_getElem? (i := 808) (by decide +kernel)⟩
theorem lw_p49 : lw_okq (⟨"GentleLetters$Week", "firstLie", "(LGentleLetters$Desk;)I"⟩, 10) := ⟨⟨by decide +kernel, by decide +kernel⟩, List.mem_of_getElem? (i := 232) (by decide +kernel), List.mem_of_getElem? (i := 816) (by decide +kernel), List.mem_of_getElem? (i := 817) (by decide +kernel)⟩
theorem lw_p50 : lw_okq (⟨"GentleLetters$Week", "sumOfShame", "(LGentleLetters$Desk;)I"⟩, 10) := ⟨⟨by decide +kernel, by decide +kernel⟩, List.mem_of_getElem? (i := 232) (by decide +kernel), List.mem_of_getElem? (i := 825) (by decide +kernel), List.mem_of_getElem? (i := 826) (by decide +kernel)⟩
theorem lw_p51 : lw_okq (⟨"GentleLetters$Desk", "shameOf", "(I)I"⟩, 20) := ⟨⟨by decide +kernel, by decide +kernel⟩, List.mem_of_getElem? (i := 67) (by decide +kernel), List.mem_of_getElem? (i := 829) (by decide +kernel), List.mem_of_getElem? (i := 830) (by decide +kernel)⟩
theorem lw_p52 : lw_okq (⟨"GentleLetters$Desk", "truth", "()I"⟩, 20) := ⟨⟨by decide +kernel, by decide +kernel⟩, List.mem_of_getElem? (i := 67) (by decide +kernel), List.mem_of_getElem? (i := 838) (by decide +kernel), List.mem_of_getElem? (i := 839) (by decide +kernel)⟩
theorem lw_p53 : lw_okq (⟨"GentleLetters$Week", "knownFrom", "(I)I"⟩, 10) := ⟨⟨by decide +kernel, by decide +kernel⟩, List.mem_of_getElem? (i := 232) (by decide +kernel), List.mem_of_getElem? (i := 842) (by decide +kernel), List.mem_of_getElem? (i := 843) (by decide +kernel)⟩
theorem lw_p54 : lw_okq (⟨"GentleLetters", "orderWeek", "(II)I"⟩, 11) := ⟨⟨by decide +kernel, by decide +kernel⟩, List.mem_of_getElem? (i := 23) (by decide +kernel), List.mem_of_getElem? (i := 850) (by decide +kernel), List.mem_of_getElem? (i := 851) (by decide +kernel)⟩
theorem lw_p55 : lw_okq (⟨"GentleLetters$Mind", "study", "(LGentleLetters$Desk;I)V"⟩, 1) := ⟨⟨by decide +kernel, by decide +kernel⟩, List.mem_of_getElem? (i := 276) (by decide +kernel), List.mem_of_getElem? (i := 854) (by decide +kernel), List.mem_of_getElem? (i := 855) (by decide +kernel)⟩
theorem lw_p56 : lw_okq (⟨"GentleLetters$Week", "orderSoftly", "(LGentleLetters$Desk;LGentleLetters$Mind;)V"⟩, 10) := ⟨⟨by decide +kernel, by decide +kernel⟩, List.mem_of_getElem? (i := 232) (by decide +kernel), List.mem_of_getElem? (i := 860) (by decide +kernel), List.mem_of_getElem? (i := 861) (by decide +kernel)⟩
theorem lw_p57 : lw_okq (⟨"GentleLetters$Week", "leftByOrder", "(LGentleLetters$Desk;LGentleLetters$Mind;)I"⟩, 10) := ⟨⟨by decide +kernel, by decide +kernel⟩, List.mem_of_getElem? (i := 232) (by decide +kernel), List.mem_of_getElem? (i := 865) (by decide +kernel), List.mem_of_getElem? (i := 866) (by decide +kernel)⟩
theorem lw_p58 : lw_okq (⟨"GentleLetters$Mind", "pain", "(II)I"⟩, 1) := ⟨⟨by decide +kernel, by decide +kernel⟩, List.mem_of_getElem? (i := 276) (by decide +kernel), List.mem_of_getElem? (i := 869) (by decide +kernel), List.mem_of_getElem? (i := 870) (by decide +kernel)⟩
theorem lw_p59 : lw_okq (⟨"GentleLetters$Week", "nextOrder", "()Z"⟩, 10) := ⟨⟨by decide +kernel, by decide +kernel⟩, List.mem_of_getElem? (i := 232) (by decide +kernel), List.mem_of_getElem? (i := 875) (by decide +kernel), List.mem_of_getElem? (i := 876) (by decide +kernel)⟩
theorem lw_p60 : lw_okq (⟨"GentleLetters$Week", "swap", "(II)V"⟩, 10) := ⟨⟨by decide +kernel, by decide +kernel⟩, List.mem_of_getElem? (i := 232) (by decide +kernel), List.mem_of_getElem? (i := 879) (by decide +kernel), List.mem_of_getElem? (i := 880) (by decide +kernel)⟩
theorem lw_p61 : lw_okq (⟨"GentleLetters", "leastCost", "(IZZ)I"⟩, 11) := ⟨⟨by decide +kernel, by decide +kernel⟩, List.mem_of_getElem? (i := 23) (by decide +kernel), List.mem_of_getElem? (i := 891) (by decide +kernel), List.mem_of_getElem? (i := 892) (by decide +kernel)⟩
theorem lw_p62 : lw_okq (⟨"GentleLetters$Reach", "grow", "(LGentleLetters$Desk;I)V"⟩, 3) := ⟨⟨by decide +kernel, by decide +kernel⟩, List.mem_of_getElem? (i := 286) (by decide +kernel), List.mem_of_getElem? (i := 896) (by decide +kernel), List.mem_of_getElem? (i := 897) (by decide +kernel)⟩
theorem lw_p63 : lw_okq (⟨"GentleLetters$Reach", "add", "(II)V"⟩, 3) := ⟨⟨by decide +kernel, by decide +kernel⟩, List.mem_of_getElem? (i := 286) (by decide +kernel), List.mem_of_getElem? (i := 902) (by decide +kernel), List.mem_of_getElem? (i := 903) (by decide +kernel)⟩
def lw_privs_4 : List (MethodName × Nat) := [(⟨"GentleLetters$Desk", "leftOf", "(II)I"⟩, 20), (⟨"GentleLetters$Week", "firstLie", "(LGentleLetters$Desk;)I"⟩, 10), (⟨"GentleLetters$Week", "sumOfShame", "(LGentleLetters$Desk;)I"⟩, 10), (⟨"GentleLetters$Desk", "shameOf", "(I)I"⟩, 20), (⟨"GentleLetters$Desk", "truth", "()I"⟩, 20), (⟨"GentleLetters$Week", "knownFrom", "(I)I"⟩, 10), (⟨"GentleLetters", "orderWeek", "(II)I"⟩, 11), (⟨"GentleLetters$Mind", "study", "(LGentleLetters$Desk;I)V"⟩, 1), (⟨"GentleLetters$Week", "orderSoftly", "(LGentleLetters$Desk;LGentleLetters$Mind;)V"⟩, 10), (⟨"GentleLetters$Week", "leftByOrder", "(LGentleLetters$Desk;LGentleLetters$Mind;)I"⟩, 10), (⟨"GentleLetters$Mind", "pain", "(II)I"⟩, 1), (⟨"GentleLetters$Week", "nextOrder", "()Z"⟩, 10), (⟨"GentleLetters$Week", "swap", "(II)V"⟩, 10), (⟨"GentleLetters", "leastCost", "(IZZ)I"⟩, 11), (⟨"GentleLetters$Reach", "grow", "(LGentleLetters$Desk;I)V"⟩, 3), (⟨"GentleLetters$Reach", "add", "(II)V"⟩, 3)]
theorem lw_r4 : ∀ q ∈ lw_privs_4, lw_okq q := List.forall_mem_cons.mpr ⟨lw_p48, List.forall_mem_cons.mpr ⟨lw_p49, List.forall_mem_cons.mpr ⟨lw_p50, List.forall_mem_cons.mpr ⟨lw_p51, List.forall_mem_cons.mpr ⟨lw_p52, List.forall_mem_cons.mpr ⟨lw_p53, List.forall_mem_cons.mpr ⟨lw_p54, List.forall_mem_cons.mpr ⟨lw_p55, List.forall_mem_cons.mpr ⟨lw_p56, List.forall_mem_cons.mpr ⟨lw_p57, List.forall_mem_cons.mpr ⟨lw_p58, List.forall_mem_cons.mpr ⟨lw_p59, List.forall_mem_cons.mpr ⟨lw_p60, List.forall_mem_cons.mpr ⟨lw_p61, List.forall_mem_cons.mpr ⟨lw_p62, List.forall_mem_cons.mpr ⟨lw_p63, fun _ h => absurd h List.not_mem_nil⟩⟩⟩⟩⟩⟩⟩⟩⟩⟩⟩⟩⟩⟩⟩⟩
theorem lw_p64 : lw_okq (⟨"GentleLetters$Planner", "solve", "(LGentleLetters$Desk;LGentleLetters$Mind;LGentleLetters$Reach;ZZ)V"⟩, 5) := ⟨⟨by decide +kernel, by decide +kernel⟩, List.mem_of_getElem? (i := 307) (by decide +kernel), List.mem_of_getElem? (i := 907) (by decide +kernel), List.mem_of_getElem? (i := 908) (by decide +kernel)⟩
theorem lw_p65 : lw_okq (⟨"GentleLetters$Planner", "leastFrom", "(LGentleLetters$Desk;LGentleLetters$Mind;II)I"⟩, 5) := ⟨⟨by decide +kernel, by decide +kernel⟩, List.mem_of_getElem? (i := 307) (by decide +kernel), List.mem_of_getElem? (i := 913) (by decide +kernel), List.mem_of_getElem? (i := 914) (by decide +kernel)⟩
theorem lw_p66 : lw_okq (⟨"GentleLetters$Planner", "costBy", "(LGentleLetters$Desk;LGentleLetters$Mind;III)I"⟩, 5) := ⟨⟨by decide +kernel, by decide +kernel⟩, List.mem_of_getElem? (i := 307) (by decide +kernel), List.mem_of_getElem? (i := 917) (by decide +kernel), List.mem_of_getElem? (i := 918) (by decide +kernel)⟩
theorem lw_p67 : lw_okq (⟨"GentleLetters$Planner", "costWithDays", "(II)I"⟩, 5) := ⟨⟨by decide +kernel, by decide +kernel⟩, List.mem_of_getElem? (i := 307) (by decide +kernel), List.mem_of_getElem? (i := 923) (by decide +kernel), List.mem_of_getElem? (i := 924) (by decide +kernel)⟩
theorem lw_p68 : lw_okq (⟨"GentleLetters$Planner", "findFirstRow", "(LGentleLetters$Desk;LGentleLetters$Mind;)V"⟩, 5) := ⟨⟨by decide +kernel, by decide +kernel⟩, List.mem_of_getElem? (i := 307) (by decide +kernel), List.mem_of_getElem? (i := 933) (by decide +kernel), List.mem_of_getElem? (i := 934) (by decide +kernel)⟩
theorem lw_p69 : lw_okq (⟨"GentleLetters", "wordOfBest", "(IIZZ)I"⟩, 11) := ⟨⟨by decide +kernel, by decide +kernel⟩, List.mem_of_getElem? (i := 23) (by decide +kernel), List.mem_of_getElem? (i := 946) (by decide +kernel), List.mem_of_getElem? (i := 947) (by decide +kernel)⟩
theorem lw_p70 : lw_okq (⟨"GentleLetters$Desk", "hasDay", "(I)Z"⟩, 20) := ⟨⟨by decide +kernel, by decide +kernel⟩, List.mem_of_getElem? (i := 67) (by decide +kernel), List.mem_of_getElem? (i := 950) (by decide +kernel), List.mem_of_getElem? (i := 951) (by decide +kernel)⟩
theorem lw_p71 : lw_okq (⟨"GentleLetters$Desk", "hurtAtOnce", "(I)I"⟩, 20) := ⟨⟨by decide +kernel, by decide +kernel⟩, List.mem_of_getElem? (i := 67) (by decide +kernel), List.mem_of_getElem? (i := 990) (by decide +kernel), List.mem_of_getElem? (i := 991) (by decide +kernel)⟩
theorem lw_p72 : lw_okq (⟨"GentleLetters$Desk", "sharpest", "(I)I"⟩, 20) := ⟨⟨by decide +kernel, by decide +kernel⟩, List.mem_of_getElem? (i := 67) (by decide +kernel), List.mem_of_getElem? (i := 1013) (by decide +kernel), List.mem_of_getElem? (i := 1014) (by decide +kernel)⟩
theorem lw_p73 : lw_okq (⟨"GentleLetters$Planner", "wordsUsed", "(I)I"⟩, 5) := ⟨⟨by decide +kernel, by decide +kernel⟩, List.mem_of_getElem? (i := 307) (by decide +kernel), List.mem_of_getElem? (i := 1021) (by decide +kernel), List.mem_of_getElem? (i := 1022) (by decide +kernel)⟩
theorem lw_p74 : lw_okq (⟨"GentleLetters", "weighRisks", "(III)V"⟩, 11) := ⟨⟨by decide +kernel, by decide +kernel⟩, List.mem_of_getElem? (i := 23) (by decide +kernel), List.mem_of_getElem? (i := 1046) (by decide +kernel), List.mem_of_getElem? (i := 1047) (by decide +kernel)⟩
theorem lw_p75 : lw_okq (⟨"GentleLetters$Risks", "weigh", "(LGentleLetters$Desk;LGentleLetters$Mind;LGentleLetters$Reach;II)V"⟩, 4) := ⟨⟨by decide +kernel, by decide +kernel⟩, List.mem_of_getElem? (i := 331) (by decide +kernel), List.mem_of_getElem? (i := 1050) (by decide +kernel), List.mem_of_getElem? (i := 1051) (by decide +kernel)⟩
theorem lw_p76 : lw_okq (⟨"GentleLetters$Risks", "choose", "(LGentleLetters$Desk;LGentleLetters$Mind;II)V"⟩, 4) := ⟨⟨by decide +kernel, by decide +kernel⟩, List.mem_of_getElem? (i := 331) (by decide +kernel), List.mem_of_getElem? (i := 1056) (by decide +kernel), List.mem_of_getElem? (i := 1057) (by decide +kernel)⟩
theorem lw_p77 : lw_okq (⟨"GentleLetters$Desk", "inTheMean", "(II)I"⟩, 20) := ⟨⟨by decide +kernel, by decide +kernel⟩, List.mem_of_getElem? (i := 67) (by decide +kernel), List.mem_of_getElem? (i := 1064) (by decide +kernel), List.mem_of_getElem? (i := 1065) (by decide +kernel)⟩
theorem lw_p78 : lw_okq (⟨"GentleLetters$Desk", "costOfWaiting", "(II)I"⟩, 20) := ⟨⟨by decide +kernel, by decide +kernel⟩, List.mem_of_getElem? (i := 67) (by decide +kernel), List.mem_of_getElem? (i := 1077) (by decide +kernel), List.mem_of_getElem? (i := 1078) (by decide +kernel)⟩
theorem lw_p79 : lw_okq (⟨"GentleLetters$Week", "reckon", "(LGentleLetters$Desk;I)V"⟩, 10) := ⟨⟨by decide +kernel, by decide +kernel⟩, List.mem_of_getElem? (i := 232) (by decide +kernel), List.mem_of_getElem? (i := 1087) (by decide +kernel), List.mem_of_getElem? (i := 1088) (by decide +kernel)⟩
def lw_privs_5 : List (MethodName × Nat) := [(⟨"GentleLetters$Planner", "solve", "(LGentleLetters$Desk;LGentleLetters$Mind;LGentleLetters$Reach;ZZ)V"⟩, 5), (⟨"GentleLetters$Planner", "leastFrom", "(LGentleLetters$Desk;LGentleLetters$Mind;II)I"⟩, 5), (⟨"GentleLetters$Planner", "costBy", "(LGentleLetters$Desk;LGentleLetters$Mind;III)I"⟩, 5), (⟨"GentleLetters$Planner", "costWithDays", "(II)I"⟩, 5), (⟨"GentleLetters$Planner", "findFirstRow", "(LGentleLetters$Desk;LGentleLetters$Mind;)V"⟩, 5), (⟨"GentleLetters", "wordOfBest", "(IIZZ)I"⟩, 11), (⟨"GentleLetters$Desk", "hasDay", "(I)Z"⟩, 20), (⟨"GentleLetters$Desk", "hurtAtOnce", "(I)I"⟩, 20), (⟨"GentleLetters$Desk", "sharpest", "(I)I"⟩, 20), (⟨"GentleLetters$Planner", "wordsUsed", "(I)I"⟩, 5), (⟨"GentleLetters", "weighRisks", "(III)V"⟩, 11), (⟨"GentleLetters$Risks", "weigh", "(LGentleLetters$Desk;LGentleLetters$Mind;LGentleLetters$Reach;II)V"⟩, 4), (⟨"GentleLetters$Risks", "choose", "(LGentleLetters$Desk;LGentleLetters$Mind;II)V"⟩, 4), (⟨"GentleLetters$Desk", "inTheMean", "(II)I"⟩, 20), (⟨"GentleLetters$Desk", "costOfWaiting", "(II)I"⟩, 20), (⟨"GentleLetters$Week", "reckon", "(LGentleLetters$Desk;I)V"⟩, 10)]
theorem lw_r5 : ∀ q ∈ lw_privs_5, lw_okq q := List.forall_mem_cons.mpr ⟨lw_p64, List.forall_mem_cons.mpr ⟨lw_p65, List.forall_mem_cons.mpr ⟨lw_p66, List.forall_mem_cons.mpr ⟨lw_p67, List.forall_mem_cons.mpr ⟨lw_p68, List.forall_mem_cons.mpr ⟨lw_p69, List.forall_mem_cons.mpr ⟨lw_p70, List.forall_mem_cons.mpr ⟨lw_p71, List.forall_mem_cons.mpr ⟨lw_p72, List.forall_mem_cons.mpr ⟨lw_p73, List.forall_mem_cons.mpr ⟨lw_p74, List.forall_mem_cons.mpr ⟨lw_p75, List.forall_mem_cons.mpr ⟨lw_p76, List.forall_mem_cons.mpr ⟨lw_p77, List.forall_mem_cons.mpr ⟨lw_p78, List.forall_mem_cons.mpr ⟨lw_p79, fun _ h => absurd h List.not_mem_nil⟩⟩⟩⟩⟩⟩⟩⟩⟩⟩⟩⟩⟩⟩⟩⟩
theorem lw_p80 : lw_okq (⟨"GentleLetters$Desk", "plansWith", "(III)I"⟩, 20) := ⟨⟨by decide +kernel, by decide +kernel⟩, List.mem_of_getElem? (i := 67) (by decide +kernel), List.mem_of_getElem? (i := 1091) (by decide +kernel), List.mem_of_getElem? (i := 1092) (by decide +kernel)⟩
theorem lw_p81 : lw_okq (⟨"GentleLetters", "reckonWeek", "(II)I"⟩, 11) := ⟨⟨by decide +kernel, by decide +kernel⟩, List.mem_of_getElem? (i := 23) (by decide +kernel), List.mem_of_getElem? (i := 1105) (by decide +kernel), List.mem_of_getElem? (i := 1106) (by decide +kernel)⟩
theorem lw_p82 : lw_okq (⟨"GentleLetters$Desk", "beliefBehindPlan", "(I)I"⟩, 20) := ⟨⟨by decide +kernel, by decide +kernel⟩, List.mem_of_getElem? (i := 67) (by decide +kernel), List.mem_of_getElem? (i := 1113) (by decide +kernel), List.mem_of_getElem? (i := 1114) (by decide +kernel)⟩
theorem lw_p83 : lw_okq (⟨"GentleLetters$Week", "overrule", "(II)V"⟩, 10) := ⟨⟨by decide +kernel, by decide +kernel⟩, List.mem_of_getElem? (i := 232) (by decide +kernel), List.mem_of_getElem? (i := 1118) (by decide +kernel), List.mem_of_getElem? (i := 1119) (by decide +kernel)⟩
theorem lw_p84 : lw_okq (⟨"GentleLetters$Letters", "share", "(LGentleLetters$Desk;I)V"⟩, 4) := ⟨⟨by decide +kernel, by decide +kernel⟩, List.mem_of_getElem? (i := 352) (by decide +kernel), List.mem_of_getElem? (i := 1130) (by decide +kernel), List.mem_of_getElem? (i := 1131) (by decide +kernel)⟩
theorem lw_p85 : lw_okq (⟨"GentleLetters$Letters", "leftByRow", "(LGentleLetters$Desk;I)I"⟩, 4) := ⟨⟨by decide +kernel, by decide +kernel⟩, List.mem_of_getElem? (i := 352) (by decide +kernel), List.mem_of_getElem? (i := 1137) (by decide +kernel), List.mem_of_getElem? (i := 1138) (by decide +kernel)⟩
theorem lw_p86 : lw_okq (⟨"GentleLetters$Letters", "nextRow", "(II)Z"⟩, 4) := ⟨⟨by decide +kernel, by decide +kernel⟩, List.mem_of_getElem? (i := 352) (by decide +kernel), List.mem_of_getElem? (i := 1144) (by decide +kernel), List.mem_of_getElem? (i := 1145) (by decide +kernel)⟩
theorem lw_p87 : lw_okq (⟨"GentleLetters$Desk", "everybody", "()I"⟩, 20) := ⟨⟨by decide +kernel, by decide +kernel⟩, List.mem_of_getElem? (i := 67) (by decide +kernel), List.mem_of_getElem? (i := 1160) (by decide +kernel), List.mem_of_getElem? (i := 1161) (by decide +kernel)⟩
theorem lw_p88 : lw_okq (⟨"GentleLetters$Desk", "knowingAfter", "(II)I"⟩, 20) := ⟨⟨by decide +kernel, by decide +kernel⟩, List.mem_of_getElem? (i := 67) (by decide +kernel), List.mem_of_getElem? (i := 1164) (by decide +kernel), List.mem_of_getElem? (i := 1165) (by decide +kernel)⟩
theorem lw_p89 : lw_okq (⟨"GentleLetters$Desk", "fewestToTell", "()I"⟩, 20) := ⟨⟨by decide +kernel, by decide +kernel⟩, List.mem_of_getElem? (i := 67) (by decide +kernel), List.mem_of_getElem? (i := 1172) (by decide +kernel), List.mem_of_getElem? (i := 1173) (by decide +kernel)⟩
theorem lw_p90 : lw_okq (⟨"GentleLetters$Week", "statesMeant", "(LGentleLetters$Desk;)I"⟩, 10) := ⟨⟨by decide +kernel, by decide +kernel⟩, List.mem_of_getElem? (i := 232) (by decide +kernel), List.mem_of_getElem? (i := 1187) (by decide +kernel), List.mem_of_getElem? (i := 1188) (by decide +kernel)⟩
theorem lw_p91 : lw_okq (⟨"GentleLetters", "changeDesk", "(III)I"⟩, 11) := ⟨⟨by decide +kernel, by decide +kernel⟩, List.mem_of_getElem? (i := 23) (by decide +kernel), List.mem_of_getElem? (i := 1199) (by decide +kernel), List.mem_of_getElem? (i := 1200) (by decide +kernel)⟩
theorem lw_p92 : lw_okq (⟨"GentleLetters$Desk", "valueAt", "(II)I"⟩, 20) := ⟨⟨by decide +kernel, by decide +kernel⟩, List.mem_of_getElem? (i := 67) (by decide +kernel), List.mem_of_getElem? (i := 1203) (by decide +kernel), List.mem_of_getElem? (i := 1204) (by decide +kernel)⟩
theorem lw_p93 : lw_okq (⟨"GentleLetters$Log", "note", "(III)V"⟩, 4) := ⟨⟨by decide +kernel, by decide +kernel⟩, List.mem_of_getElem? (i := 73) (by decide +kernel), List.mem_of_getElem? (i := 1207) (by decide +kernel), List.mem_of_getElem? (i := 1208) (by decide +kernel)⟩
theorem lw_p94 : lw_okq (⟨"GentleLetters$Desk", "put", "(III)V"⟩, 20) := ⟨⟨by decide +kernel, by decide +kernel⟩, List.mem_of_getElem? (i := 67) (by decide +kernel), List.mem_of_getElem? (i := 1211) (by decide +kernel), List.mem_of_getElem? (i := 1212) (by decide +kernel)⟩
theorem lw_p95 : lw_okq (⟨"GentleLetters$Desk", "drawLeak", "(I)I"⟩, 20) := ⟨⟨by decide +kernel, by decide +kernel⟩, List.mem_of_getElem? (i := 67) (by decide +kernel), List.mem_of_getElem? (i := 1235) (by decide +kernel), List.mem_of_getElem? (i := 1236) (by decide +kernel)⟩
def lw_privs_6 : List (MethodName × Nat) := [(⟨"GentleLetters$Desk", "plansWith", "(III)I"⟩, 20), (⟨"GentleLetters", "reckonWeek", "(II)I"⟩, 11), (⟨"GentleLetters$Desk", "beliefBehindPlan", "(I)I"⟩, 20), (⟨"GentleLetters$Week", "overrule", "(II)V"⟩, 10), (⟨"GentleLetters$Letters", "share", "(LGentleLetters$Desk;I)V"⟩, 4), (⟨"GentleLetters$Letters", "leftByRow", "(LGentleLetters$Desk;I)I"⟩, 4), (⟨"GentleLetters$Letters", "nextRow", "(II)Z"⟩, 4), (⟨"GentleLetters$Desk", "everybody", "()I"⟩, 20), (⟨"GentleLetters$Desk", "knowingAfter", "(II)I"⟩, 20), (⟨"GentleLetters$Desk", "fewestToTell", "()I"⟩, 20), (⟨"GentleLetters$Week", "statesMeant", "(LGentleLetters$Desk;)I"⟩, 10), (⟨"GentleLetters", "changeDesk", "(III)I"⟩, 11), (⟨"GentleLetters$Desk", "valueAt", "(II)I"⟩, 20), (⟨"GentleLetters$Log", "note", "(III)V"⟩, 4), (⟨"GentleLetters$Desk", "put", "(III)V"⟩, 20), (⟨"GentleLetters$Desk", "drawLeak", "(I)I"⟩, 20)]
theorem lw_r6 : ∀ q ∈ lw_privs_6, lw_okq q := List.forall_mem_cons.mpr ⟨lw_p80, List.forall_mem_cons.mpr ⟨lw_p81, List.forall_mem_cons.mpr ⟨lw_p82, List.forall_mem_cons.mpr ⟨lw_p83, List.forall_mem_cons.mpr ⟨lw_p84, List.forall_mem_cons.mpr ⟨lw_p85, List.forall_mem_cons.mpr ⟨lw_p86, List.forall_mem_cons.mpr ⟨lw_p87, List.forall_mem_cons.mpr ⟨lw_p88, List.forall_mem_cons.mpr ⟨lw_p89, List.forall_mem_cons.mpr ⟨lw_p90, List.forall_mem_cons.mpr ⟨lw_p91, List.forall_mem_cons.mpr ⟨lw_p92, List.forall_mem_cons.mpr ⟨lw_p93, List.forall_mem_cons.mpr ⟨lw_p94, List.forall_mem_cons.mpr ⟨lw_p95, fun _ h => absurd h List.not_mem_nil⟩⟩⟩⟩⟩⟩⟩⟩⟩⟩⟩⟩⟩⟩⟩⟩
theorem lw_p96 : lw_okq (⟨"GentleLetters$Week", "fillDays", "(LGentleLetters$Desk;)V"⟩, 10) := ⟨⟨by decide +kernel, by decide +kernel⟩, List.mem_of_getElem? (i := 232) (by decide +kernel), List.mem_of_getElem? (i := 1244) (by decide +kernel), List.mem_of_getElem? (i := 1245) (by decide +kernel)⟩
theorem lw_p97 : lw_okq (⟨"GentleLetters", "countRows", "()I"⟩, 11) := ⟨⟨by decide +kernel, by decide +kernel⟩, List.mem_of_getElem? (i := 23) (by decide +kernel), List.mem_of_getElem? (i := 1257) (by decide +kernel), List.mem_of_getElem? (i := 1258) (by decide +kernel)⟩
theorem lw_p98 : lw_okq (⟨"GentleLetters$Row", "begin", "(II)V"⟩, 4) := ⟨⟨by decide +kernel, by decide +kernel⟩, List.mem_of_getElem? (i := 372) (by decide +kernel), List.mem_of_getElem? (i := 1273) (by decide +kernel), List.mem_of_getElem? (i := 1274) (by decide +kernel)⟩
theorem lw_p99 : lw_okq (⟨"GentleLetters$Row", "cut", "(J)J"⟩, 4) := ⟨⟨by decide +kernel, by decide +kernel⟩, List.mem_of_getElem? (i := 372) (by decide +kernel), List.mem_of_getElem? (i := 1284) (by decide +kernel), List.mem_of_getElem? (i := 1285) (by decide +kernel)⟩
theorem lw_p100 : lw_okq (⟨"GentleLetters$Row", "holds", "(II)Z"⟩, 4) := ⟨⟨by decide +kernel, by decide +kernel⟩, List.mem_of_getElem? (i := 372) (by decide +kernel), List.mem_of_getElem? (i := 1292) (by decide +kernel), List.mem_of_getElem? (i := 1293) (by decide +kernel)⟩
theorem lw_p101 : lw_okq (⟨"GentleLettersModel", "advance", "()V"⟩, 29) := ⟨⟨by decide +kernel, by decide +kernel⟩, List.mem_of_getElem? (i := 1297) (by decide +kernel), List.mem_of_getElem? (i := 1418) (by decide +kernel), List.mem_of_getElem? (i := 1419) (by decide +kernel)⟩
theorem lw_p102 : lw_okq (⟨"GentleLettersModel", "see", "(I)I"⟩, 29) := ⟨⟨by decide +kernel, by decide +kernel⟩, List.mem_of_getElem? (i := 1297) (by decide +kernel), List.mem_of_getElem? (i := 1422) (by decide +kernel), List.mem_of_getElem? (i := 1423) (by decide +kernel)⟩
theorem lw_p103 : lw_okq (⟨"GentleLettersModel", "good", "()Z"⟩, 29) := ⟨⟨by decide +kernel, by decide +kernel⟩, List.mem_of_getElem? (i := 1297) (by decide +kernel), List.mem_of_getElem? (i := 1432) (by decide +kernel), List.mem_of_getElem? (i := 1433) (by decide +kernel)⟩
theorem lw_p104 : lw_okq (⟨"GentleLettersModel", "readLine", "()V"⟩, 29) := ⟨⟨by decide +kernel, by decide +kernel⟩, List.mem_of_getElem? (i := 1297) (by decide +kernel), List.mem_of_getElem? (i := 1436) (by decide +kernel), List.mem_of_getElem? (i := 1437) (by decide +kernel)⟩
theorem lw_p105 : lw_okq (⟨"GentleLettersModel", "readFirst", "()V"⟩, 29) := ⟨⟨by decide +kernel, by decide +kernel⟩, List.mem_of_getElem? (i := 1297) (by decide +kernel), List.mem_of_getElem? (i := 1440) (by decide +kernel), List.mem_of_getElem? (i := 1441) (by decide +kernel)⟩
theorem lw_p106 : lw_okq (⟨"GentleLettersModel", "needs", "(Ljava/lang/String;)V"⟩, 29) := ⟨⟨by decide +kernel, by decide +kernel⟩, List.mem_of_getElem? (i := 1297) (by decide +kernel), List.mem_of_getElem? (i := 1445) (by decide +kernel), List.mem_of_getElem? (i := 1446) (by decide +kernel)⟩
theorem lw_p107 : lw_okq (⟨"GentleLettersModel", "takes", "(Ljava/lang/String;)Z"⟩, 29) := ⟨⟨by decide +kernel, by decide +kernel⟩, List.mem_of_getElem? (i := 1297) (by decide +kernel), List.mem_of_getElem? (i := 1449) (by decide +kernel), List.mem_of_getElem? (i := 1450) (by decide +kernel)⟩
theorem lw_p108 : lw_okq (⟨"GentleLettersModel", "is", "(Ljava/lang/String;)Z"⟩, 29) := ⟨⟨by decide +kernel, by decide +kernel⟩, List.mem_of_getElem? (i := 1297) (by decide +kernel), List.mem_of_getElem? (i := 1453) (by decide +kernel), List.mem_of_getElem? (i := 1454) (by decide +kernel)⟩
theorem lw_p109 : lw_okq (⟨"GentleLettersModel", "errs", "(I)V"⟩, 29) := ⟨⟨by decide +kernel, by decide +kernel⟩, List.mem_of_getElem? (i := 1297) (by decide +kernel), List.mem_of_getElem? (i := 1459) (by decide +kernel), List.mem_of_getElem? (i := 1460) (by decide +kernel)⟩
theorem lw_p110 : lw_okq (⟨"GentleLettersModel", "told", "(Ljava/lang/String;II)I"⟩, 29) := ⟨⟨by decide +kernel, by decide +kernel⟩, List.mem_of_getElem? (i := 1297) (by decide +kernel), List.mem_of_getElem? (i := 1464) (by decide +kernel), List.mem_of_getElem? (i := 1465) (by decide +kernel)⟩
theorem lw_p111 : lw_okq (⟨"GentleLettersModel", "number", "(II)I"⟩, 29) := ⟨⟨by decide +kernel, by decide +kernel⟩, List.mem_of_getElem? (i := 1297) (by decide +kernel), List.mem_of_getElem? (i := 1468) (by decide +kernel), List.mem_of_getElem? (i := 1469) (by decide +kernel)⟩
def lw_privs_7 : List (MethodName × Nat) := [(⟨"GentleLetters$Week", "fillDays", "(LGentleLetters$Desk;)V"⟩, 10), (⟨"GentleLetters", "countRows", "()I"⟩, 11), (⟨"GentleLetters$Row", "begin", "(II)V"⟩, 4), (⟨"GentleLetters$Row", "cut", "(J)J"⟩, 4), (⟨"GentleLetters$Row", "holds", "(II)Z"⟩, 4), (⟨"GentleLettersModel", "advance", "()V"⟩, 29), (⟨"GentleLettersModel", "see", "(I)I"⟩, 29), (⟨"GentleLettersModel", "good", "()Z"⟩, 29), (⟨"GentleLettersModel", "readLine", "()V"⟩, 29), (⟨"GentleLettersModel", "readFirst", "()V"⟩, 29), (⟨"GentleLettersModel", "needs", "(Ljava/lang/String;)V"⟩, 29), (⟨"GentleLettersModel", "takes", "(Ljava/lang/String;)Z"⟩, 29), (⟨"GentleLettersModel", "is", "(Ljava/lang/String;)Z"⟩, 29), (⟨"GentleLettersModel", "errs", "(I)V"⟩, 29), (⟨"GentleLettersModel", "told", "(Ljava/lang/String;II)I"⟩, 29), (⟨"GentleLettersModel", "number", "(II)I"⟩, 29)]
theorem lw_r7 : ∀ q ∈ lw_privs_7, lw_okq q := List.forall_mem_cons.mpr ⟨lw_p96, List.forall_mem_cons.mpr ⟨lw_p97, List.forall_mem_cons.mpr ⟨lw_p98, List.forall_mem_cons.mpr ⟨lw_p99, List.forall_mem_cons.mpr ⟨lw_p100, List.forall_mem_cons.mpr ⟨lw_p101, List.forall_mem_cons.mpr ⟨lw_p102, List.forall_mem_cons.mpr ⟨lw_p103, List.forall_mem_cons.mpr ⟨lw_p104, List.forall_mem_cons.mpr ⟨lw_p105, List.forall_mem_cons.mpr ⟨lw_p106, List.forall_mem_cons.mpr ⟨lw_p107, List.forall_mem_cons.mpr ⟨lw_p108, List.forall_mem_cons.mpr ⟨lw_p109, List.forall_mem_cons.mpr ⟨lw_p110, List.forall_mem_cons.mpr ⟨lw_p111, fun _ h => absurd h List.not_mem_nil⟩⟩⟩⟩⟩⟩⟩⟩⟩⟩⟩⟩⟩⟩⟩⟩
theorem lw_p112 : lw_okq (⟨"GentleLettersModel", "freshState", "()I"⟩, 29) := ⟨⟨by decide +kernel, by decide +kernel⟩, List.mem_of_getElem? (i := 1297) (by decide +kernel), List.mem_of_getElem? (i := 1473) (by decide +kernel), List.mem_of_getElem? (i := 1474) (by decide +kernel)⟩
theorem lw_p113 : lw_okq (⟨"GentleLettersModel", "readNext", "()V"⟩, 29) := ⟨⟨by decide +kernel, by decide +kernel⟩, List.mem_of_getElem? (i := 1297) (by decide +kernel), List.mem_of_getElem? (i := 1480) (by decide +kernel), List.mem_of_getElem? (i := 1481) (by decide +kernel)⟩
theorem lw_p114 : lw_okq (⟨"GentleLettersModel", "readHearer", "()V"⟩, 29) := ⟨⟨by decide +kernel, by decide +kernel⟩, List.mem_of_getElem? (i := 1297) (by decide +kernel), List.mem_of_getElem? (i := 1490) (by decide +kernel), List.mem_of_getElem? (i := 1491) (by decide +kernel)⟩
theorem lw_p115 : lw_okq (⟨"GentleLettersModel", "readWord", "()V"⟩, 29) := ⟨⟨by decide +kernel, by decide +kernel⟩, List.mem_of_getElem? (i := 1297) (by decide +kernel), List.mem_of_getElem? (i := 1496) (by decide +kernel), List.mem_of_getElem? (i := 1497) (by decide +kernel)⟩
theorem lw_p116 : lw_okq (⟨"GentleLettersModel", "readPlan", "()V"⟩, 29) := ⟨⟨by decide +kernel, by decide +kernel⟩, List.mem_of_getElem? (i := 1297) (by decide +kernel), List.mem_of_getElem? (i := 1502) (by decide +kernel), List.mem_of_getElem? (i := 1503) (by decide +kernel)⟩
theorem lw_p117 : lw_okq (⟨"GentleLettersModel", "readNews", "()V"⟩, 29) := ⟨⟨by decide +kernel, by decide +kernel⟩, List.mem_of_getElem? (i := 1297) (by decide +kernel), List.mem_of_getElem? (i := 1506) (by decide +kernel), List.mem_of_getElem? (i := 1507) (by decide +kernel)⟩
theorem lw_p118 : lw_okq (⟨"GentleLettersModel", "readTells", "()V"⟩, 29) := ⟨⟨by decide +kernel, by decide +kernel⟩, List.mem_of_getElem? (i := 1297) (by decide +kernel), List.mem_of_getElem? (i := 1512) (by decide +kernel), List.mem_of_getElem? (i := 1513) (by decide +kernel)⟩
theorem lw_p119 : lw_okq (⟨"GentleLettersModel", "isState", "(I)Z"⟩, 29) := ⟨⟨by decide +kernel, by decide +kernel⟩, List.mem_of_getElem? (i := 1297) (by decide +kernel), List.mem_of_getElem? (i := 1520) (by decide +kernel), List.mem_of_getElem? (i := 1521) (by decide +kernel)⟩
theorem lw_p120 : lw_okq (⟨"GentleLettersModel", "isHearer", "(I)Z"⟩, 29) := ⟨⟨by decide +kernel, by decide +kernel⟩, List.mem_of_getElem? (i := 1297) (by decide +kernel), List.mem_of_getElem? (i := 1528) (by decide +kernel), List.mem_of_getElem? (i := 1529) (by decide +kernel)⟩
theorem lw_p121 : lw_okq (⟨"GentleLettersModel", "reckonsOf", "(I)I"⟩, 29) := ⟨⟨by decide +kernel, by decide +kernel⟩, List.mem_of_getElem? (i := 1297) (by decide +kernel), List.mem_of_getElem? (i := 1532) (by decide +kernel), List.mem_of_getElem? (i := 1533) (by decide +kernel)⟩
theorem lw_p122 : lw_okq (⟨"GentleLettersModel", "thinksOf", "(II)I"⟩, 29) := ⟨⟨by decide +kernel, by decide +kernel⟩, List.mem_of_getElem? (i := 1297) (by decide +kernel), List.mem_of_getElem? (i := 1536) (by decide +kernel), List.mem_of_getElem? (i := 1537) (by decide +kernel)⟩
theorem lw_p123 : lw_okq (⟨"GentleLettersModel", "isWord", "(J)Z"⟩, 29) := ⟨⟨by decide +kernel, by decide +kernel⟩, List.mem_of_getElem? (i := 1297) (by decide +kernel), List.mem_of_getElem? (i := 1544) (by decide +kernel), List.mem_of_getElem? (i := 1545) (by decide +kernel)⟩
theorem lw_p124 : lw_okq (⟨"GentleLettersModel", "isTrue", "(I)Z"⟩, 29) := ⟨⟨by decide +kernel, by decide +kernel⟩, List.mem_of_getElem? (i := 1297) (by decide +kernel), List.mem_of_getElem? (i := 1548) (by decide +kernel), List.mem_of_getElem? (i := 1549) (by decide +kernel)⟩
theorem lw_p125 : lw_okq (⟨"GentleLettersModel", "statesOf", "(I)I"⟩, 29) := ⟨⟨by decide +kernel, by decide +kernel⟩, List.mem_of_getElem? (i := 1297) (by decide +kernel), List.mem_of_getElem? (i := 1552) (by decide +kernel), List.mem_of_getElem? (i := 1553) (by decide +kernel)⟩
theorem lw_p126 : lw_okq (⟨"GentleLettersModel", "isPlan", "(I)Z"⟩, 29) := ⟨⟨by decide +kernel, by decide +kernel⟩, List.mem_of_getElem? (i := 1297) (by decide +kernel), List.mem_of_getElem? (i := 1563) (by decide +kernel), List.mem_of_getElem? (i := 1564) (by decide +kernel)⟩
theorem lw_p127 : lw_okq (⟨"GentleLettersModel", "planMany", "(I)I"⟩, 29) := ⟨⟨by decide +kernel, by decide +kernel⟩, List.mem_of_getElem? (i := 1297) (by decide +kernel), List.mem_of_getElem? (i := 1567) (by decide +kernel), List.mem_of_getElem? (i := 1568) (by decide +kernel)⟩
def lw_privs_8 : List (MethodName × Nat) := [(⟨"GentleLettersModel", "freshState", "()I"⟩, 29), (⟨"GentleLettersModel", "readNext", "()V"⟩, 29), (⟨"GentleLettersModel", "readHearer", "()V"⟩, 29), (⟨"GentleLettersModel", "readWord", "()V"⟩, 29), (⟨"GentleLettersModel", "readPlan", "()V"⟩, 29), (⟨"GentleLettersModel", "readNews", "()V"⟩, 29), (⟨"GentleLettersModel", "readTells", "()V"⟩, 29), (⟨"GentleLettersModel", "isState", "(I)Z"⟩, 29), (⟨"GentleLettersModel", "isHearer", "(I)Z"⟩, 29), (⟨"GentleLettersModel", "reckonsOf", "(I)I"⟩, 29), (⟨"GentleLettersModel", "thinksOf", "(II)I"⟩, 29), (⟨"GentleLettersModel", "isWord", "(J)Z"⟩, 29), (⟨"GentleLettersModel", "isTrue", "(I)Z"⟩, 29), (⟨"GentleLettersModel", "statesOf", "(I)I"⟩, 29), (⟨"GentleLettersModel", "isPlan", "(I)Z"⟩, 29), (⟨"GentleLettersModel", "planMany", "(I)I"⟩, 29)]
theorem lw_r8 : ∀ q ∈ lw_privs_8, lw_okq q := List.forall_mem_cons.mpr ⟨lw_p112, List.forall_mem_cons.mpr ⟨lw_p113, List.forall_mem_cons.mpr ⟨lw_p114, List.forall_mem_cons.mpr ⟨lw_p115, List.forall_mem_cons.mpr ⟨lw_p116, List.forall_mem_cons.mpr ⟨lw_p117, List.forall_mem_cons.mpr ⟨lw_p118, List.forall_mem_cons.mpr ⟨lw_p119, List.forall_mem_cons.mpr ⟨lw_p120, List.forall_mem_cons.mpr ⟨lw_p121, List.forall_mem_cons.mpr ⟨lw_p122, List.forall_mem_cons.mpr ⟨lw_p123, List.forall_mem_cons.mpr ⟨lw_p124, List.forall_mem_cons.mpr ⟨lw_p125, List.forall_mem_cons.mpr ⟨lw_p126, List.forall_mem_cons.mpr ⟨lw_p127, fun _ h => absurd h List.not_mem_nil⟩⟩⟩⟩⟩⟩⟩⟩⟩⟩⟩⟩⟩⟩⟩⟩
theorem lw_p128 : lw_okq (⟨"GentleLettersModel", "planWord", "(II)I"⟩, 29) := ⟨⟨by decide +kernel, by decide +kernel⟩, List.mem_of_getElem? (i := 1297) (by decide +kernel), List.mem_of_getElem? (i := 1571) (by decide +kernel), List.mem_of_getElem? (i := 1572) (by decide +kernel)⟩
theorem lw_p129 : lw_okq (⟨"GentleLettersModel", "isBelief", "(I)Z"⟩, 29) := ⟨⟨by decide +kernel, by decide +kernel⟩, List.mem_of_getElem? (i := 1297) (by decide +kernel), List.mem_of_getElem? (i := 1587) (by decide +kernel), List.mem_of_getElem? (i := 1588) (by decide +kernel)⟩
theorem lw_p130 : lw_okq (⟨"GentleLettersModel", "isDesk", "()Z"⟩, 29) := ⟨⟨by decide +kernel, by decide +kernel⟩, List.mem_of_getElem? (i := 1297) (by decide +kernel), List.mem_of_getElem? (i := 1591) (by decide +kernel), List.mem_of_getElem? (i := 1592) (by decide +kernel)⟩
theorem lw_p131 : lw_okq (⟨"GentleLettersModel", "allStates", "()I"⟩, 29) := ⟨⟨by decide +kernel, by decide +kernel⟩, List.mem_of_getElem? (i := 1297) (by decide +kernel), List.mem_of_getElem? (i := 1595) (by decide +kernel), List.mem_of_getElem? (i := 1596) (by decide +kernel)⟩
theorem lw_p132 : lw_okq (⟨"GentleLettersModel", "meanOf", "(II)I"⟩, 29) := ⟨⟨by decide +kernel, by decide +kernel⟩, List.mem_of_getElem? (i := 1297) (by decide +kernel), List.mem_of_getElem? (i := 1599) (by decide +kernel), List.mem_of_getElem? (i := 1600) (by decide +kernel)⟩
theorem lw_p133 : lw_okq (⟨"GentleLettersModel", "chanceOf", "(IIII)I"⟩, 29) := ⟨⟨by decide +kernel, by decide +kernel⟩, List.mem_of_getElem? (i := 1297) (by decide +kernel), List.mem_of_getElem? (i := 1610) (by decide +kernel), List.mem_of_getElem? (i := 1611) (by decide +kernel)⟩
theorem lw_p134 : lw_okq (⟨"GentleLettersModel", "isTold", "(J)Z"⟩, 29) := ⟨⟨by decide +kernel, by decide +kernel⟩, List.mem_of_getElem? (i := 1297) (by decide +kernel), List.mem_of_getElem? (i := 1624) (by decide +kernel), List.mem_of_getElem? (i := 1625) (by decide +kernel)⟩
theorem lw_p135 : lw_okq (⟨"GentleLettersModel", "behindOf", "(II)I"⟩, 29) := ⟨⟨by decide +kernel, by decide +kernel⟩, List.mem_of_getElem? (i := 1297) (by decide +kernel), List.mem_of_getElem? (i := 1629) (by decide +kernel), List.mem_of_getElem? (i := 1630) (by decide +kernel)⟩
theorem lw_p136 : lw_okq (⟨"GentleLettersModel", "hurtOf", "(III)I"⟩, 29) := ⟨⟨by decide +kernel, by decide +kernel⟩, List.mem_of_getElem? (i := 1297) (by decide +kernel), List.mem_of_getElem? (i := 1637) (by decide +kernel), List.mem_of_getElem? (i := 1638) (by decide +kernel)⟩
theorem lw_p137 : lw_okq (⟨"GentleLettersModel", "rise", "(III)I"⟩, 29) := ⟨⟨by decide +kernel, by decide +kernel⟩, List.mem_of_getElem? (i := 1297) (by decide +kernel), List.mem_of_getElem? (i := 1641) (by decide +kernel), List.mem_of_getElem? (i := 1642) (by decide +kernel)⟩
theorem lw_p138 : lw_okq (⟨"GentleLettersModel", "asksWeek", "(IZ)I"⟩, 29) := ⟨⟨by decide +kernel, by decide +kernel⟩, List.mem_of_getElem? (i := 1297) (by decide +kernel), List.mem_of_getElem? (i := 1653) (by decide +kernel), List.mem_of_getElem? (i := 1654) (by decide +kernel)⟩
theorem lw_p139 : lw_okq (⟨"GentleLettersModel", "numberAt", "(II)J"⟩, 29) := ⟨⟨by decide +kernel, by decide +kernel⟩, List.mem_of_getElem? (i := 1297) (by decide +kernel), List.mem_of_getElem? (i := 1661) (by decide +kernel), List.mem_of_getElem? (i := 1662) (by decide +kernel)⟩
theorem lw_p140 : lw_okq (⟨"GentleLettersModel", "toldAt", "(II)I"⟩, 29) := ⟨⟨by decide +kernel, by decide +kernel⟩, List.mem_of_getElem? (i := 1297) (by decide +kernel), List.mem_of_getElem? (i := 1665) (by decide +kernel), List.mem_of_getElem? (i := 1666) (by decide +kernel)⟩
theorem lw_p141 : lw_okq (⟨"GentleLettersModel", "weekOf", "(III)I"⟩, 29) := ⟨⟨by decide +kernel, by decide +kernel⟩, List.mem_of_getElem? (i := 1297) (by decide +kernel), List.mem_of_getElem? (i := 1673) (by decide +kernel), List.mem_of_getElem? (i := 1674) (by decide +kernel)⟩
theorem lw_p142 : lw_okq (⟨"GentleLettersModel", "leftOf", "(III)I"⟩, 29) := ⟨⟨by decide +kernel, by decide +kernel⟩, List.mem_of_getElem? (i := 1297) (by decide +kernel), List.mem_of_getElem? (i := 1678) (by decide +kernel), List.mem_of_getElem? (i := 1679) (by decide +kernel)⟩
theorem lw_p143 : lw_okq (⟨"GentleLettersModel", "shameOf", "(I)I"⟩, 29) := ⟨⟨by decide +kernel, by decide +kernel⟩, List.mem_of_getElem? (i := 1297) (by decide +kernel), List.mem_of_getElem? (i := 1699) (by decide +kernel), List.mem_of_getElem? (i := 1700) (by decide +kernel)⟩
def lw_privs_9 : List (MethodName × Nat) := [(⟨"GentleLettersModel", "planWord", "(II)I"⟩, 29), (⟨"GentleLettersModel", "isBelief", "(I)Z"⟩, 29), (⟨"GentleLettersModel", "isDesk", "()Z"⟩, 29), (⟨"GentleLettersModel", "allStates", "()I"⟩, 29), (⟨"GentleLettersModel", "meanOf", "(II)I"⟩, 29), (⟨"GentleLettersModel", "chanceOf", "(IIII)I"⟩, 29), (⟨"GentleLettersModel", "isTold", "(J)Z"⟩, 29), (⟨"GentleLettersModel", "behindOf", "(II)I"⟩, 29), (⟨"GentleLettersModel", "hurtOf", "(III)I"⟩, 29), (⟨"GentleLettersModel", "rise", "(III)I"⟩, 29), (⟨"GentleLettersModel", "asksWeek", "(IZ)I"⟩, 29), (⟨"GentleLettersModel", "numberAt", "(II)J"⟩, 29), (⟨"GentleLettersModel", "toldAt", "(II)I"⟩, 29), (⟨"GentleLettersModel", "weekOf", "(III)I"⟩, 29), (⟨"GentleLettersModel", "leftOf", "(III)I"⟩, 29), (⟨"GentleLettersModel", "shameOf", "(I)I"⟩, 29)]
theorem lw_r9 : ∀ q ∈ lw_privs_9, lw_okq q := List.forall_mem_cons.mpr ⟨lw_p128, List.forall_mem_cons.mpr ⟨lw_p129, List.forall_mem_cons.mpr ⟨lw_p130, List.forall_mem_cons.mpr ⟨lw_p131, List.forall_mem_cons.mpr ⟨lw_p132, List.forall_mem_cons.mpr ⟨lw_p133, List.forall_mem_cons.mpr ⟨lw_p134, List.forall_mem_cons.mpr ⟨lw_p135, List.forall_mem_cons.mpr ⟨lw_p136, List.forall_mem_cons.mpr ⟨lw_p137, List.forall_mem_cons.mpr ⟨lw_p138, List.forall_mem_cons.mpr ⟨lw_p139, List.forall_mem_cons.mpr ⟨lw_p140, List.forall_mem_cons.mpr ⟨lw_p141, List.forall_mem_cons.mpr ⟨lw_p142, List.forall_mem_cons.mpr ⟨lw_p143, fun _ h => absurd h List.not_mem_nil⟩⟩⟩⟩⟩⟩⟩⟩⟩⟩⟩⟩⟩⟩⟩⟩
theorem lw_p144 : lw_okq (⟨"GentleLettersModel", "reallySet", "()I"⟩, 29) := ⟨⟨by decide +kernel, by decide +kernel⟩, List.mem_of_getElem? (i := 1297) (by decide +kernel), List.mem_of_getElem? (i := 1707) (by decide +kernel), List.mem_of_getElem? (i := 1708) (by decide +kernel)⟩
theorem lw_p145 : lw_okq (⟨"GentleLettersModel", "weekBy", "(II)I"⟩, 29) := ⟨⟨by decide +kernel, by decide +kernel⟩, List.mem_of_getElem? (i := 1297) (by decide +kernel), List.mem_of_getElem? (i := 1715) (by decide +kernel), List.mem_of_getElem? (i := 1716) (by decide +kernel)⟩
theorem lw_p146 : lw_okq (⟨"GentleLettersModel", "fill", "(III)V"⟩, 29) := ⟨⟨by decide +kernel, by decide +kernel⟩, List.mem_of_getElem? (i := 1297) (by decide +kernel), List.mem_of_getElem? (i := 1719) (by decide +kernel), List.mem_of_getElem? (i := 1720) (by decide +kernel)⟩
theorem lw_p147 : lw_okq (⟨"GentleLettersModel", "bestWord", "(II)I"⟩, 29) := ⟨⟨by decide +kernel, by decide +kernel⟩, List.mem_of_getElem? (i := 1297) (by decide +kernel), List.mem_of_getElem? (i := 1725) (by decide +kernel), List.mem_of_getElem? (i := 1726) (by decide +kernel)⟩
theorem lw_p148 : lw_okq (⟨"GentleLettersModel", "by", "(III)I"⟩, 29) := ⟨⟨by decide +kernel, by decide +kernel⟩, List.mem_of_getElem? (i := 1297) (by decide +kernel), List.mem_of_getElem? (i := 1729) (by decide +kernel), List.mem_of_getElem? (i := 1730) (by decide +kernel)⟩
theorem lw_p149 : lw_okq (⟨"GentleLettersModel", "mixed", "(II)I"⟩, 29) := ⟨⟨by decide +kernel, by decide +kernel⟩, List.mem_of_getElem? (i := 1297) (by decide +kernel), List.mem_of_getElem? (i := 1733) (by decide +kernel), List.mem_of_getElem? (i := 1734) (by decide +kernel)⟩
theorem lw_p150 : lw_okq (⟨"GentleLettersModel", "isDay", "(I)Z"⟩, 29) := ⟨⟨by decide +kernel, by decide +kernel⟩, List.mem_of_getElem? (i := 1297) (by decide +kernel), List.mem_of_getElem? (i := 1741) (by decide +kernel), List.mem_of_getElem? (i := 1742) (by decide +kernel)⟩
theorem lw_p151 : lw_okq (⟨"GentleLettersModel", "wordBy", "(III)I"⟩, 29) := ⟨⟨by decide +kernel, by decide +kernel⟩, List.mem_of_getElem? (i := 1297) (by decide +kernel), List.mem_of_getElem? (i := 1745) (by decide +kernel), List.mem_of_getElem? (i := 1746) (by decide +kernel)⟩
theorem lw_p152 : lw_okq (⟨"GentleLettersModel", "wordWithin", "(III)I"⟩, 29) := ⟨⟨by decide +kernel, by decide +kernel⟩, List.mem_of_getElem? (i := 1297) (by decide +kernel), List.mem_of_getElem? (i := 1749) (by decide +kernel), List.mem_of_getElem? (i := 1750) (by decide +kernel)⟩
theorem lw_p153 : lw_okq (⟨"GentleLettersModel", "asksOrder", "(II)I"⟩, 29) := ⟨⟨by decide +kernel, by decide +kernel⟩, List.mem_of_getElem? (i := 1297) (by decide +kernel), List.mem_of_getElem? (i := 1821) (by decide +kernel), List.mem_of_getElem? (i := 1822) (by decide +kernel)⟩
theorem lw_p154 : lw_okq (⟨"GentleLettersModel", "findOrder", "(II)V"⟩, 29) := ⟨⟨by decide +kernel, by decide +kernel⟩, List.mem_of_getElem? (i := 1297) (by decide +kernel), List.mem_of_getElem? (i := 1825) (by decide +kernel), List.mem_of_getElem? (i := 1826) (by decide +kernel)⟩
theorem lw_p155 : lw_okq (⟨"GentleLettersModel", "leftInOrder", "(II)I"⟩, 29) := ⟨⟨by decide +kernel, by decide +kernel⟩, List.mem_of_getElem? (i := 1297) (by decide +kernel), List.mem_of_getElem? (i := 1829) (by decide +kernel), List.mem_of_getElem? (i := 1830) (by decide +kernel)⟩
theorem lw_p156 : lw_okq (⟨"GentleLettersModel", "nextOrder", "(I)Z"⟩, 29) := ⟨⟨by decide +kernel, by decide +kernel⟩, List.mem_of_getElem? (i := 1297) (by decide +kernel), List.mem_of_getElem? (i := 1833) (by decide +kernel), List.mem_of_getElem? (i := 1834) (by decide +kernel)⟩
theorem lw_p157 : lw_okq (⟨"GentleLettersModel", "swap", "(II)V"⟩, 29) := ⟨⟨by decide +kernel, by decide +kernel⟩, List.mem_of_getElem? (i := 1297) (by decide +kernel), List.mem_of_getElem? (i := 1837) (by decide +kernel), List.mem_of_getElem? (i := 1838) (by decide +kernel)⟩
theorem lw_p158 : lw_okq (⟨"GentleLettersModel", "soonOn", "(II)I"⟩, 29) := ⟨⟨by decide +kernel, by decide +kernel⟩, List.mem_of_getElem? (i := 1297) (by decide +kernel), List.mem_of_getElem? (i := 1870) (by decide +kernel), List.mem_of_getElem? (i := 1871) (by decide +kernel)⟩
theorem lw_p159 : lw_okq (⟨"GentleLettersModel", "suspectsOf", "(II)I"⟩, 29) := ⟨⟨by decide +kernel, by decide +kernel⟩, List.mem_of_getElem? (i := 1297) (by decide +kernel), List.mem_of_getElem? (i := 1878) (by decide +kernel), List.mem_of_getElem? (i := 1879) (by decide +kernel)⟩
def lw_privs_10 : List (MethodName × Nat) := [(⟨"GentleLettersModel", "reallySet", "()I"⟩, 29), (⟨"GentleLettersModel", "weekBy", "(II)I"⟩, 29), (⟨"GentleLettersModel", "fill", "(III)V"⟩, 29), (⟨"GentleLettersModel", "bestWord", "(II)I"⟩, 29), (⟨"GentleLettersModel", "by", "(III)I"⟩, 29), (⟨"GentleLettersModel", "mixed", "(II)I"⟩, 29), (⟨"GentleLettersModel", "isDay", "(I)Z"⟩, 29), (⟨"GentleLettersModel", "wordBy", "(III)I"⟩, 29), (⟨"GentleLettersModel", "wordWithin", "(III)I"⟩, 29), (⟨"GentleLettersModel", "asksOrder", "(II)I"⟩, 29), (⟨"GentleLettersModel", "findOrder", "(II)V"⟩, 29), (⟨"GentleLettersModel", "leftInOrder", "(II)I"⟩, 29), (⟨"GentleLettersModel", "nextOrder", "(I)Z"⟩, 29), (⟨"GentleLettersModel", "swap", "(II)V"⟩, 29), (⟨"GentleLettersModel", "soonOn", "(II)I"⟩, 29), (⟨"GentleLettersModel", "suspectsOf", "(II)I"⟩, 29)]
theorem lw_r10 : ∀ q ∈ lw_privs_10, lw_okq q := List.forall_mem_cons.mpr ⟨lw_p144, List.forall_mem_cons.mpr ⟨lw_p145, List.forall_mem_cons.mpr ⟨lw_p146, List.forall_mem_cons.mpr ⟨lw_p147, List.forall_mem_cons.mpr ⟨lw_p148, List.forall_mem_cons.mpr ⟨lw_p149, List.forall_mem_cons.mpr ⟨lw_p150, List.forall_mem_cons.mpr ⟨lw_p151, List.forall_mem_cons.mpr ⟨lw_p152, List.forall_mem_cons.mpr ⟨lw_p153, List.forall_mem_cons.mpr ⟨lw_p154, List.forall_mem_cons.mpr ⟨lw_p155, List.forall_mem_cons.mpr ⟨lw_p156, List.forall_mem_cons.mpr ⟨lw_p157, List.forall_mem_cons.mpr ⟨lw_p158, List.forall_mem_cons.mpr ⟨lw_p159, fun _ h => absurd h List.not_mem_nil⟩⟩⟩⟩⟩⟩⟩⟩⟩⟩⟩⟩⟩⟩⟩⟩
theorem lw_p160 : lw_okq (⟨"GentleLettersModel", "knewOf", "(II)I"⟩, 29) := ⟨⟨by decide +kernel, by decide +kernel⟩, List.mem_of_getElem? (i := 1297) (by decide +kernel), List.mem_of_getElem? (i := 1886) (by decide +kernel), List.mem_of_getElem? (i := 1887) (by decide +kernel)⟩
theorem lw_p161 : lw_okq (⟨"GentleLettersModel", "endOf", "(I)I"⟩, 29) := ⟨⟨by decide +kernel, by decide +kernel⟩, List.mem_of_getElem? (i := 1297) (by decide +kernel), List.mem_of_getElem? (i := 1894) (by decide +kernel), List.mem_of_getElem? (i := 1895) (by decide +kernel)⟩
theorem lw_p162 : lw_okq (⟨"GentleLettersModel", "areLetters", "(I)Z"⟩, 29) := ⟨⟨by decide +kernel, by decide +kernel⟩, List.mem_of_getElem? (i := 1297) (by decide +kernel), List.mem_of_getElem? (i := 1906) (by decide +kernel), List.mem_of_getElem? (i := 1907) (by decide +kernel)⟩
theorem lw_p163 : lw_okq (⟨"GentleLettersModel", "lettersOf", "(I)I"⟩, 29) := ⟨⟨by decide +kernel, by decide +kernel⟩, List.mem_of_getElem? (i := 1297) (by decide +kernel), List.mem_of_getElem? (i := 1911) (by decide +kernel), List.mem_of_getElem? (i := 1912) (by decide +kernel)⟩
theorem lw_p164 : lw_okq (⟨"GentleLettersModel", "joinedBy", "(I)I"⟩, 29) := ⟨⟨by decide +kernel, by decide +kernel⟩, List.mem_of_getElem? (i := 1297) (by decide +kernel), List.mem_of_getElem? (i := 1915) (by decide +kernel), List.mem_of_getElem? (i := 1916) (by decide +kernel)⟩
theorem lw_p165 : lw_okq (⟨"GentleLettersModel", "leftBy", "(I)I"⟩, 29) := ⟨⟨by decide +kernel, by decide +kernel⟩, List.mem_of_getElem? (i := 1297) (by decide +kernel), List.mem_of_getElem? (i := 1919) (by decide +kernel), List.mem_of_getElem? (i := 1920) (by decide +kernel)⟩
theorem lw_p166 : lw_okq (⟨"GentleLettersModel", "allHearers", "()I"⟩, 29) := ⟨⟨by decide +kernel, by decide +kernel⟩, List.mem_of_getElem? (i := 1297) (by decide +kernel), List.mem_of_getElem? (i := 1935) (by decide +kernel), List.mem_of_getElem? (i := 1936) (by decide +kernel)⟩
theorem lw_p167 : lw_okq (⟨"GentleLettersModel", "heardBy", "(II)I"⟩, 29) := ⟨⟨by decide +kernel, by decide +kernel⟩, List.mem_of_getElem? (i := 1297) (by decide +kernel), List.mem_of_getElem? (i := 1939) (by decide +kernel), List.mem_of_getElem? (i := 1940) (by decide +kernel)⟩
theorem lw_p168 : lw_okq (⟨"GentleLettersModel", "firstOf", "()I"⟩, 29) := ⟨⟨by decide +kernel, by decide +kernel⟩, List.mem_of_getElem? (i := 1297) (by decide +kernel), List.mem_of_getElem? (i := 1947) (by decide +kernel), List.mem_of_getElem? (i := 1948) (by decide +kernel)⟩
theorem lw_p169 : lw_okq (⟨"GentleLettersModel", "readOf", "(I)I"⟩, 29) := ⟨⟨by decide +kernel, by decide +kernel⟩, List.mem_of_getElem? (i := 1297) (by decide +kernel), List.mem_of_getElem? (i := 1959) (by decide +kernel), List.mem_of_getElem? (i := 1960) (by decide +kernel)⟩
theorem lw_p170 : lw_okq (⟨"GentleLettersModel", "change", "(II)I"⟩, 29) := ⟨⟨by decide +kernel, by decide +kernel⟩, List.mem_of_getElem? (i := 1297) (by decide +kernel), List.mem_of_getElem? (i := 1972) (by decide +kernel), List.mem_of_getElem? (i := 1973) (by decide +kernel)⟩
theorem lw_p171 : lw_okq (⟨"GentleLettersModel", "leakBy", "(J)I"⟩, 29) := ⟨⟨by decide +kernel, by decide +kernel⟩, List.mem_of_getElem? (i := 1297) (by decide +kernel), List.mem_of_getElem? (i := 1997) (by decide +kernel), List.mem_of_getElem? (i := 1998) (by decide +kernel)⟩
def lw_privs_11 : List (MethodName × Nat) := [(⟨"GentleLettersModel", "knewOf", "(II)I"⟩, 29), (⟨"GentleLettersModel", "endOf", "(I)I"⟩, 29), (⟨"GentleLettersModel", "areLetters", "(I)Z"⟩, 29), (⟨"GentleLettersModel", "lettersOf", "(I)I"⟩, 29), (⟨"GentleLettersModel", "joinedBy", "(I)I"⟩, 29), (⟨"GentleLettersModel", "leftBy", "(I)I"⟩, 29), (⟨"GentleLettersModel", "allHearers", "()I"⟩, 29), (⟨"GentleLettersModel", "heardBy", "(II)I"⟩, 29), (⟨"GentleLettersModel", "firstOf", "()I"⟩, 29), (⟨"GentleLettersModel", "readOf", "(I)I"⟩, 29), (⟨"GentleLettersModel", "change", "(II)I"⟩, 29), (⟨"GentleLettersModel", "leakBy", "(J)I"⟩, 29)]
theorem lw_r11 : ∀ q ∈ lw_privs_11, lw_okq q := List.forall_mem_cons.mpr ⟨lw_p160, List.forall_mem_cons.mpr ⟨lw_p161, List.forall_mem_cons.mpr ⟨lw_p162, List.forall_mem_cons.mpr ⟨lw_p163, List.forall_mem_cons.mpr ⟨lw_p164, List.forall_mem_cons.mpr ⟨lw_p165, List.forall_mem_cons.mpr ⟨lw_p166, List.forall_mem_cons.mpr ⟨lw_p167, List.forall_mem_cons.mpr ⟨lw_p168, List.forall_mem_cons.mpr ⟨lw_p169, List.forall_mem_cons.mpr ⟨lw_p170, List.forall_mem_cons.mpr ⟨lw_p171, fun _ h => absurd h List.not_mem_nil⟩⟩⟩⟩⟩⟩⟩⟩⟩⟩⟩⟩
def lw_privs : List (MethodName × Nat) := lw_privs_1 ++ (lw_privs_2 ++ (lw_privs_3 ++ (lw_privs_4 ++ (lw_privs_5 ++ (lw_privs_6 ++ (lw_privs_7 ++ (lw_privs_8 ++ (lw_privs_9 ++ (lw_privs_10 ++ (lw_privs_11))))))))))
def lw_tbl : List Cond := k2_sels lw_privs ++ tables_1
theorem lw_privs_ok : ∀ q ∈ lw_privs, lw_okq q := by
  show ∀ q ∈ lw_privs_1 ++ (lw_privs_2 ++ (lw_privs_3 ++ (lw_privs_4 ++ (lw_privs_5 ++ (lw_privs_6 ++ (lw_privs_7 ++ (lw_privs_8 ++ (lw_privs_9 ++ (lw_privs_10 ++ (lw_privs_11)))))))))), lw_okq q
  exact List.forall_mem_append.mpr ⟨lw_r1, List.forall_mem_append.mpr ⟨lw_r2, List.forall_mem_append.mpr ⟨lw_r3, List.forall_mem_append.mpr ⟨lw_r4, List.forall_mem_append.mpr ⟨lw_r5, List.forall_mem_append.mpr ⟨lw_r6, List.forall_mem_append.mpr ⟨lw_r7, List.forall_mem_append.mpr ⟨lw_r8, List.forall_mem_append.mpr ⟨lw_r9, List.forall_mem_append.mpr ⟨lw_r10, lw_r11⟩⟩⟩⟩⟩⟩⟩⟩⟩⟩
-- ===== end of PART A; then your names; then what follows =====
end
section
/-! ===== BEGIN words of one list among another's, by their places ===== -/
theorem goodIn_r {big : List Cond} (ws : List Cond) (ps : List Nat) (hp : ws = ps.filterMap (fun i => big[i]?)) (h : ws.all goodWord = true) : GoodIn big ws := by
  intro w hw
  have h1 := List.all_eq_true.mp h w hw
  rw [hp] at hw
  obtain ⟨i, -, hi⟩ := List.mem_filterMap.mp hw
  have hm : w ∈ big := by first | exact List.mem_of_getElem? hi | exact List.getElem?_mem hi
  exact ⟨hm, good_of_word h1⟩
theorem goodIn_app {big a b : List Cond} (ha : GoodIn big a) (hb : GoodIn big b) : GoodIn big (a ++ b) := fun w h => (List.mem_append.mp h).elim (ha w) (hb w)
theorem goodIn_ca {big a b : List Cond} {c : Cond} (ha : GoodIn big (c :: a)) (hb : GoodIn big b) : GoodIn big (c :: (a ++ b)) := fun w h => (List.mem_cons.mp h).elim (fun e => ha w (List.mem_cons.mpr (Or.inl e))) (fun h => (List.mem_append.mp h).elim (fun h => ha w (List.mem_cons.mpr (Or.inr h))) (hb w))
theorem goodIn_sub {big ws : List Cond} (hm : ∀ w ∈ ws, w ∈ big) (h : ws.all goodWord = true) : GoodIn big ws := fun w hw => ⟨hm w hw, good_of_word (List.all_eq_true.mp h w hw)⟩
/-! ===== END ===== -/

/-! ===== BEGIN printed: names, fields, word lists, decode rows ===== -/
def RX0 : String := "GentleLetters$Desk"
def TX0 : u_T := fun k => match k with
  | 0 => ("GentleLetters$Desk", "states", "I", false)
  | 1 => ("GentleLetters$Desk", "really", "I", false)
  | 2 => ("GentleLetters$Desk", "days", "I", false)
  | 3 => ("GentleLetters$Desk", "heal", "I", false)
  | 4 => ("GentleLetters$Desk", "leak", "I", false)
  | 5 => ("GentleLetters$Desk", "lines", "I", false)
  | 6 => ("GentleLetters$Desk", "hearers", "I", false)
  | 7 => ("GentleLetters$Desk", "words", "I", false)
  | 8 => ("GentleLetters$Desk", "plans", "I", false)
  | 9 => ("GentleLetters$Desk", "news", "I", false)
  | 10 => ("GentleLetters$Desk", "grades", "[I", true)
  | 11 => ("GentleLetters$Desk", "thoughts", "[I", true)
  | 12 => ("GentleLetters$Desk", "reckonings", "[I", true)
  | 13 => ("GentleLetters$Desk", "told", "[I", true)
  | 14 => ("GentleLetters$Desk", "shames", "[I", true)
  | 15 => ("GentleLetters$Desk", "meanings", "[I", true)
  | 16 => ("GentleLetters$Desk", "planSizes", "[I", true)
  | 17 => ("GentleLetters$Desk", "planWords", "[I", true)
  | 18 => ("GentleLetters$Desk", "tidings", "[I", true)
  | _ => ("GentleLetters$Desk", "log", "LGentleLetters$Log;", true)
def tyX0 : Nat → FieldType := fun k => match k with
  | 0 => .int
  | 1 => .int
  | 2 => .int
  | 3 => .int
  | 4 => .int
  | 5 => .int
  | 6 => .int
  | 7 => .int
  | 8 => .int
  | 9 => .int
  | 10 => .array .int
  | 11 => .array .int
  | 12 => .array .int
  | 13 => .array .int
  | 14 => .array .int
  | 15 => .array .int
  | 16 => .array .int
  | 17 => .array .int
  | 18 => .array .int
  | _ => .object "GentleLetters$Log"
abbrev wsX00 : List Cond := u_ws RX0 TX0 20
theorem nmX0 : ∀ a, a < 20 → ∀ b, b < 20 → a ≠ b → (TX0 a).2.1 ≠ (TX0 b).2.1 := by decide +kernel
theorem tyX0_ok : ∀ k, k < 20 → parseFieldDescriptor (TX0 k).2.2.1 = some (tyX0 k) := by decide +kernel
abbrev cX0_init : ByteArray := prog_2_method_1_code
def yX0_init : MethodName := ⟨RX0, "<init>", "()V"⟩
abbrev cX0_clear : ByteArray := prog_2_method_2_code
def yX0_clear : MethodName := ⟨RX0, "clear", "()V"⟩
abbrev cX0_copyFrom : ByteArray := prog_2_method_3_code
def yX0_copyFrom : MethodName := ⟨RX0, "copyFrom", "(LGentleLetters$Desk;)V"⟩
abbrev cX0_stands : ByteArray := prog_2_method_4_code
def yX0_stands : MethodName := ⟨RX0, "stands", "()Z"⟩
abbrev cX0_hasState : ByteArray := prog_2_method_5_code
def yX0_hasState : MethodName := ⟨RX0, "hasState", "(I)Z"⟩
abbrev cX0_hasDay : ByteArray := prog_2_method_6_code
def yX0_hasDay : MethodName := ⟨RX0, "hasDay", "(I)Z"⟩
abbrev cX0_hasHearer : ByteArray := prog_2_method_7_code
def yX0_hasHearer : MethodName := ⟨RX0, "hasHearer", "(I)Z"⟩
abbrev cX0_hasWord : ByteArray := prog_2_method_8_code
def yX0_hasWord : MethodName := ⟨RX0, "hasWord", "(I)Z"⟩
abbrev cX0_canTell : ByteArray := prog_2_method_9_code
def yX0_canTell : MethodName := ⟨RX0, "canTell", "(I)Z"⟩
abbrev cX0_hasPlan : ByteArray := prog_2_method_10_code
def yX0_hasPlan : MethodName := ⟨RX0, "hasPlan", "(I)Z"⟩
abbrev cX0_hasNews : ByteArray := prog_2_method_11_code
def yX0_hasNews : MethodName := ⟨RX0, "hasNews", "(I)Z"⟩
abbrev cX0_hasBelief : ByteArray := prog_2_method_12_code
def yX0_hasBelief : MethodName := ⟨RX0, "hasBelief", "(I)Z"⟩
abbrev cX0_everything : ByteArray := prog_2_method_13_code
def yX0_everything : MethodName := ⟨RX0, "everything", "()I"⟩
abbrev cX0_everybody : ByteArray := prog_2_method_14_code
def yX0_everybody : MethodName := ⟨RX0, "everybody", "()I"⟩
abbrev cX0_truth : ByteArray := prog_2_method_15_code
def yX0_truth : MethodName := ⟨RX0, "truth", "()I"⟩
abbrev cX0_thoughtOf : ByteArray := prog_2_method_16_code
def yX0_thoughtOf : MethodName := ⟨RX0, "thoughtOf", "(II)I"⟩
abbrev cX0_isTrue : ByteArray := prog_2_method_17_code
def yX0_isTrue : MethodName := ⟨RX0, "isTrue", "(I)Z"⟩
abbrev cX0_shameOf : ByteArray := prog_2_method_18_code
def yX0_shameOf : MethodName := ⟨RX0, "shameOf", "(I)I"⟩
abbrev cX0_planWord : ByteArray := prog_2_method_19_code
def yX0_planWord : MethodName := ⟨RX0, "planWord", "(II)I"⟩
abbrev cX0_valueAt : ByteArray := prog_2_method_20_code
def yX0_valueAt : MethodName := ⟨RX0, "valueAt", "(II)I"⟩
abbrev cX0_put : ByteArray := prog_2_method_21_code
def yX0_put : MethodName := ⟨RX0, "put", "(III)V"⟩
abbrev cX0_meanOf : ByteArray := prog_2_method_22_code
def yX0_meanOf : MethodName := ⟨RX0, "meanOf", "(II)I"⟩
abbrev cX0_likelihood : ByteArray := prog_2_method_23_code
def yX0_likelihood : MethodName := ⟨RX0, "likelihood", "(IIII)I"⟩
abbrev cX0_commonDivisor : ByteArray := prog_2_method_24_code
def yX0_commonDivisor : MethodName := ⟨RX0, "commonDivisor", "(II)I"⟩
abbrev cX0_nextBelief : ByteArray := prog_2_method_25_code
def yX0_nextBelief : MethodName := ⟨RX0, "nextBelief", "(II)I"⟩
abbrev cX0_hurtBetween : ByteArray := prog_2_method_26_code
def yX0_hurtBetween : MethodName := ⟨RX0, "hurtBetween", "(III)I"⟩
abbrev cX0_hurtAtOnce : ByteArray := prog_2_method_27_code
def yX0_hurtAtOnce : MethodName := ⟨RX0, "hurtAtOnce", "(I)I"⟩
abbrev cX0_leftOf : ByteArray := prog_2_method_28_code
def yX0_leftOf : MethodName := ⟨RX0, "leftOf", "(II)I"⟩
abbrev cX0_inTheMean : ByteArray := prog_2_method_29_code
def yX0_inTheMean : MethodName := ⟨RX0, "inTheMean", "(II)I"⟩
abbrev cX0_costOfWaiting : ByteArray := prog_2_method_30_code
def yX0_costOfWaiting : MethodName := ⟨RX0, "costOfWaiting", "(II)I"⟩
abbrev cX0_sharpest : ByteArray := prog_2_method_31_code
def yX0_sharpest : MethodName := ⟨RX0, "sharpest", "(I)I"⟩
abbrev cX0_beliefBehindPlan : ByteArray := prog_2_method_32_code
def yX0_beliefBehindPlan : MethodName := ⟨RX0, "beliefBehindPlan", "(I)I"⟩
abbrev cX0_plansWith : ByteArray := prog_2_method_33_code
def yX0_plansWith : MethodName := ⟨RX0, "plansWith", "(III)I"⟩
abbrev cX0_knowingAfter : ByteArray := prog_2_method_34_code
def yX0_knowingAfter : MethodName := ⟨RX0, "knowingAfter", "(II)I"⟩
abbrev cX0_fewestToTell : ByteArray := prog_2_method_35_code
def yX0_fewestToTell : MethodName := ⟨RX0, "fewestToTell", "()I"⟩
abbrev cX0_drawLeak : ByteArray := prog_2_method_36_code
def yX0_drawLeak : MethodName := ⟨RX0, "drawLeak", "(I)I"⟩
def RX1 : String := "GentleLetters$DeskReader"
def TX1 : u_T := fun k => match k with
  | 0 => ("GentleLetters$DeskReader", "tape", "LGentleLetters$Tape;", true)
  | 1 => ("GentleLetters$DeskReader", "draft", "LGentleLetters$Desk;", true)
  | 2 => ("GentleLetters$DeskReader", "fault", "I", false)
  | 3 => ("GentleLetters$DeskReader", "place", "I", false)
  | _ => ("GentleLetters$DeskReader", "value", "I", false)
def tyX1 : Nat → FieldType := fun k => match k with
  | 0 => .object "GentleLetters$Tape"
  | 1 => .object "GentleLetters$Desk"
  | 2 => .int
  | 3 => .int
  | _ => .int
abbrev wsX10 : List Cond := u_ws RX1 TX1 5
theorem nmX1 : ∀ a, a < 5 → ∀ b, b < 5 → a ≠ b → (TX1 a).2.1 ≠ (TX1 b).2.1 := by decide +kernel
theorem tyX1_ok : ∀ k, k < 5 → parseFieldDescriptor (TX1 k).2.2.1 = some (tyX1 k) := by decide +kernel
abbrev cX1_init : ByteArray := prog_3_method_1_code
def yX1_init : MethodName := ⟨RX1, "<init>", "()V"⟩
abbrev cX1_readDesk : ByteArray := prog_3_method_2_code
def yX1_readDesk : MethodName := ⟨RX1, "readDesk", "()Z"⟩
abbrev cX1_blame : ByteArray := prog_3_method_3_code
def yX1_blame : MethodName := ⟨RX1, "blame", "(I)Z"⟩
abbrev cX1_takeWord : ByteArray := prog_3_method_4_code
def yX1_takeWord : MethodName := ⟨RX1, "takeWord", "(Ljava/lang/String;)Z"⟩
abbrev cX1_takeSemicolon : ByteArray := prog_3_method_5_code
def yX1_takeSemicolon : MethodName := ⟨RX1, "takeSemicolon", "()Z"⟩
abbrev cX1_findNumber : ByteArray := prog_3_method_6_code
def yX1_findNumber : MethodName := ⟨RX1, "findNumber", "(II)Z"⟩
abbrev cX1_takeNumber : ByteArray := prog_3_method_7_code
def yX1_takeNumber : MethodName := ⟨RX1, "takeNumber", "(II)Z"⟩
abbrev cX1_takeNamed : ByteArray := prog_3_method_8_code
def yX1_takeNamed : MethodName := ⟨RX1, "takeNamed", "(Ljava/lang/String;II)Z"⟩
abbrev cX1_readLine : ByteArray := prog_3_method_9_code
def yX1_readLine : MethodName := ⟨RX1, "readLine", "()Z"⟩
abbrev cX1_readHead : ByteArray := prog_3_method_10_code
def yX1_readHead : MethodName := ⟨RX1, "readHead", "()Z"⟩
abbrev cX1_readGrades : ByteArray := prog_3_method_11_code
def yX1_readGrades : MethodName := ⟨RX1, "readGrades", "()Z"⟩
abbrev cX1_readHearer : ByteArray := prog_3_method_12_code
def yX1_readHearer : MethodName := ⟨RX1, "readHearer", "()Z"⟩
abbrev cX1_readWord : ByteArray := prog_3_method_13_code
def yX1_readWord : MethodName := ⟨RX1, "readWord", "()Z"⟩
abbrev cX1_readPlan : ByteArray := prog_3_method_14_code
def yX1_readPlan : MethodName := ⟨RX1, "readPlan", "()Z"⟩
abbrev cX1_readNews : ByteArray := prog_3_method_15_code
def yX1_readNews : MethodName := ⟨RX1, "readNews", "()Z"⟩
abbrev cX1_readTells : ByteArray := prog_3_method_16_code
def yX1_readTells : MethodName := ⟨RX1, "readTells", "()Z"⟩
def RX2 : String := "GentleLetters$Letters"
def TX2 : u_T := fun k => match k with
  | 0 => ("GentleLetters$Letters", "sharedDays", "[I", true)
  | 1 => ("GentleLetters$Letters", "bestDays", "[I", true)
  | 2 => ("GentleLetters$Letters", "sums", "[I", true)
  | _ => ("GentleLetters$Letters", "least", "I", false)
def tyX2 : Nat → FieldType := fun k => match k with
  | 0 => .array .int
  | 1 => .array .int
  | 2 => .array .int
  | _ => .int
abbrev wsX20 : List Cond := u_ws RX2 TX2 4
theorem nmX2 : ∀ a, a < 4 → ∀ b, b < 4 → a ≠ b → (TX2 a).2.1 ≠ (TX2 b).2.1 := by decide +kernel
theorem tyX2_ok : ∀ k, k < 4 → parseFieldDescriptor (TX2 k).2.2.1 = some (tyX2 k) := by decide +kernel
abbrev cX2_init : ByteArray := prog_4_method_1_code
def yX2_init : MethodName := ⟨RX2, "<init>", "()V"⟩
abbrev cX2_share : ByteArray := prog_4_method_2_code
def yX2_share : MethodName := ⟨RX2, "share", "(LGentleLetters$Desk;I)V"⟩
abbrev cX2_leftByRow : ByteArray := prog_4_method_3_code
def yX2_leftByRow : MethodName := ⟨RX2, "leftByRow", "(LGentleLetters$Desk;I)I"⟩
abbrev cX2_nextRow : ByteArray := prog_4_method_4_code
def yX2_nextRow : MethodName := ⟨RX2, "nextRow", "(II)Z"⟩
def RX3 : String := "GentleLetters$Log"
def TX3 : u_T := fun k => match k with
  | 0 => ("GentleLetters$Log", "kinds", "[I", true)
  | 1 => ("GentleLetters$Log", "places", "[I", true)
  | 2 => ("GentleLetters$Log", "olds", "[I", true)
  | _ => ("GentleLetters$Log", "size", "I", false)
def tyX3 : Nat → FieldType := fun k => match k with
  | 0 => .array .int
  | 1 => .array .int
  | 2 => .array .int
  | _ => .int
abbrev wsX30 : List Cond := u_ws RX3 TX3 4
theorem nmX3 : ∀ a, a < 4 → ∀ b, b < 4 → a ≠ b → (TX3 a).2.1 ≠ (TX3 b).2.1 := by decide +kernel
theorem tyX3_ok : ∀ k, k < 4 → parseFieldDescriptor (TX3 k).2.2.1 = some (tyX3 k) := by decide +kernel
abbrev cX3_init : ByteArray := prog_5_method_1_code
def yX3_init : MethodName := ⟨RX3, "<init>", "()V"⟩
abbrev cX3_note : ByteArray := prog_5_method_2_code
def yX3_note : MethodName := ⟨RX3, "note", "(III)V"⟩
abbrev cX3_takeAll : ByteArray := prog_5_method_3_code
def yX3_takeAll : MethodName := ⟨RX3, "takeAll", "(LGentleLetters$Log;)V"⟩
def RX4 : String := "GentleLetters$Mind"
def TX4 : u_T := fun k => match k with
  | _ => ("GentleLetters$Mind", "means", "[I", true)
def tyX4 : Nat → FieldType := fun k => match k with
  | _ => .array .int
abbrev wsX40 : List Cond := u_ws RX4 TX4 1
theorem nmX4 : ∀ a, a < 1 → ∀ b, b < 1 → a ≠ b → (TX4 a).2.1 ≠ (TX4 b).2.1 := by decide +kernel
theorem tyX4_ok : ∀ k, k < 1 → parseFieldDescriptor (TX4 k).2.2.1 = some (tyX4 k) := by decide +kernel
abbrev cX4_init : ByteArray := prog_6_method_1_code
def yX4_init : MethodName := ⟨RX4, "<init>", "()V"⟩
abbrev cX4_study : ByteArray := prog_6_method_2_code
def yX4_study : MethodName := ⟨RX4, "study", "(LGentleLetters$Desk;I)V"⟩
abbrev cX4_pain : ByteArray := prog_6_method_3_code
def yX4_pain : MethodName := ⟨RX4, "pain", "(II)I"⟩
abbrev cX4_hurtOf : ByteArray := prog_6_method_4_code
def yX4_hurtOf : MethodName := ⟨RX4, "hurtOf", "(I)I"⟩
def RX5 : String := "GentleLetters$Planner"
def TX5 : u_T := fun k => match k with
  | 0 => ("GentleLetters$Planner", "table", "[I", true)
  | 1 => ("GentleLetters$Planner", "firstRow", "[I", true)
  | 2 => ("GentleLetters$Planner", "cost", "I", false)
  | 3 => ("GentleLetters$Planner", "gentle", "Z", false)
  | _ => ("GentleLetters$Planner", "honest", "Z", false)
def tyX5 : Nat → FieldType := fun k => match k with
  | 0 => .array .int
  | 1 => .array .int
  | 2 => .int
  | 3 => .boolean
  | _ => .boolean
abbrev wsX50 : List Cond := u_ws RX5 TX5 5
theorem nmX5 : ∀ a, a < 5 → ∀ b, b < 5 → a ≠ b → (TX5 a).2.1 ≠ (TX5 b).2.1 := by decide +kernel
theorem tyX5_ok : ∀ k, k < 5 → parseFieldDescriptor (TX5 k).2.2.1 = some (tyX5 k) := by decide +kernel
abbrev cX5_init : ByteArray := prog_7_method_1_code
def yX5_init : MethodName := ⟨RX5, "<init>", "()V"⟩
abbrev cX5_solve : ByteArray := prog_7_method_2_code
def yX5_solve : MethodName := ⟨RX5, "solve", "(LGentleLetters$Desk;LGentleLetters$Mind;LGentleLetters$Reach;ZZ)V"⟩
abbrev cX5_costWithDays : ByteArray := prog_7_method_3_code
def yX5_costWithDays : MethodName := ⟨RX5, "costWithDays", "(II)I"⟩
abbrev cX5_leastFrom : ByteArray := prog_7_method_4_code
def yX5_leastFrom : MethodName := ⟨RX5, "leastFrom", "(LGentleLetters$Desk;LGentleLetters$Mind;II)I"⟩
abbrev cX5_costBy : ByteArray := prog_7_method_5_code
def yX5_costBy : MethodName := ⟨RX5, "costBy", "(LGentleLetters$Desk;LGentleLetters$Mind;III)I"⟩
abbrev cX5_findFirstRow : ByteArray := prog_7_method_6_code
def yX5_findFirstRow : MethodName := ⟨RX5, "findFirstRow", "(LGentleLetters$Desk;LGentleLetters$Mind;)V"⟩
abbrev cX5_wordsUsed : ByteArray := prog_7_method_7_code
def yX5_wordsUsed : MethodName := ⟨RX5, "wordsUsed", "(I)I"⟩
def RX6 : String := "GentleLetters$Reach"
def TX6 : u_T := fun k => match k with
  | 0 => ("GentleLetters$Reach", "beliefs", "[I", true)
  | 1 => ("GentleLetters$Reach", "distances", "[I", true)
  | _ => ("GentleLetters$Reach", "size", "I", false)
def tyX6 : Nat → FieldType := fun k => match k with
  | 0 => .array .int
  | 1 => .array .int
  | _ => .int
abbrev wsX60 : List Cond := u_ws RX6 TX6 3
theorem nmX6 : ∀ a, a < 3 → ∀ b, b < 3 → a ≠ b → (TX6 a).2.1 ≠ (TX6 b).2.1 := by decide +kernel
theorem tyX6_ok : ∀ k, k < 3 → parseFieldDescriptor (TX6 k).2.2.1 = some (tyX6 k) := by decide +kernel
abbrev cX6_init : ByteArray := prog_8_method_1_code
def yX6_init : MethodName := ⟨RX6, "<init>", "()V"⟩
abbrev cX6_grow : ByteArray := prog_8_method_2_code
def yX6_grow : MethodName := ⟨RX6, "grow", "(LGentleLetters$Desk;I)V"⟩
abbrev cX6_add : ByteArray := prog_8_method_3_code
def yX6_add : MethodName := ⟨RX6, "add", "(II)V"⟩
def RX7 : String := "GentleLetters$Risks"
def TX7 : u_T := fun k => match k with
  | 0 => ("GentleLetters$Risks", "later", "[I", true)
  | 1 => ("GentleLetters$Risks", "fresh", "[I", true)
  | 2 => ("GentleLetters$Risks", "cost", "I", false)
  | _ => ("GentleLetters$Risks", "word", "I", false)
def tyX7 : Nat → FieldType := fun k => match k with
  | 0 => .array .int
  | 1 => .array .int
  | 2 => .int
  | _ => .int
abbrev wsX70 : List Cond := u_ws RX7 TX7 4
theorem nmX7 : ∀ a, a < 4 → ∀ b, b < 4 → a ≠ b → (TX7 a).2.1 ≠ (TX7 b).2.1 := by decide +kernel
theorem tyX7_ok : ∀ k, k < 4 → parseFieldDescriptor (TX7 k).2.2.1 = some (tyX7 k) := by decide +kernel
abbrev cX7_init : ByteArray := prog_9_method_1_code
def yX7_init : MethodName := ⟨RX7, "<init>", "()V"⟩
abbrev cX7_weigh : ByteArray := prog_9_method_2_code
def yX7_weigh : MethodName := ⟨RX7, "weigh", "(LGentleLetters$Desk;LGentleLetters$Mind;LGentleLetters$Reach;II)V"⟩
abbrev cX7_choose : ByteArray := prog_9_method_3_code
def yX7_choose : MethodName := ⟨RX7, "choose", "(LGentleLetters$Desk;LGentleLetters$Mind;II)V"⟩
def RX8 : String := "GentleLetters$Row"
def TX8 : u_T := fun k => match k with
  | 0 => ("GentleLetters$Row", "numbers", "[J", true)
  | 1 => ("GentleLetters$Row", "there", "Z", false)
  | 2 => ("GentleLetters$Row", "width", "I", false)
  | _ => ("GentleLetters$Row", "size", "I", false)
def tyX8 : Nat → FieldType := fun k => match k with
  | 0 => .array .long
  | 1 => .boolean
  | 2 => .int
  | _ => .int
abbrev wsX80 : List Cond := u_ws RX8 TX8 4
theorem nmX8 : ∀ a, a < 4 → ∀ b, b < 4 → a ≠ b → (TX8 a).2.1 ≠ (TX8 b).2.1 := by decide +kernel
theorem tyX8_ok : ∀ k, k < 4 → parseFieldDescriptor (TX8 k).2.2.1 = some (tyX8 k) := by decide +kernel
abbrev cX8_init : ByteArray := prog_10_method_1_code
def yX8_init : MethodName := ⟨RX8, "<init>", "()V"⟩
abbrev cX8_begin : ByteArray := prog_10_method_2_code
def yX8_begin : MethodName := ⟨RX8, "begin", "(II)V"⟩
abbrev cX8_cut : ByteArray := prog_10_method_3_code
def yX8_cut : MethodName := ⟨RX8, "cut", "(J)J"⟩
abbrev cX8_holds : ByteArray := prog_10_method_4_code
def yX8_holds : MethodName := ⟨RX8, "holds", "(II)Z"⟩
def RX9 : String := "GentleLetters$Tape"
def TX9 : u_T := fun k => match k with
  | 0 => ("GentleLetters$Tape", "bytes", "[B", true)
  | 1 => ("GentleLetters$Tape", "size", "I", false)
  | 2 => ("GentleLetters$Tape", "kind", "I", false)
  | 3 => ("GentleLetters$Tape", "start", "I", false)
  | 4 => ("GentleLetters$Tape", "stop", "I", false)
  | _ => ("GentleLetters$Tape", "number", "I", false)
def tyX9 : Nat → FieldType := fun k => match k with
  | 0 => .array .byte
  | 1 => .int
  | 2 => .int
  | 3 => .int
  | 4 => .int
  | _ => .int
abbrev wsX90 : List Cond := u_ws RX9 TX9 6
theorem nmX9 : ∀ a, a < 6 → ∀ b, b < 6 → a ≠ b → (TX9 a).2.1 ≠ (TX9 b).2.1 := by decide +kernel
theorem tyX9_ok : ∀ k, k < 6 → parseFieldDescriptor (TX9 k).2.2.1 = some (tyX9 k) := by decide +kernel
abbrev cX9_init : ByteArray := prog_11_method_1_code
def yX9_init : MethodName := ⟨RX9, "<init>", "()V"⟩
abbrev cX9_put : ByteArray := prog_11_method_2_code
def yX9_put : MethodName := ⟨RX9, "put", "(I)V"⟩
abbrev cX9_rewind : ByteArray := prog_11_method_3_code
def yX9_rewind : MethodName := ⟨RX9, "rewind", "()V"⟩
abbrev cX9_advance : ByteArray := prog_11_method_4_code
def yX9_advance : MethodName := ⟨RX9, "advance", "()V"⟩
abbrev cX9_standsOn : ByteArray := prog_11_method_5_code
def yX9_standsOn : MethodName := ⟨RX9, "standsOn", "(Ljava/lang/String;)Z"⟩
abbrev cX9_kindOf : ByteArray := prog_11_method_6_code
def yX9_kindOf : MethodName := ⟨RX9, "kindOf", "(B)I"⟩
def RX10 : String := "GentleLetters$Week"
def TX10 : u_T := fun k => match k with
  | 0 => ("GentleLetters$Week", "words", "[I", true)
  | 1 => ("GentleLetters$Week", "beliefs", "[I", true)
  | 2 => ("GentleLetters$Week", "pains", "[I", true)
  | 3 => ("GentleLetters$Week", "order", "[I", true)
  | 4 => ("GentleLetters$Week", "bestOrder", "[I", true)
  | 5 => ("GentleLetters$Week", "size", "I", false)
  | 6 => ("GentleLetters$Week", "leastOrdered", "I", false)
  | 7 => ("GentleLetters$Week", "fitting", "I", false)
  | 8 => ("GentleLetters$Week", "knowingDay", "I", false)
  | _ => ("GentleLetters$Week", "knowingPlan", "I", false)
def tyX10 : Nat → FieldType := fun k => match k with
  | 0 => .array .int
  | 1 => .array .int
  | 2 => .array .int
  | 3 => .array .int
  | 4 => .array .int
  | 5 => .int
  | 6 => .int
  | 7 => .int
  | 8 => .int
  | _ => .int
abbrev wsX100 : List Cond := u_ws RX10 TX10 10
theorem nmX10 : ∀ a, a < 10 → ∀ b, b < 10 → a ≠ b → (TX10 a).2.1 ≠ (TX10 b).2.1 := by decide +kernel
theorem tyX10_ok : ∀ k, k < 10 → parseFieldDescriptor (TX10 k).2.2.1 = some (tyX10 k) := by decide +kernel
abbrev cX10_init : ByteArray := prog_12_method_1_code
def yX10_init : MethodName := ⟨RX10, "<init>", "()V"⟩
abbrev cX10_take : ByteArray := prog_12_method_2_code
def yX10_take : MethodName := ⟨RX10, "take", "(LGentleLetters$Row;LGentleLetters$Desk;)Z"⟩
abbrev cX10_believe : ByteArray := prog_12_method_3_code
def yX10_believe : MethodName := ⟨RX10, "believe", "(LGentleLetters$Desk;)V"⟩
abbrev cX10_overrule : ByteArray := prog_12_method_4_code
def yX10_overrule : MethodName := ⟨RX10, "overrule", "(II)V"⟩
abbrev cX10_fillDays : ByteArray := prog_12_method_5_code
def yX10_fillDays : MethodName := ⟨RX10, "fillDays", "(LGentleLetters$Desk;)V"⟩
abbrev cX10_feel : ByteArray := prog_12_method_6_code
def yX10_feel : MethodName := ⟨RX10, "feel", "(LGentleLetters$Desk;I)V"⟩
abbrev cX10_lastBelief : ByteArray := prog_12_method_7_code
def yX10_lastBelief : MethodName := ⟨RX10, "lastBelief", "(LGentleLetters$Desk;)I"⟩
abbrev cX10_sumOfHurts : ByteArray := prog_12_method_8_code
def yX10_sumOfHurts : MethodName := ⟨RX10, "sumOfHurts", "()I"⟩
abbrev cX10_greatestHurt : ByteArray := prog_12_method_9_code
def yX10_greatestHurt : MethodName := ⟨RX10, "greatestHurt", "()I"⟩
abbrev cX10_sumLeft : ByteArray := prog_12_method_10_code
def yX10_sumLeft : MethodName := ⟨RX10, "sumLeft", "(LGentleLetters$Desk;)I"⟩
abbrev cX10_firstLie : ByteArray := prog_12_method_11_code
def yX10_firstLie : MethodName := ⟨RX10, "firstLie", "(LGentleLetters$Desk;)I"⟩
abbrev cX10_sumOfShame : ByteArray := prog_12_method_12_code
def yX10_sumOfShame : MethodName := ⟨RX10, "sumOfShame", "(LGentleLetters$Desk;)I"⟩
abbrev cX10_knownFrom : ByteArray := prog_12_method_13_code
def yX10_knownFrom : MethodName := ⟨RX10, "knownFrom", "(I)I"⟩
abbrev cX10_statesMeant : ByteArray := prog_12_method_14_code
def yX10_statesMeant : MethodName := ⟨RX10, "statesMeant", "(LGentleLetters$Desk;)I"⟩
abbrev cX10_reckon : ByteArray := prog_12_method_15_code
def yX10_reckon : MethodName := ⟨RX10, "reckon", "(LGentleLetters$Desk;I)V"⟩
abbrev cX10_orderSoftly : ByteArray := prog_12_method_16_code
def yX10_orderSoftly : MethodName := ⟨RX10, "orderSoftly", "(LGentleLetters$Desk;LGentleLetters$Mind;)V"⟩
abbrev cX10_leftByOrder : ByteArray := prog_12_method_17_code
def yX10_leftByOrder : MethodName := ⟨RX10, "leftByOrder", "(LGentleLetters$Desk;LGentleLetters$Mind;)I"⟩
abbrev cX10_nextOrder : ByteArray := prog_12_method_18_code
def yX10_nextOrder : MethodName := ⟨RX10, "nextOrder", "()Z"⟩
abbrev cX10_swap : ByteArray := prog_12_method_19_code
def yX10_swap : MethodName := ⟨RX10, "swap", "(II)V"⟩
def RX11 : String := "GentleLetters"
def TX11 : u_T := fun k => match k with
  | 0 => ("GentleLetters", "reader", "LGentleLetters$DeskReader;", true)
  | 1 => ("GentleLetters", "desk", "LGentleLetters$Desk;", true)
  | 2 => ("GentleLetters", "images", "[LGentleLetters$Desk;", true)
  | 3 => ("GentleLetters", "imaged", "[Z", true)
  | 4 => ("GentleLetters", "rows", "[LGentleLetters$Row;", true)
  | 5 => ("GentleLetters", "week", "LGentleLetters$Week;", true)
  | 6 => ("GentleLetters", "mind", "LGentleLetters$Mind;", true)
  | 7 => ("GentleLetters", "reach", "LGentleLetters$Reach;", true)
  | 8 => ("GentleLetters", "planner", "LGentleLetters$Planner;", true)
  | 9 => ("GentleLetters", "risks", "LGentleLetters$Risks;", true)
  | _ => ("GentleLetters", "letters", "LGentleLetters$Letters;", true)
def tyX11 : Nat → FieldType := fun k => match k with
  | 0 => .object "GentleLetters$DeskReader"
  | 1 => .object "GentleLetters$Desk"
  | 2 => .array (.object "GentleLetters$Desk")
  | 3 => .array .boolean
  | 4 => .array (.object "GentleLetters$Row")
  | 5 => .object "GentleLetters$Week"
  | 6 => .object "GentleLetters$Mind"
  | 7 => .object "GentleLetters$Reach"
  | 8 => .object "GentleLetters$Planner"
  | 9 => .object "GentleLetters$Risks"
  | _ => .object "GentleLetters$Letters"
abbrev wsX110 : List Cond := u_ws RX11 TX11 11
theorem nmX11 : ∀ a, a < 11 → ∀ b, b < 11 → a ≠ b → (TX11 a).2.1 ≠ (TX11 b).2.1 := by decide +kernel
theorem tyX11_ok : ∀ k, k < 11 → parseFieldDescriptor (TX11 k).2.2.1 = some (tyX11 k) := by decide +kernel
abbrev cX11_init : ByteArray := prog_1_method_1_code
def yX11_init : MethodName := ⟨RX11, "<init>", "()V"⟩
abbrev cX11_feed : ByteArray := prog_1_method_2_code
def yX11_feed : MethodName := ⟨RX11, "feed", "(IIIII)I"⟩
abbrev cX11_end : ByteArray := prog_1_method_3_code
def yX11_end : MethodName := ⟨RX11, "end", "(I)I"⟩
abbrev cX11_desk : ByteArray := prog_1_method_4_code
def yX11_desk : MethodName := ⟨RX11, "desk", "()I"⟩
abbrev cX11_fault : ByteArray := prog_1_method_5_code
def yX11_fault : MethodName := ⟨RX11, "fault", "(I)I"⟩
abbrev cX11_grade : ByteArray := prog_1_method_6_code
def yX11_grade : MethodName := ⟨RX11, "grade", "(I)I"⟩
abbrev cX11_thinks : ByteArray := prog_1_method_7_code
def yX11_thinks : MethodName := ⟨RX11, "thinks", "(II)I"⟩
abbrev cX11_word : ByteArray := prog_1_method_8_code
def yX11_word : MethodName := ⟨RX11, "word", "(II)I"⟩
abbrev cX11_plan : ByteArray := prog_1_method_9_code
def yX11_plan : MethodName := ⟨RX11, "plan", "(II)I"⟩
abbrev cX11_news : ByteArray := prog_1_method_10_code
def yX11_news : MethodName := ⟨RX11, "news", "(I)I"⟩
abbrev cX11_tells : ByteArray := prog_1_method_11_code
def yX11_tells : MethodName := ⟨RX11, "tells", "(I)I"⟩
abbrev cX11_mean : ByteArray := prog_1_method_12_code
def yX11_mean : MethodName := ⟨RX11, "mean", "(II)I"⟩
abbrev cX11_chance : ByteArray := prog_1_method_13_code
def yX11_chance : MethodName := ⟨RX11, "chance", "(IIII)I"⟩
abbrev cX11_behind : ByteArray := prog_1_method_14_code
def yX11_behind : MethodName := ⟨RX11, "behind", "(II)I"⟩
abbrev cX11_hurt : ByteArray := prog_1_method_15_code
def yX11_hurt : MethodName := ⟨RX11, "hurt", "(III)I"⟩
abbrev cX11_softest : ByteArray := prog_1_method_16_code
def yX11_softest : MethodName := ⟨RX11, "softest", "(II)I"⟩
abbrev cX11_believes : ByteArray := prog_1_method_17_code
def yX11_believes : MethodName := ⟨RX11, "believes", "(I)I"⟩
abbrev cX11_hurts : ByteArray := prog_1_method_18_code
def yX11_hurts : MethodName := ⟨RX11, "hurts", "(II)I"⟩
abbrev cX11_worst : ByteArray := prog_1_method_19_code
def yX11_worst : MethodName := ⟨RX11, "worst", "(II)I"⟩
abbrev cX11_left : ByteArray := prog_1_method_20_code
def yX11_left : MethodName := ⟨RX11, "left", "(II)I"⟩
abbrev cX11_lies : ByteArray := prog_1_method_21_code
def yX11_lies : MethodName := ⟨RX11, "lies", "(I)I"⟩
abbrev cX11_shames : ByteArray := prog_1_method_22_code
def yX11_shames : MethodName := ⟨RX11, "shames", "(I)I"⟩
abbrev cX11_known : ByteArray := prog_1_method_23_code
def yX11_known : MethodName := ⟨RX11, "known", "(I)I"⟩
abbrev cX11_softer : ByteArray := prog_1_method_24_code
def yX11_softer : MethodName := ⟨RX11, "softer", "(II)I"⟩
abbrev cX11_ordered : ByteArray := prog_1_method_25_code
def yX11_ordered : MethodName := ⟨RX11, "ordered", "(III)I"⟩
abbrev cX11_rest : ByteArray := prog_1_method_26_code
def yX11_rest : MethodName := ⟨RX11, "rest", "(I)I"⟩
abbrev cX11_least : ByteArray := prog_1_method_27_code
def yX11_least : MethodName := ⟨RX11, "least", "(I)I"⟩
abbrev cX11_step : ByteArray := prog_1_method_28_code
def yX11_step : MethodName := ⟨RX11, "step", "(II)I"⟩
abbrev cX11_truly : ByteArray := prog_1_method_29_code
def yX11_truly : MethodName := ⟨RX11, "truly", "(I)I"⟩
abbrev cX11_honest : ByteArray := prog_1_method_30_code
def yX11_honest : MethodName := ⟨RX11, "honest", "(II)I"⟩
abbrev cX11_gentlest : ByteArray := prog_1_method_31_code
def yX11_gentlest : MethodName := ⟨RX11, "gentlest", "(I)I"⟩
abbrev cX11_gently : ByteArray := prog_1_method_32_code
def yX11_gently : MethodName := ⟨RX11, "gently", "(II)I"⟩
abbrev cX11_tender : ByteArray := prog_1_method_33_code
def yX11_tender : MethodName := ⟨RX11, "tender", "(I)I"⟩
abbrev cX11_tenderly : ByteArray := prog_1_method_34_code
def yX11_tenderly : MethodName := ⟨RX11, "tenderly", "(II)I"⟩
abbrev cX11_hope : ByteArray := prog_1_method_35_code
def yX11_hope : MethodName := ⟨RX11, "hope", "(IIII)I"⟩
abbrev cX11_fewest : ByteArray := prog_1_method_36_code
def yX11_fewest : MethodName := ⟨RX11, "fewest", "()I"⟩
abbrev cX11_once : ByteArray := prog_1_method_37_code
def yX11_once : MethodName := ⟨RX11, "once", "(I)I"⟩
abbrev cX11_late : ByteArray := prog_1_method_38_code
def yX11_late : MethodName := ⟨RX11, "late", "(II)I"⟩
abbrev cX11_calm : ByteArray := prog_1_method_39_code
def yX11_calm : MethodName := ⟨RX11, "calm", "(II)I"⟩
abbrev cX11_shock : ByteArray := prog_1_method_40_code
def yX11_shock : MethodName := ⟨RX11, "shock", "(I)I"⟩
abbrev cX11_unsaid : ByteArray := prog_1_method_41_code
def yX11_unsaid : MethodName := ⟨RX11, "unsaid", "()I"⟩
abbrev cX11_idle : ByteArray := prog_1_method_42_code
def yX11_idle : MethodName := ⟨RX11, "idle", "()I"⟩
abbrev cX11_enough : ByteArray := prog_1_method_43_code
def yX11_enough : MethodName := ⟨RX11, "enough", "(I)I"⟩
abbrev cX11_even : ByteArray := prog_1_method_44_code
def yX11_even : MethodName := ⟨RX11, "even", "(II)I"⟩
abbrev cX11_steps : ByteArray := prog_1_method_45_code
def yX11_steps : MethodName := ⟨RX11, "steps", "(II)I"⟩
abbrev cX11_risk : ByteArray := prog_1_method_46_code
def yX11_risk : MethodName := ⟨RX11, "risk", "(I)I"⟩
abbrev cX11_now : ByteArray := prog_1_method_47_code
def yX11_now : MethodName := ⟨RX11, "now", "(III)I"⟩
abbrev cX11_soon : ByteArray := prog_1_method_48_code
def yX11_soon : MethodName := ⟨RX11, "soon", "(II)I"⟩
abbrev cX11_suspects : ByteArray := prog_1_method_49_code
def yX11_suspects : MethodName := ⟨RX11, "suspects", "(I)I"⟩
abbrev cX11_knew : ByteArray := prog_1_method_50_code
def yX11_knew : MethodName := ⟨RX11, "knew", "(II)I"⟩
abbrev cX11_reckoned : ByteArray := prog_1_method_51_code
def yX11_reckoned : MethodName := ⟨RX11, "reckoned", "(II)I"⟩
abbrev cX11_ends : ByteArray := prog_1_method_52_code
def yX11_ends : MethodName := ⟨RX11, "ends", "(I)I"⟩
abbrev cX11_joined : ByteArray := prog_1_method_53_code
def yX11_joined : MethodName := ⟨RX11, "joined", "(I)I"⟩
abbrev cX11_letter : ByteArray := prog_1_method_54_code
def yX11_letter : MethodName := ⟨RX11, "letter", "(II)I"⟩
abbrev cX11_all : ByteArray := prog_1_method_55_code
def yX11_all : MethodName := ⟨RX11, "all", "()I"⟩
abbrev cX11_heard : ByteArray := prog_1_method_56_code
def yX11_heard : MethodName := ⟨RX11, "heard", "(II)I"⟩
abbrev cX11_whom : ByteArray := prog_1_method_57_code
def yX11_whom : MethodName := ⟨RX11, "whom", "()I"⟩
abbrev cX11_first : ByteArray := prog_1_method_58_code
def yX11_first : MethodName := ⟨RX11, "first", "()I"⟩
abbrev cX11_read : ByteArray := prog_1_method_59_code
def yX11_read : MethodName := ⟨RX11, "read", "(I)I"⟩
abbrev cX11_guess : ByteArray := prog_1_method_60_code
def yX11_guess : MethodName := ⟨RX11, "guess", "(II)I"⟩
abbrev cX11_worsen : ByteArray := prog_1_method_61_code
def yX11_worsen : MethodName := ⟨RX11, "worsen", "(II)I"⟩
abbrev cX11_really : ByteArray := prog_1_method_62_code
def yX11_really : MethodName := ⟨RX11, "really", "(I)I"⟩
abbrev cX11_doubt : ByteArray := prog_1_method_63_code
def yX11_doubt : MethodName := ⟨RX11, "doubt", "(III)I"⟩
abbrev cX11_undo : ByteArray := prog_1_method_64_code
def yX11_undo : MethodName := ⟨RX11, "undo", "()I"⟩
abbrev cX11_drawn : ByteArray := prog_1_method_65_code
def yX11_drawn : MethodName := ⟨RX11, "drawn", "(IIII)I"⟩
abbrev cX11_leaks : ByteArray := prog_1_method_66_code
def yX11_leaks : MethodName := ⟨RX11, "leaks", "(II)I"⟩
abbrev cX11_count : ByteArray := prog_1_method_67_code
def yX11_count : MethodName := ⟨RX11, "count", "(I)I"⟩
abbrev cX11_image : ByteArray := prog_1_method_68_code
def yX11_image : MethodName := ⟨RX11, "image", "(I)I"⟩
abbrev cX11_back : ByteArray := prog_1_method_69_code
def yX11_back : MethodName := ⟨RX11, "back", "(I)I"⟩
abbrev cX11_row : ByteArray := prog_1_method_70_code
def yX11_row : MethodName := ⟨RX11, "row", "(III)I"⟩
abbrev cX11_write : ByteArray := prog_1_method_71_code
def yX11_write : MethodName := ⟨RX11, "write", "(IIJ)I"⟩
abbrev cX11_paste : ByteArray := prog_1_method_72_code
def yX11_paste : MethodName := ⟨RX11, "paste", "(IIIII)I"⟩
abbrev cX11_isSlot : ByteArray := prog_1_method_73_code
def yX11_isSlot : MethodName := ⟨RX11, "isSlot", "(I)Z"⟩
abbrev cX11_rowOf : ByteArray := prog_1_method_74_code
def yX11_rowOf : MethodName := ⟨RX11, "rowOf", "(I)LGentleLetters$Row;"⟩
abbrev cX11_isSeed : ByteArray := prog_1_method_75_code
def yX11_isSeed : MethodName := ⟨RX11, "isSeed", "(I)Z"⟩
abbrev cX11_takeWeek : ByteArray := prog_1_method_76_code
def yX11_takeWeek : MethodName := ⟨RX11, "takeWeek", "(I)I"⟩
abbrev cX11_feelWeek : ByteArray := prog_1_method_77_code
def yX11_feelWeek : MethodName := ⟨RX11, "feelWeek", "(II)I"⟩
abbrev cX11_orderWeek : ByteArray := prog_1_method_78_code
def yX11_orderWeek : MethodName := ⟨RX11, "orderWeek", "(II)I"⟩
abbrev cX11_reckonWeek : ByteArray := prog_1_method_79_code
def yX11_reckonWeek : MethodName := ⟨RX11, "reckonWeek", "(II)I"⟩
abbrev cX11_leastCost : ByteArray := prog_1_method_80_code
def yX11_leastCost : MethodName := ⟨RX11, "leastCost", "(IZZ)I"⟩
abbrev cX11_wordOfBest : ByteArray := prog_1_method_81_code
def yX11_wordOfBest : MethodName := ⟨RX11, "wordOfBest", "(IIZZ)I"⟩
abbrev cX11_weighRisks : ByteArray := prog_1_method_82_code
def yX11_weighRisks : MethodName := ⟨RX11, "weighRisks", "(III)V"⟩
abbrev cX11_changeDesk : ByteArray := prog_1_method_83_code
def yX11_changeDesk : MethodName := ⟨RX11, "changeDesk", "(III)I"⟩
abbrev cX11_countRows : ByteArray := prog_1_method_84_code
def yX11_countRows : MethodName := ⟨RX11, "countRows", "()I"⟩
abbrev cX11_evenSquares : ByteArray := prog_1_method_85_code
def yX11_evenSquares : MethodName := ⟨RX11, "evenSquares", "(II)I"⟩
def RX12 : String := "GentleLettersModel"
def TX12 : u_T := fun k => match k with
  | 0 => ("GentleLettersModel", "thrown", "I", false)
  | 1 => ("GentleLettersModel", "world", "[I", true)
  | 2 => ("GentleLettersModel", "images", "[I", true)
  | 3 => ("GentleLettersModel", "hasImage", "[Z", true)
  | 4 => ("GentleLettersModel", "tape", "[B", true)
  | 5 => ("GentleLettersModel", "taped", "I", false)
  | 6 => ("GentleLettersModel", "five", "[I", true)
  | 7 => ("GentleLettersModel", "size", "I", false)
  | 8 => ("GentleLettersModel", "at", "I", false)
  | 9 => ("GentleLettersModel", "from", "I", false)
  | 10 => ("GentleLettersModel", "token", "I", false)
  | 11 => ("GentleLettersModel", "value", "I", false)
  | 12 => ("GentleLettersModel", "faultKind", "I", false)
  | 13 => ("GentleLettersModel", "faultPlace", "I", false)
  | 14 => ("GentleLettersModel", "fresh", "[I", true)
  | 15 => ("GentleLettersModel", "best", "[I", true)
  | 16 => ("GentleLettersModel", "goal", "I", false)
  | 17 => ("GentleLettersModel", "goalDays", "I", false)
  | 18 => ("GentleLettersModel", "goalHearer", "I", false)
  | 19 => ("GentleLettersModel", "order", "[I", true)
  | 20 => ("GentleLettersModel", "bestOrder", "[I", true)
  | 21 => ("GentleLettersModel", "leastOrder", "I", false)
  | 22 => ("GentleLettersModel", "wordsMany", "I", false)
  | 23 => ("GentleLettersModel", "letters", "[I", true)
  | 24 => ("GentleLettersModel", "bestLetters", "[I", true)
  | 25 => ("GentleLettersModel", "many", "[I", true)
  | 26 => ("GentleLettersModel", "width", "[I", true)
  | 27 => ("GentleLettersModel", "numbers", "[J", true)
  | _ => ("GentleLettersModel", "moving", "[J", true)
def tyX12 : Nat → FieldType := fun k => match k with
  | 0 => .int
  | 1 => .array .int
  | 2 => .array .int
  | 3 => .array .boolean
  | 4 => .array .byte
  | 5 => .int
  | 6 => .array .int
  | 7 => .int
  | 8 => .int
  | 9 => .int
  | 10 => .int
  | 11 => .int
  | 12 => .int
  | 13 => .int
  | 14 => .array .int
  | 15 => .array .int
  | 16 => .int
  | 17 => .int
  | 18 => .int
  | 19 => .array .int
  | 20 => .array .int
  | 21 => .int
  | 22 => .int
  | 23 => .array .int
  | 24 => .array .int
  | 25 => .array .int
  | 26 => .array .int
  | 27 => .array .long
  | _ => .array .long
abbrev wsX120 : List Cond := u_ws RX12 TX12 29
theorem nmX12 : ∀ a, a < 29 → ∀ b, b < 29 → a ≠ b → (TX12 a).2.1 ≠ (TX12 b).2.1 := by decide +kernel
theorem tyX12_ok : ∀ k, k < 29 → parseFieldDescriptor (TX12 k).2.2.1 = some (tyX12 k) := by decide +kernel
abbrev cX12_init : ByteArray := prog_14_method_1_code
def yX12_init : MethodName := ⟨RX12, "<init>", "()V"⟩
abbrev cX12_in : ByteArray := prog_14_method_3_code
def yX12_in : MethodName := ⟨RX12, "in", "(JJJ)Z"⟩
abbrev cX12_bits : ByteArray := prog_14_method_4_code
def yX12_bits : MethodName := ⟨RX12, "bits", "(I)I"⟩
abbrev cX12_bit : ByteArray := prog_14_method_5_code
def yX12_bit : MethodName := ⟨RX12, "bit", "(II)I"⟩
abbrev cX12_image : ByteArray := prog_14_method_6_code
def yX12_image : MethodName := ⟨RX12, "image", "(I)I"⟩
abbrev cX12_back : ByteArray := prog_14_method_7_code
def yX12_back : MethodName := ⟨RX12, "back", "(I)I"⟩
abbrev cX12_isDesk : ByteArray := prog_14_method_8_code
def yX12_isDesk : MethodName := ⟨RX12, "isDesk", "()Z"⟩
abbrev cX12_isState : ByteArray := prog_14_method_9_code
def yX12_isState : MethodName := ⟨RX12, "isState", "(I)Z"⟩
abbrev cX12_isHearer : ByteArray := prog_14_method_10_code
def yX12_isHearer : MethodName := ⟨RX12, "isHearer", "(I)Z"⟩
abbrev cX12_isWord : ByteArray := prog_14_method_11_code
def yX12_isWord : MethodName := ⟨RX12, "isWord", "(J)Z"⟩
abbrev cX12_isTold : ByteArray := prog_14_method_12_code
def yX12_isTold : MethodName := ⟨RX12, "isTold", "(J)Z"⟩
abbrev cX12_isDay : ByteArray := prog_14_method_13_code
def yX12_isDay : MethodName := ⟨RX12, "isDay", "(I)Z"⟩
abbrev cX12_allStates : ByteArray := prog_14_method_14_code
def yX12_allStates : MethodName := ⟨RX12, "allStates", "()I"⟩
abbrev cX12_isBelief : ByteArray := prog_14_method_15_code
def yX12_isBelief : MethodName := ⟨RX12, "isBelief", "(I)Z"⟩
abbrev cX12_thinksOf : ByteArray := prog_14_method_16_code
def yX12_thinksOf : MethodName := ⟨RX12, "thinksOf", "(II)I"⟩
abbrev cX12_reckonsOf : ByteArray := prog_14_method_17_code
def yX12_reckonsOf : MethodName := ⟨RX12, "reckonsOf", "(I)I"⟩
abbrev cX12_statesOf : ByteArray := prog_14_method_18_code
def yX12_statesOf : MethodName := ⟨RX12, "statesOf", "(I)I"⟩
abbrev cX12_isTrue : ByteArray := prog_14_method_19_code
def yX12_isTrue : MethodName := ⟨RX12, "isTrue", "(I)Z"⟩
abbrev cX12_shameOf : ByteArray := prog_14_method_20_code
def yX12_shameOf : MethodName := ⟨RX12, "shameOf", "(I)I"⟩
abbrev cX12_reallySet : ByteArray := prog_14_method_21_code
def yX12_reallySet : MethodName := ⟨RX12, "reallySet", "()I"⟩
abbrev cX12_feed : ByteArray := prog_14_method_22_code
def yX12_feed : MethodName := ⟨RX12, "feed", "(IIIII)I"⟩
abbrev cX12_end : ByteArray := prog_14_method_23_code
def yX12_end : MethodName := ⟨RX12, "end", "(I)I"⟩
abbrev cX12_see : ByteArray := prog_14_method_24_code
def yX12_see : MethodName := ⟨RX12, "see", "(I)I"⟩
abbrev cX12_advance : ByteArray := prog_14_method_25_code
def yX12_advance : MethodName := ⟨RX12, "advance", "()V"⟩
abbrev cX12_good : ByteArray := prog_14_method_26_code
def yX12_good : MethodName := ⟨RX12, "good", "()Z"⟩
abbrev cX12_errs : ByteArray := prog_14_method_27_code
def yX12_errs : MethodName := ⟨RX12, "errs", "(I)V"⟩
abbrev cX12_is : ByteArray := prog_14_method_28_code
def yX12_is : MethodName := ⟨RX12, "is", "(Ljava/lang/String;)Z"⟩
abbrev cX12_takes : ByteArray := prog_14_method_29_code
def yX12_takes : MethodName := ⟨RX12, "takes", "(Ljava/lang/String;)Z"⟩
abbrev cX12_needs : ByteArray := prog_14_method_30_code
def yX12_needs : MethodName := ⟨RX12, "needs", "(Ljava/lang/String;)V"⟩
abbrev cX12_number : ByteArray := prog_14_method_31_code
def yX12_number : MethodName := ⟨RX12, "number", "(II)I"⟩
abbrev cX12_told : ByteArray := prog_14_method_32_code
def yX12_told : MethodName := ⟨RX12, "told", "(Ljava/lang/String;II)I"⟩
abbrev cX12_fault : ByteArray := prog_14_method_33_code
def yX12_fault : MethodName := ⟨RX12, "fault", "(I)I"⟩
abbrev cX12_freshState : ByteArray := prog_14_method_34_code
def yX12_freshState : MethodName := ⟨RX12, "freshState", "()I"⟩
abbrev cX12_readFirst : ByteArray := prog_14_method_35_code
def yX12_readFirst : MethodName := ⟨RX12, "readFirst", "()V"⟩
abbrev cX12_readHearer : ByteArray := prog_14_method_36_code
def yX12_readHearer : MethodName := ⟨RX12, "readHearer", "()V"⟩
abbrev cX12_readWord : ByteArray := prog_14_method_37_code
def yX12_readWord : MethodName := ⟨RX12, "readWord", "()V"⟩
abbrev cX12_readPlan : ByteArray := prog_14_method_38_code
def yX12_readPlan : MethodName := ⟨RX12, "readPlan", "()V"⟩
abbrev cX12_readNews : ByteArray := prog_14_method_39_code
def yX12_readNews : MethodName := ⟨RX12, "readNews", "()V"⟩
abbrev cX12_readTells : ByteArray := prog_14_method_40_code
def yX12_readTells : MethodName := ⟨RX12, "readTells", "()V"⟩
abbrev cX12_readNext : ByteArray := prog_14_method_41_code
def yX12_readNext : MethodName := ⟨RX12, "readNext", "()V"⟩
abbrev cX12_readLine : ByteArray := prog_14_method_42_code
def yX12_readLine : MethodName := ⟨RX12, "readLine", "()V"⟩
abbrev cX12_desk : ByteArray := prog_14_method_43_code
def yX12_desk : MethodName := ⟨RX12, "desk", "()I"⟩
abbrev cX12_meanOf : ByteArray := prog_14_method_44_code
def yX12_meanOf : MethodName := ⟨RX12, "meanOf", "(II)I"⟩
abbrev cX12_behindOf : ByteArray := prog_14_method_45_code
def yX12_behindOf : MethodName := ⟨RX12, "behindOf", "(II)I"⟩
abbrev cX12_rise : ByteArray := prog_14_method_46_code
def yX12_rise : MethodName := ⟨RX12, "rise", "(III)I"⟩
abbrev cX12_hurtOf : ByteArray := prog_14_method_47_code
def yX12_hurtOf : MethodName := ⟨RX12, "hurtOf", "(III)I"⟩
abbrev cX12_leftOf : ByteArray := prog_14_method_48_code
def yX12_leftOf : MethodName := ⟨RX12, "leftOf", "(III)I"⟩
abbrev cX12_grade : ByteArray := prog_14_method_49_code
def yX12_grade : MethodName := ⟨RX12, "grade", "(I)I"⟩
abbrev cX12_thinks : ByteArray := prog_14_method_50_code
def yX12_thinks : MethodName := ⟨RX12, "thinks", "(II)I"⟩
abbrev cX12_word : ByteArray := prog_14_method_51_code
def yX12_word : MethodName := ⟨RX12, "word", "(II)I"⟩
abbrev cX12_planMany : ByteArray := prog_14_method_52_code
def yX12_planMany : MethodName := ⟨RX12, "planMany", "(I)I"⟩
abbrev cX12_planWord : ByteArray := prog_14_method_53_code
def yX12_planWord : MethodName := ⟨RX12, "planWord", "(II)I"⟩
abbrev cX12_isPlan : ByteArray := prog_14_method_54_code
def yX12_isPlan : MethodName := ⟨RX12, "isPlan", "(I)Z"⟩
abbrev cX12_plan : ByteArray := prog_14_method_55_code
def yX12_plan : MethodName := ⟨RX12, "plan", "(II)I"⟩
abbrev cX12_news : ByteArray := prog_14_method_56_code
def yX12_news : MethodName := ⟨RX12, "news", "(I)I"⟩
abbrev cX12_tells : ByteArray := prog_14_method_57_code
def yX12_tells : MethodName := ⟨RX12, "tells", "(I)I"⟩
abbrev cX12_mean : ByteArray := prog_14_method_58_code
def yX12_mean : MethodName := ⟨RX12, "mean", "(II)I"⟩
abbrev cX12_divisor : ByteArray := prog_14_method_59_code
def yX12_divisor : MethodName := ⟨RX12, "divisor", "(II)I"⟩
abbrev cX12_part : ByteArray := prog_14_method_60_code
def yX12_part : MethodName := ⟨RX12, "part", "(III)I"⟩
abbrev cX12_chance : ByteArray := prog_14_method_61_code
def yX12_chance : MethodName := ⟨RX12, "chance", "(IIII)I"⟩
abbrev cX12_chanceOf : ByteArray := prog_14_method_62_code
def yX12_chanceOf : MethodName := ⟨RX12, "chanceOf", "(IIII)I"⟩
abbrev cX12_behind : ByteArray := prog_14_method_63_code
def yX12_behind : MethodName := ⟨RX12, "behind", "(II)I"⟩
abbrev cX12_hurt : ByteArray := prog_14_method_64_code
def yX12_hurt : MethodName := ⟨RX12, "hurt", "(III)I"⟩
abbrev cX12_softest : ByteArray := prog_14_method_65_code
def yX12_softest : MethodName := ⟨RX12, "softest", "(II)I"⟩
abbrev cX12_numberAt : ByteArray := prog_14_method_66_code
def yX12_numberAt : MethodName := ⟨RX12, "numberAt", "(II)J"⟩
abbrev cX12_toldAt : ByteArray := prog_14_method_67_code
def yX12_toldAt : MethodName := ⟨RX12, "toldAt", "(II)I"⟩
abbrev cX12_asksWeek : ByteArray := prog_14_method_68_code
def yX12_asksWeek : MethodName := ⟨RX12, "asksWeek", "(IZ)I"⟩
abbrev cX12_believes : ByteArray := prog_14_method_69_code
def yX12_believes : MethodName := ⟨RX12, "believes", "(I)I"⟩
abbrev cX12_weekOf : ByteArray := prog_14_method_70_code
def yX12_weekOf : MethodName := ⟨RX12, "weekOf", "(III)I"⟩
abbrev cX12_hurts : ByteArray := prog_14_method_71_code
def yX12_hurts : MethodName := ⟨RX12, "hurts", "(II)I"⟩
abbrev cX12_worst : ByteArray := prog_14_method_72_code
def yX12_worst : MethodName := ⟨RX12, "worst", "(II)I"⟩
abbrev cX12_left : ByteArray := prog_14_method_73_code
def yX12_left : MethodName := ⟨RX12, "left", "(II)I"⟩
abbrev cX12_lies : ByteArray := prog_14_method_74_code
def yX12_lies : MethodName := ⟨RX12, "lies", "(I)I"⟩
abbrev cX12_shames : ByteArray := prog_14_method_75_code
def yX12_shames : MethodName := ⟨RX12, "shames", "(I)I"⟩
abbrev cX12_known : ByteArray := prog_14_method_76_code
def yX12_known : MethodName := ⟨RX12, "known", "(I)I"⟩
abbrev cX12_by : ByteArray := prog_14_method_77_code
def yX12_by : MethodName := ⟨RX12, "by", "(III)I"⟩
abbrev cX12_bestWord : ByteArray := prog_14_method_78_code
def yX12_bestWord : MethodName := ⟨RX12, "bestWord", "(II)I"⟩
abbrev cX12_wordWithin : ByteArray := prog_14_method_79_code
def yX12_wordWithin : MethodName := ⟨RX12, "wordWithin", "(III)I"⟩
abbrev cX12_fill : ByteArray := prog_14_method_80_code
def yX12_fill : MethodName := ⟨RX12, "fill", "(III)V"⟩
abbrev cX12_mixed : ByteArray := prog_14_method_81_code
def yX12_mixed : MethodName := ⟨RX12, "mixed", "(II)I"⟩
abbrev cX12_weekBy : ByteArray := prog_14_method_82_code
def yX12_weekBy : MethodName := ⟨RX12, "weekBy", "(II)I"⟩
abbrev cX12_wordBy : ByteArray := prog_14_method_83_code
def yX12_wordBy : MethodName := ⟨RX12, "wordBy", "(III)I"⟩
abbrev cX12_least : ByteArray := prog_14_method_84_code
def yX12_least : MethodName := ⟨RX12, "least", "(I)I"⟩
abbrev cX12_step : ByteArray := prog_14_method_85_code
def yX12_step : MethodName := ⟨RX12, "step", "(II)I"⟩
abbrev cX12_truly : ByteArray := prog_14_method_86_code
def yX12_truly : MethodName := ⟨RX12, "truly", "(I)I"⟩
abbrev cX12_honest : ByteArray := prog_14_method_87_code
def yX12_honest : MethodName := ⟨RX12, "honest", "(II)I"⟩
abbrev cX12_gentlest : ByteArray := prog_14_method_88_code
def yX12_gentlest : MethodName := ⟨RX12, "gentlest", "(I)I"⟩
abbrev cX12_gently : ByteArray := prog_14_method_89_code
def yX12_gently : MethodName := ⟨RX12, "gently", "(II)I"⟩
abbrev cX12_tender : ByteArray := prog_14_method_90_code
def yX12_tender : MethodName := ⟨RX12, "tender", "(I)I"⟩
abbrev cX12_tenderly : ByteArray := prog_14_method_91_code
def yX12_tenderly : MethodName := ⟨RX12, "tenderly", "(II)I"⟩
abbrev cX12_hope : ByteArray := prog_14_method_92_code
def yX12_hope : MethodName := ⟨RX12, "hope", "(IIII)I"⟩
abbrev cX12_fewest : ByteArray := prog_14_method_93_code
def yX12_fewest : MethodName := ⟨RX12, "fewest", "()I"⟩
abbrev cX12_once : ByteArray := prog_14_method_94_code
def yX12_once : MethodName := ⟨RX12, "once", "(I)I"⟩
abbrev cX12_late : ByteArray := prog_14_method_95_code
def yX12_late : MethodName := ⟨RX12, "late", "(II)I"⟩
abbrev cX12_calm : ByteArray := prog_14_method_96_code
def yX12_calm : MethodName := ⟨RX12, "calm", "(II)I"⟩
abbrev cX12_shock : ByteArray := prog_14_method_97_code
def yX12_shock : MethodName := ⟨RX12, "shock", "(I)I"⟩
abbrev cX12_unsaid : ByteArray := prog_14_method_98_code
def yX12_unsaid : MethodName := ⟨RX12, "unsaid", "()I"⟩
abbrev cX12_idle : ByteArray := prog_14_method_99_code
def yX12_idle : MethodName := ⟨RX12, "idle", "()I"⟩
abbrev cX12_enough : ByteArray := prog_14_method_100_code
def yX12_enough : MethodName := ⟨RX12, "enough", "(I)I"⟩
abbrev cX12_rest : ByteArray := prog_14_method_101_code
def yX12_rest : MethodName := ⟨RX12, "rest", "(I)I"⟩
abbrev cX12_leftInOrder : ByteArray := prog_14_method_102_code
def yX12_leftInOrder : MethodName := ⟨RX12, "leftInOrder", "(II)I"⟩
abbrev cX12_nextOrder : ByteArray := prog_14_method_103_code
def yX12_nextOrder : MethodName := ⟨RX12, "nextOrder", "(I)Z"⟩
abbrev cX12_swap : ByteArray := prog_14_method_104_code
def yX12_swap : MethodName := ⟨RX12, "swap", "(II)V"⟩
abbrev cX12_asksOrder : ByteArray := prog_14_method_105_code
def yX12_asksOrder : MethodName := ⟨RX12, "asksOrder", "(II)I"⟩
abbrev cX12_findOrder : ByteArray := prog_14_method_106_code
def yX12_findOrder : MethodName := ⟨RX12, "findOrder", "(II)V"⟩
abbrev cX12_softer : ByteArray := prog_14_method_107_code
def yX12_softer : MethodName := ⟨RX12, "softer", "(II)I"⟩
abbrev cX12_ordered : ByteArray := prog_14_method_108_code
def yX12_ordered : MethodName := ⟨RX12, "ordered", "(III)I"⟩
abbrev cX12_evenOf : ByteArray := prog_14_method_109_code
def yX12_evenOf : MethodName := ⟨RX12, "evenOf", "(II)I"⟩
abbrev cX12_even : ByteArray := prog_14_method_110_code
def yX12_even : MethodName := ⟨RX12, "even", "(II)I"⟩
abbrev cX12_steps : ByteArray := prog_14_method_111_code
def yX12_steps : MethodName := ⟨RX12, "steps", "(II)I"⟩
abbrev cX12_risk : ByteArray := prog_14_method_112_code
def yX12_risk : MethodName := ⟨RX12, "risk", "(I)I"⟩
abbrev cX12_now : ByteArray := prog_14_method_113_code
def yX12_now : MethodName := ⟨RX12, "now", "(III)I"⟩
abbrev cX12_soonOn : ByteArray := prog_14_method_114_code
def yX12_soonOn : MethodName := ⟨RX12, "soonOn", "(II)I"⟩
abbrev cX12_soon : ByteArray := prog_14_method_115_code
def yX12_soon : MethodName := ⟨RX12, "soon", "(II)I"⟩
abbrev cX12_suspectsOf : ByteArray := prog_14_method_116_code
def yX12_suspectsOf : MethodName := ⟨RX12, "suspectsOf", "(II)I"⟩
abbrev cX12_suspects : ByteArray := prog_14_method_117_code
def yX12_suspects : MethodName := ⟨RX12, "suspects", "(I)I"⟩
abbrev cX12_knewOf : ByteArray := prog_14_method_118_code
def yX12_knewOf : MethodName := ⟨RX12, "knewOf", "(II)I"⟩
abbrev cX12_knew : ByteArray := prog_14_method_119_code
def yX12_knew : MethodName := ⟨RX12, "knew", "(II)I"⟩
abbrev cX12_endOf : ByteArray := prog_14_method_120_code
def yX12_endOf : MethodName := ⟨RX12, "endOf", "(I)I"⟩
abbrev cX12_reckoned : ByteArray := prog_14_method_121_code
def yX12_reckoned : MethodName := ⟨RX12, "reckoned", "(II)I"⟩
abbrev cX12_ends : ByteArray := prog_14_method_122_code
def yX12_ends : MethodName := ⟨RX12, "ends", "(I)I"⟩
abbrev cX12_leftBy : ByteArray := prog_14_method_123_code
def yX12_leftBy : MethodName := ⟨RX12, "leftBy", "(I)I"⟩
abbrev cX12_joinedBy : ByteArray := prog_14_method_124_code
def yX12_joinedBy : MethodName := ⟨RX12, "joinedBy", "(I)I"⟩
abbrev cX12_areLetters : ByteArray := prog_14_method_125_code
def yX12_areLetters : MethodName := ⟨RX12, "areLetters", "(I)Z"⟩
abbrev cX12_lettersOf : ByteArray := prog_14_method_126_code
def yX12_lettersOf : MethodName := ⟨RX12, "lettersOf", "(I)I"⟩
abbrev cX12_joined : ByteArray := prog_14_method_127_code
def yX12_joined : MethodName := ⟨RX12, "joined", "(I)I"⟩
abbrev cX12_letter : ByteArray := prog_14_method_128_code
def yX12_letter : MethodName := ⟨RX12, "letter", "(II)I"⟩
abbrev cX12_all : ByteArray := prog_14_method_129_code
def yX12_all : MethodName := ⟨RX12, "all", "()I"⟩
abbrev cX12_allHearers : ByteArray := prog_14_method_130_code
def yX12_allHearers : MethodName := ⟨RX12, "allHearers", "()I"⟩
abbrev cX12_heardBy : ByteArray := prog_14_method_131_code
def yX12_heardBy : MethodName := ⟨RX12, "heardBy", "(II)I"⟩
abbrev cX12_heard : ByteArray := prog_14_method_132_code
def yX12_heard : MethodName := ⟨RX12, "heard", "(II)I"⟩
abbrev cX12_firstOf : ByteArray := prog_14_method_133_code
def yX12_firstOf : MethodName := ⟨RX12, "firstOf", "()I"⟩
abbrev cX12_whom : ByteArray := prog_14_method_134_code
def yX12_whom : MethodName := ⟨RX12, "whom", "()I"⟩
abbrev cX12_first : ByteArray := prog_14_method_135_code
def yX12_first : MethodName := ⟨RX12, "first", "()I"⟩
abbrev cX12_readOf : ByteArray := prog_14_method_136_code
def yX12_readOf : MethodName := ⟨RX12, "readOf", "(I)I"⟩
abbrev cX12_read : ByteArray := prog_14_method_137_code
def yX12_read : MethodName := ⟨RX12, "read", "(I)I"⟩
abbrev cX12_guess : ByteArray := prog_14_method_138_code
def yX12_guess : MethodName := ⟨RX12, "guess", "(II)I"⟩
abbrev cX12_change : ByteArray := prog_14_method_139_code
def yX12_change : MethodName := ⟨RX12, "change", "(II)I"⟩
abbrev cX12_worsen : ByteArray := prog_14_method_140_code
def yX12_worsen : MethodName := ⟨RX12, "worsen", "(II)I"⟩
abbrev cX12_really : ByteArray := prog_14_method_141_code
def yX12_really : MethodName := ⟨RX12, "really", "(I)I"⟩
abbrev cX12_doubt : ByteArray := prog_14_method_142_code
def yX12_doubt : MethodName := ⟨RX12, "doubt", "(III)I"⟩
abbrev cX12_undo : ByteArray := prog_14_method_143_code
def yX12_undo : MethodName := ⟨RX12, "undo", "()I"⟩
abbrev cX12_leakBy : ByteArray := prog_14_method_144_code
def yX12_leakBy : MethodName := ⟨RX12, "leakBy", "(J)I"⟩
abbrev cX12_isSeed : ByteArray := prog_14_method_145_code
def yX12_isSeed : MethodName := ⟨RX12, "isSeed", "(I)Z"⟩
abbrev cX12_drawn : ByteArray := prog_14_method_146_code
def yX12_drawn : MethodName := ⟨RX12, "drawn", "(IIII)I"⟩
abbrev cX12_leaks : ByteArray := prog_14_method_147_code
def yX12_leaks : MethodName := ⟨RX12, "leaks", "(II)I"⟩
abbrev cX12_count : ByteArray := prog_14_method_148_code
def yX12_count : MethodName := ⟨RX12, "count", "(I)I"⟩
abbrev cX12_isSlot : ByteArray := prog_14_method_149_code
def yX12_isSlot : MethodName := ⟨RX12, "isSlot", "(I)Z"⟩
abbrev cX12_cut : ByteArray := prog_14_method_150_code
def yX12_cut : MethodName := ⟨RX12, "cut", "(JI)J"⟩
abbrev cX12_row : ByteArray := prog_14_method_151_code
def yX12_row : MethodName := ⟨RX12, "row", "(III)I"⟩
abbrev cX12_write : ByteArray := prog_14_method_152_code
def yX12_write : MethodName := ⟨RX12, "write", "(IIJ)I"⟩
abbrev cX12_paste : ByteArray := prog_14_method_153_code
def yX12_paste : MethodName := ⟨RX12, "paste", "(IIIII)I"⟩
def RJx145de : String := "java/io/Serializable"
def TJx145de : u_T := fun k => match k with
  | _ => ("", "", "", false)
def tyJx145de : Nat → FieldType := fun k => match k with
  | _ => .int
abbrev wsJx145de0 : List Cond := u_ws RJx145de TJx145de 0
theorem nmJx145de : ∀ a, a < 0 → ∀ b, b < 0 → a ≠ b → (TJx145de a).2.1 ≠ (TJx145de b).2.1 := by decide +kernel
theorem tyJx145de_ok : ∀ k, k < 0 → parseFieldDescriptor (TJx145de k).2.2.1 = some (tyJx145de k) := by decide +kernel
def RJx9f9b0 : String := "java/lang/CharSequence"
def TJx9f9b0 : u_T := fun k => match k with
  | _ => ("", "", "", false)
def tyJx9f9b0 : Nat → FieldType := fun k => match k with
  | _ => .int
abbrev wsJx9f9b00 : List Cond := u_ws RJx9f9b0 TJx9f9b0 0
theorem nmJx9f9b0 : ∀ a, a < 0 → ∀ b, b < 0 → a ≠ b → (TJx9f9b0 a).2.1 ≠ (TJx9f9b0 b).2.1 := by decide +kernel
theorem tyJx9f9b0_ok : ∀ k, k < 0 → parseFieldDescriptor (TJx9f9b0 k).2.2.1 = some (tyJx9f9b0 k) := by decide +kernel
def RJxb160c : String := "java/lang/Comparable"
def TJxb160c : u_T := fun k => match k with
  | _ => ("", "", "", false)
def tyJxb160c : Nat → FieldType := fun k => match k with
  | _ => .int
abbrev wsJxb160c0 : List Cond := u_ws RJxb160c TJxb160c 0
theorem nmJxb160c : ∀ a, a < 0 → ∀ b, b < 0 → a ≠ b → (TJxb160c a).2.1 ≠ (TJxb160c b).2.1 := by decide +kernel
theorem tyJxb160c_ok : ∀ k, k < 0 → parseFieldDescriptor (TJxb160c k).2.2.1 = some (tyJxb160c k) := by decide +kernel
def RJ6 : String := "java/lang/Integer"
def TJ6 : u_T := fun k => match k with
  | _ => ("", "", "", false)
def tyJ6 : Nat → FieldType := fun k => match k with
  | _ => .int
abbrev wsJ60 : List Cond := u_ws RJ6 TJ6 0
theorem nmJ6 : ∀ a, a < 0 → ∀ b, b < 0 → a ≠ b → (TJ6 a).2.1 ≠ (TJ6 b).2.1 := by decide +kernel
theorem tyJ6_ok : ∀ k, k < 0 → parseFieldDescriptor (TJ6 k).2.2.1 = some (tyJ6 k) := by decide +kernel
abbrev cJ6_numberOfTrailingZeros_0f7a4 : ByteArray := prog_15_method_48_code
def yJ6_numberOfTrailingZeros_0f7a4 : MethodName := ⟨RJ6, "numberOfTrailingZeros", "(I)I"⟩
abbrev cJ6_bitCount_0f7a4 : ByteArray := prog_15_method_49_code
def yJ6_bitCount_0f7a4 : MethodName := ⟨RJ6, "bitCount", "(I)I"⟩
def RJ9 : String := "java/lang/Math"
def TJ9 : u_T := fun k => match k with
  | _ => ("", "", "", false)
def tyJ9 : Nat → FieldType := fun k => match k with
  | _ => .int
abbrev wsJ90 : List Cond := u_ws RJ9 TJ9 0
theorem nmJ9 : ∀ a, a < 0 → ∀ b, b < 0 → a ≠ b → (TJ9 a).2.1 ≠ (TJ9 b).2.1 := by decide +kernel
theorem tyJ9_ok : ∀ k, k < 0 → parseFieldDescriptor (TJ9 k).2.2.1 = some (tyJ9 k) := by decide +kernel
abbrev cJ9_max_7cf53 : ByteArray := prog_16_method_65_code
def yJ9_max_7cf53 : MethodName := ⟨RJ9, "max", "(II)I"⟩
abbrev cJ9_min_7cf53 : ByteArray := prog_16_method_69_code
def yJ9_min_7cf53 : MethodName := ⟨RJ9, "min", "(II)I"⟩
def RJ0 : String := "java/lang/String"
def TJ0 : u_T := fun k => match k with
  | _ => ("", "", "", false)
def tyJ0 : Nat → FieldType := fun k => match k with
  | _ => .int
abbrev wsJ00 : List Cond := u_ws RJ0 TJ0 0
theorem nmJ0 : ∀ a, a < 0 → ∀ b, b < 0 → a ≠ b → (TJ0 a).2.1 ≠ (TJ0 b).2.1 := by decide +kernel
theorem tyJ0_ok : ∀ k, k < 0 → parseFieldDescriptor (TJ0 k).2.2.1 = some (tyJ0 k) := by decide +kernel
abbrev cJ0_length_8abf5 : ByteArray := prog_17_method_54_code
def yJ0_length_8abf5 : MethodName := ⟨RJ0, "length", "()I"⟩
abbrev cJ0_charAt_5068e : ByteArray := prog_17_method_56_code
def yJ0_charAt_5068e : MethodName := ⟨RJ0, "charAt", "(I)C"⟩
abbrev cJ0_coder_7d493 : ByteArray := prog_17_method_152_code
def yJ0_coder_7d493 : MethodName := ⟨RJ0, "coder", "()B"⟩
abbrev cJ0_isLatin1_aae02 : ByteArray := prog_17_method_154_code
def yJ0_isLatin1_aae02 : MethodName := ⟨RJ0, "isLatin1", "()Z"⟩
abbrev cJ0_checkIndex_df160 : ByteArray := prog_17_method_155_code
def yJ0_checkIndex_df160 : MethodName := ⟨RJ0, "checkIndex", "(II)V"⟩
def RJ1 : String := "java/lang/StringLatin1"
def TJ1 : u_T := fun k => match k with
  | _ => ("", "", "", false)
def tyJ1 : Nat → FieldType := fun k => match k with
  | _ => .int
abbrev wsJ10 : List Cond := u_ws RJ1 TJ1 0
theorem nmJ1 : ∀ a, a < 0 → ∀ b, b < 0 → a ≠ b → (TJ1 a).2.1 ≠ (TJ1 b).2.1 := by decide +kernel
theorem tyJ1_ok : ∀ k, k < 0 → parseFieldDescriptor (TJ1 k).2.2.1 = some (tyJ1 k) := by decide +kernel
abbrev cJ1_charAt_3b067 : ByteArray := prog_18_method_2_code
def yJ1_charAt_3b067 : MethodName := ⟨RJ1, "charAt", "([BI)C"⟩
def RJ2 : String := "java/lang/StringUTF16"
def TJ2 : u_T := fun k => match k with
  | _ => ("", "", "", false)
def tyJ2 : Nat → FieldType := fun k => match k with
  | _ => .int
abbrev wsJ20 : List Cond := u_ws RJ2 TJ2 0
theorem nmJ2 : ∀ a, a < 0 → ∀ b, b < 0 → a ≠ b → (TJ2 a).2.1 ≠ (TJ2 b).2.1 := by decide +kernel
theorem tyJ2_ok : ∀ k, k < 0 → parseFieldDescriptor (TJ2 k).2.2.1 = some (tyJ2 k) := by decide +kernel
abbrev cJ2_getChar_3b067 : ByteArray := prog_19_method_5_code
def yJ2_getChar_3b067 : MethodName := ⟨RJ2, "getChar", "([BI)C"⟩
abbrev cJ2_length_9d52b : ByteArray := prog_19_method_6_code
def yJ2_length_9d52b : MethodName := ⟨RJ2, "length", "([B)I"⟩
abbrev cJ2_charAt_3b067 : ByteArray := prog_19_method_83_code
def yJ2_charAt_3b067 : MethodName := ⟨RJ2, "charAt", "([BI)C"⟩
abbrev cJ2_checkIndex_2214a : ByteArray := prog_19_method_91_code
def yJ2_checkIndex_2214a : MethodName := ⟨RJ2, "checkIndex", "(I[B)V"⟩
def RJ10 : String := "java/lang/System"
def TJ10 : u_T := fun k => match k with
  | _ => ("", "", "", false)
def tyJ10 : Nat → FieldType := fun k => match k with
  | _ => .int
abbrev wsJ100 : List Cond := u_ws RJ10 TJ10 0
theorem nmJ10 : ∀ a, a < 0 → ∀ b, b < 0 → a ≠ b → (TJ10 a).2.1 ≠ (TJ10 b).2.1 := by decide +kernel
theorem tyJ10_ok : ∀ k, k < 0 → parseFieldDescriptor (TJ10 k).2.2.1 = some (tyJ10 k) := by decide +kernel
def RJxfd54e : String := "java/lang/constant/Constable"
def TJxfd54e : u_T := fun k => match k with
  | _ => ("", "", "", false)
def tyJxfd54e : Nat → FieldType := fun k => match k with
  | _ => .int
abbrev wsJxfd54e0 : List Cond := u_ws RJxfd54e TJxfd54e 0
theorem nmJxfd54e : ∀ a, a < 0 → ∀ b, b < 0 → a ≠ b → (TJxfd54e a).2.1 ≠ (TJxfd54e b).2.1 := by decide +kernel
theorem tyJxfd54e_ok : ∀ k, k < 0 → parseFieldDescriptor (TJxfd54e k).2.2.1 = some (tyJxfd54e k) := by decide +kernel
def RJx3cf43 : String := "java/lang/constant/ConstantDesc"
def TJx3cf43 : u_T := fun k => match k with
  | _ => ("", "", "", false)
def tyJx3cf43 : Nat → FieldType := fun k => match k with
  | _ => .int
abbrev wsJx3cf430 : List Cond := u_ws RJx3cf43 TJx3cf43 0
theorem nmJx3cf43 : ∀ a, a < 0 → ∀ b, b < 0 → a ≠ b → (TJx3cf43 a).2.1 ≠ (TJx3cf43 b).2.1 := by decide +kernel
theorem tyJx3cf43_ok : ∀ k, k < 0 → parseFieldDescriptor (TJx3cf43 k).2.2.1 = some (tyJx3cf43 k) := by decide +kernel
def RJ7 : String := "java/util/Arrays"
def TJ7 : u_T := fun k => match k with
  | _ => ("", "", "", false)
def tyJ7 : Nat → FieldType := fun k => match k with
  | _ => .int
abbrev wsJ70 : List Cond := u_ws RJ7 TJ7 0
theorem nmJ7 : ∀ a, a < 0 → ∀ b, b < 0 → a ≠ b → (TJ7 a).2.1 ≠ (TJ7 b).2.1 := by decide +kernel
theorem tyJ7_ok : ∀ k, k < 0 → parseFieldDescriptor (TJ7 k).2.2.1 = some (tyJ7 k) := by decide +kernel
abbrev cJ7_fill_d0a16 : ByteArray := prog_21_method_101_code
def yJ7_fill_d0a16 : MethodName := ⟨RJ7, "fill", "([JJ)V"⟩
abbrev cJ7_fill_53178 : ByteArray := prog_21_method_103_code
def yJ7_fill_53178 : MethodName := ⟨RJ7, "fill", "([II)V"⟩
def RJ3 : String := "jdk/internal/util/Preconditions"
def TJ3 : u_T := fun k => match k with
  | _ => ("", "", "", false)
def tyJ3 : Nat → FieldType := fun k => match k with
  | _ => .int
abbrev wsJ30 : List Cond := u_ws RJ3 TJ3 0
theorem nmJ3 : ∀ a, a < 0 → ∀ b, b < 0 → a ≠ b → (TJ3 a).2.1 ≠ (TJ3 b).2.1 := by decide +kernel
theorem tyJ3_ok : ∀ k, k < 0 → parseFieldDescriptor (TJ3 k).2.2.1 = some (tyJ3 k) := by decide +kernel
abbrev cJ3_checkIndex_8e157 : ByteArray := prog_22_method_11_code
def yJ3_checkIndex_8e157 : MethodName := ⟨RJ3, "checkIndex", "(IILjava/util/function/BiFunction;)I"⟩
def RL : String := "GentleLettersLaw"
abbrev cL_law : ByteArray := code
def yL_law : MethodName := ⟨RL, "law", "([I)Z"⟩
abbrev vwCl : List vw_C := [(RX0, TX0, 20), (RX1, TX1, 5), (RX2, TX2, 4), (RX3, TX3, 4), (RX4, TX4, 1), (RX5, TX5, 5), (RX6, TX6, 3), (RX7, TX7, 4), (RX8, TX8, 4), (RX9, TX9, 6), (RX10, TX10, 10), (RX11, TX11, 11), (RX12, TX12, 29)]
end
section
/-- the tables' words that a callee may lean on -/
def BIG : List Cond := lw_tbl.filter goodWord
abbrev GG : Type := va_G × (Nat → ClassId)
abbrev TY (k : Nat → ClassId) : List (ClassId × FieldType) := [(k 0, .int), (k 1, .byte), (k 2, .boolean), (k 3, .long), (k 4, .object RX0), (k 5, .object RX8)]
def isNest : Cond → Bool
  | .fieldLinkNest _ _ _ _ _ _ => true
  | .methodLinkNest _ _ _ _ => true
  | _ => false
/-- the words on private members of nest mates -/
def nests : List Cond := lw_tbl.filter isNest
theorem nests_ok : ∀ w ∈ nests, isNest w = true := fun _ h => (List.mem_filter.mp h).2
theorem big_good : ∀ w ∈ BIG, goodWord w = true := fun _ h => (List.mem_filter.mp h).2
theorem big_in : ∀ w ∈ BIG, w ∈ lw_tbl := fun _ h => (List.mem_filter.mp h).1
theorem bi {w : Cond} (h : w ∈ lw_tbl) (hg : goodWord w = true) : w ∈ BIG := List.mem_filter.mpr ⟨h, hg⟩
theorem ne {w : Cond} (h : w ∈ lw_tbl) (hg : isNest w = true) : w ∈ nests := List.mem_filter.mpr ⟨h, hg⟩
theorem gi_code {w : Cond} (h : w ∈ BIG) : GoodIn BIG (w :: BIG) := fun v hv => by
  rcases List.mem_cons.mp hv with rfl | h2
  · exact ⟨h, good_of_word (big_good _ h)⟩
  · exact ⟨h2, good_of_word (big_good _ h2)⟩
/-- what the tables say, at any time -/
def Kn (g : GG) (U : State) : Prop := va_K g.1 vwCl (TY g.2) U ∧ (∀ w ∈ nests, va_Nw w U) ∧ va_AO RX0 U ∧ va_AO RX8 U
theorem nw_warm {w : Cond} {s U : State} (hi : isNest w = true) (hW : s.WarmedH U.vm) (h : va_Nw w s) : va_Nw w U := by
  cases w <;> first | exact va_Nw.warmF hW h | exact va_Nw.warmM hW h | exact absurd hi (by simp [isNest])
theorem nw_same {w : Cond} {s U : State} (hi : isNest w = true) (hW : s.vm = U.vm) (h : va_Nw w s) : va_Nw w U := by
  cases w <;> first | exact va_Nw.same rfl hW h | exact absurd hi (by simp [isNest])
theorem Kn.warm {g : GG} {s U : State} (hW : s.WarmedH U.vm) (h : Kn g s) : Kn g U := ⟨va_K.moved hW.alike h.1, fun w hw => nw_warm (nests_ok w hw) hW (h.2.1 w hw), va_AO.moved hW.alike h.2.2.1, va_AO.moved hW.alike h.2.2.2⟩
theorem Kn.same {g : GG} {s U : State} (hW : s.vm = U.vm) (h : Kn g s) : Kn g U := ⟨va_K.moved (by rw [hW]; exact Vm.Alike.refl _) h.1, fun w hw => nw_same (nests_ok w hw) hW (h.2.1 w hw), va_AO.moved (by rw [hW]; exact Vm.Alike.refl _) h.2.2.1, va_AO.moved (by rw [hW]; exact Vm.Alike.refl _) h.2.2.2⟩
/-- a method's start: its cells, apart -/
def PC (g : GG) (sz : Nat) (ws : va_W) (U : State) : Prop := U.heap.size = sz ∧ va_P g.1 vwCl ws U.heap ∧ Kn g U ∧ va_D (fun _ => True) ws
/-- a method's end: what it answers, its cells then -/
def QX {S : Type} (val : S → Option Value) (post : S → Prop) (g : GG) (w1 : S → va_W) (A : Nat → Prop) : Array Value → State → Outcome → State → Prop := fun _ st oc t => (∃ u : S, oc = .returned (val u) ∧ post u ∧ va_P g.1 vwCl (w1 u) t.heap ∧ va_D A (w1 u)) ∧ va_F A st t
/-- a contract -/
def Ct (l : Launch) (g : GG) (y : MethodName) (b : ByteArray) (maxL : Nat) (ret : Option FieldType) (rm : Room) (as : List Value) (wc : va_W) {S : Type} (val : S → Option Value) (post : S → Prop) (w1 : S → va_W) : Prop :=
  ∀ sz, Met l y (.code y b maxL ret :: BIG) rm (va_Pc as (PC g sz wc)) (QX val post g w1 (va_A wc sz)) rm.cells rm.slots (va_A wc sz)
/-- what a method's body may use all along -/
def Fx (p : Program) (m : MethodId) (meth : Method) (c : Code) (cc : ByteArray) (nL : Nat) (s : State) (args : Array Value) (y : MethodName) (ret : Option FieldType) (g : GG) (A : Nat → Prop) : Prop :=
  CallFix p m c cc nL s args BIG y.cls ∧ meth.sig.returnType = ret ∧ meth.locks = false ∧ Kn g s ∧ (∀ q : Nat, s.heap.size ≤ q → A q) ∧ meth.name = y.name
section CORE
variable {p : Program} {l : Launch} {e : Env} {R : Room} {s : State} {m : MethodId} {args : Array Value} {below : List Frame} {meth : Method} {c : Code} {H : Heap} {locs : List Loc} {cells slots : Nat} {Q : State → Prop}
variable {g : GG} {y : MethodName} {b : ByteArray} {maxL : Nat} {ret : Option FieldType} {rm : Room} {as : List Value} {wc : va_W} {S : Type} {val : S → Option Value} {post : S → Prop} {w1 : S → va_W}
theorem Ct.of (hy : plainName y.cls = true) (hlen : (lg_sl as).length ≤ maxL)
    (body : ∀ (p : Program) (e : Env) (s : State) (m : MethodId) (below : List Frame) (meth : Method) (c : Code) (A : Nat → Prop) (ls : Array Slot), Fx p m meth c b maxL s as.toArray y ret g A → va_P g.1 vwCl wc s.heap → va_D A wc → va_S A s.heap s.heap [] → lv_has ls maxL (lv_args 0 as) →
      W p l e rm s m as.toArray below meth c s.heap [] 0 0 (MQ below (QX val post g w1 A) as.toArray s rm.cells rm.slots A) (F0 m 0 ls [])) : Ct l g y b maxL ret rm as wc val post w1 := by
  intro sz
  refine Met.ofW (cc := b) (maxL := maxL) (ret := ret) hy rfl ?_
  intro p e s m args below meth c s₁ B hml hv
  obtain ⟨rfl, hsz, hP, hK, hD0⟩ := hv
  have hts := atoms_spec (ws := .code y b maxL ret :: BIG) B.pre
  have hown : s.vm.findClass y.cls = some m.cls := findClass_of_methodNamed B.named
  subst hsz
  have hD := hD0.self (sz := s.heap.size)
  rw [lg_entry_eq]
  exact body p e s m below meth c _ _ ⟨⟨B.exec, B.bytes, hml, hown, fun w h => hts w (List.mem_cons_of_mem _ h)⟩, B.returns, B.notSynchronized, hK, fun q h => Or.inr h, (name_of_methodNamed B.named B.method).1⟩ hP hD va_S.rf (lv_entry as hlen)
theorem pc_blind {as : List Value} {sz : Nat} : FrameBlind (va_Pc as (PC g sz wc)) := fun av U f mk q => by
  obtain ⟨q0, q1, q2, q3, q4⟩ := q
  exact ⟨q0, q1, q2, Kn.same (s := U) (U := U.calling f mk av) rfl q3, q4⟩
theorem pc_at (hKn : Kn g s) (hP : va_P g.1 vwCl wc H) (hD : va_D (fun _ => True) wc) {as : List Value} : ∀ U : State, U.heap = H → s.WarmedH U.vm → va_Pc as (PC g H.size wc) as.toArray U := fun U hU hW => ⟨rfl, by rw [hU], by rw [hU]; exact hP, hKn.warm hW, hD⟩
variable {A : Nat → Prop} {H0 : Heap} {w wr : va_W} {pc : Nat} {ls : Array Slot} {rest st0 : List Value} {a : Array Value} {mc ms : Nat}
theorem run_join (hr : va_Run p l e R s m args below meth c H locs cells slots mc ms (F0 m pc ls st0) rest (QX val post g w1 (va_A wc H.size) a) (va_A wc H.size))
    (hP : va_P g.1 vwCl w H) (hD : va_D A w) (hS : va_S A H0 H locs) (hA : ∀ q : Nat, H0.size ≤ q → A q) (isC isR : List Nat) (hC : isC.map (fun i => w[i]?) = wc.map some) (hR : isR.map (fun i => w[i]?) = wr.map some) (hn : va_nd isR = true) (hdis : ∀ i ∈ isR, i ∉ isC)
    (kk : ∀ (u : S) (H1 : Heap) (locs1 : List Loc), post u → va_P g.1 vwCl (wr ++ w1 u) H1 → va_D A (wr ++ w1 u) → va_S A H0 H1 locs1 → W p l e R s m args below meth c H1 locs1 (cells + mc) (slots + ms) Q (F0 m (pc + 3) ls ((val u).toList ++ rest))) : W p l e R s m args below meth c H locs cells slots Q (F0 m pc ls st0) := by
  intro T hT X
  have hFc := va_free (wc := wc) hD hS hA isC hC
  obtain ⟨v, st₀, t, T', L, h0, X', hL, e1, e2, ⟨⟨u, hv, hp, hp1, hd1⟩, hz, hk⟩, st⟩ := hr T hT X
  cases hv
  rw [h0] at hz hk
  rw [← e1] at hp1
  obtain ⟨hP2, hD2⟩ := va_join (wr := wr) (w1 := w1 u) hP hD isC isR hC hR hn hdis (fun q h1 h2 => by rw [e1]; exact hk q h1 h2) hFc hp1 hd1
  obtain ⟨t2, a1, b1⟩ := kk u T'.heap (locs ++ L) hp hP2 hD2
    ⟨Nat.le_trans hS.1 (by rw [e1]; exact hz), fun q h1 h2 => by rw [e1, hk q (Nat.lt_of_lt_of_le h1 hS.1) (fun z => h2 (hFc q z))]; exact hS.2.1 q h1 h2, fun q hq => by
      rcases List.mem_append.mp hq with h | h
      · exact hS.2.2 q h
      · exact hFc _ (hL q h)⟩ T' rfl X'
  exact ⟨t2, st t2 a1, b1⟩
/-- a method's own words: an instance method, a static one, a constructor -/
def MV (y : MethodName) (b : ByteArray) (maxL : Nat) (ret : Option FieldType) (n : Nat) : Prop := Cond.code y b maxL ret ∈ BIG ∧ Cond.instanceMethod y ∈ BIG ∧ Cond.selects y.cls y y ∈ BIG ∧ Cond.initialized y.cls ∈ BIG ∧ (y.cls ≠ "java/lang/invoke/MethodHandle" ∧ y.cls ≠ "java/lang/invoke/VarHandle" ∧ (parseMethodDescriptor y.desc).map (fun d => d.parameters.length) = some n)
def MS (y : MethodName) (b : ByteArray) (maxL : Nat) (ret : Option FieldType) (n : Nat) : Prop := Cond.code y b maxL ret ∈ BIG ∧ Cond.static y ∈ BIG ∧ Cond.initialized y.cls ∈ BIG ∧ (y.cls ≠ "java/lang/invoke/MethodHandle" ∧ y.cls ≠ "java/lang/invoke/VarHandle" ∧ (parseMethodDescriptor y.desc).map (fun d => d.parameters.length) = some n)
def MI (y : MethodName) (b : ByteArray) (maxL : Nat) (n : Nat) : Prop := Cond.code y b maxL none ∈ BIG ∧ Cond.instanceMethod y ∈ BIG ∧ Cond.initialized y.cls ∈ BIG ∧ y.name = "<init>" ∧ (y.cls ≠ "java/lang/invoke/MethodHandle" ∧ y.cls ≠ "java/lang/invoke/VarHandle" ∧ (parseMethodDescriptor y.desc).map (fun d => d.parameters.length) = some n)
variable {cc : ByteArray} {nL index n : Nat} {own : String} {As : List Value} {x : Nat}
theorem call_V (F : CallFix p m c cc nL s args BIG own) (hKn : Kn g s) (hM : Ct l g y b maxL ret rm (.ref x :: As) wc val post w1) (hw : MV y b maxL ret n) (hl : Cond.methodLink own index y ∈ BIG)
    {ci : Nat} {q : vw_C} {fs : List Value} (hc : vwCl[ci]? = some q) (hq : q.1 = y.cls) (he : wc[0]? = some (x, .inr (ci, fs)))
    (hP : va_P g.1 vwCl w H) (hD : va_D A w) (hS : va_S A H0 H locs) (hA : ∀ q : Nat, H0.size ≤ q → A q) (isC isR : List Nat) (hC : isC.map (fun i => w[i]?) = wc.map some) (hCn : va_nd isC = true) (hR : isR.map (fun i => w[i]?) = wr.map some) (hn : va_nd isR = true) (hdis : ∀ i ∈ isR, i ∉ isC)
    (hAs : As.length = n) (hsize : ls.size = nL) (hst : st0 = As.reverse ++ .ref x :: rest) (hW : (rest.map fun v => v.category).sum ≤ 8) (hdg : decode cc pc = .ok (.invokevirtual index, 3)) (hR1 : rm.frames + 1 ≤ R.frames ∧ 8 + (maxL + 11) + rm.locals ≤ R.locals) (hf : cells + rm.cells ≤ R.cells ∧ slots + rm.slots ≤ R.slots)
    (kk : ∀ (u : S) (H1 : Heap) (locs1 : List Loc), post u → va_P g.1 vwCl (wr ++ w1 u) H1 → va_D A (wr ++ w1 u) → va_S A H0 H1 locs1 → W p l e R s m args below meth c H1 locs1 (cells + rm.cells) (slots + rm.slots) Q (F0 m (pc + 3) ls ((val u).toList ++ rest))) : W p l e R s m args below meth c H locs cells slots Q (F0 m pc ls st0) := by
  obtain ⟨w1', w2, w3, w4, w5⟩ := hw
  have hB := F.2.2.2.2
  have hPc : va_P g.1 vwCl wc H := fun k z hz => by
    have h1 : (isC.map (fun i => w[i]?))[k]? = (wc.map some)[k]? := by rw [hC]
    rw [List.getElem?_map, List.getElem?_map, hz] at h1
    cases hi : isC[k]? with
    | none => rw [hi] at h1; simp at h1
    | some i => rw [hi] at h1; simp at h1; exact hP i z h1
  have hDc := (hD.sub isC hCn hC).weaken (B := fun _ => True) (fun _ _ _ _ => trivial)
  have hrc := va_recv hKn.1 hPc hc he
  rw [hq] at hrc
  exact run_join (va_runV F (hM H.size) ⟨callB_of n hB (gi_code w1') rfl rfl rfl (hB _ w4) (hB _ hl) w5 hR1, hB _ w2, hB _ w3⟩ ⟨pc_blind, hrc, pc_at hKn hPc hDc⟩ rfl hAs hsize hst (lv_room hW) hdg hf) hP hD hS hA isC isR hC hR hn hdis kk
theorem call_VN (F : CallFix p m c cc nL s args BIG own) (hKn : Kn g s) (hM : Ct l g y b maxL ret rm (.ref x :: As) wc val post w1) (hw : MV y b maxL ret n) (hl : Cond.methodLinkNest own index y RX11 ∈ nests)
    {ci : Nat} {q : vw_C} {fs : List Value} (hc : vwCl[ci]? = some q) (hq : q.1 = y.cls) (he : wc[0]? = some (x, .inr (ci, fs)))
    (hP : va_P g.1 vwCl w H) (hD : va_D A w) (hS : va_S A H0 H locs) (hA : ∀ q : Nat, H0.size ≤ q → A q) (isC isR : List Nat) (hC : isC.map (fun i => w[i]?) = wc.map some) (hCn : va_nd isC = true) (hR : isR.map (fun i => w[i]?) = wr.map some) (hn : va_nd isR = true) (hdis : ∀ i ∈ isR, i ∉ isC)
    (hAs : As.length = n) (hsize : ls.size = nL) (hst : st0 = As.reverse ++ .ref x :: rest) (hW : (rest.map fun v => v.category).sum ≤ 8) (hdg : decode cc pc = .ok (.invokevirtual index, 3)) (hR1 : rm.frames + 1 ≤ R.frames ∧ 8 + (maxL + 11) + rm.locals ≤ R.locals) (hf : cells + rm.cells ≤ R.cells ∧ slots + rm.slots ≤ R.slots)
    (kk : ∀ (u : S) (H1 : Heap) (locs1 : List Loc), post u → va_P g.1 vwCl (wr ++ w1 u) H1 → va_D A (wr ++ w1 u) → va_S A H0 H1 locs1 → W p l e R s m args below meth c H1 locs1 (cells + rm.cells) (slots + rm.slots) Q (F0 m (pc + 3) ls ((val u).toList ++ rest))) : W p l e R s m args below meth c H locs cells slots Q (F0 m pc ls st0) := by
  obtain ⟨w1', w2, w3, w4, w5⟩ := hw
  have hB := F.2.2.2.2
  have hPc : va_P g.1 vwCl wc H := fun k z hz => by
    have h1 : (isC.map (fun i => w[i]?))[k]? = (wc.map some)[k]? := by rw [hC]
    rw [List.getElem?_map, List.getElem?_map, hz] at h1
    cases hi : isC[k]? with
    | none => rw [hi] at h1; simp at h1
    | some i => rw [hi] at h1; simp at h1; exact hP i z h1
  have hDc := (hD.sub isC hCn hC).weaken (B := fun _ => True) (fun _ _ _ _ => trivial)
  have hrc := va_recv hKn.1 hPc hc he
  rw [hq] at hrc
  exact run_join (va_runVN F (hM H.size) ⟨va_cnB n hB (gi_code w1') rfl rfl rfl (hKn.2.1 _ hl) (hB _ w4) w5 hR1, hB _ w2, hB _ w3⟩ ⟨pc_blind, hrc, pc_at hKn hPc hDc⟩ rfl hAs hsize hst (lv_room hW) hdg hf) hP hD hS hA isC isR hC hR hn hdis kk
theorem call_S (F : CallFix p m c cc nL s args BIG own) (hKn : Kn g s) (hM : Ct l g y b maxL ret rm As wc val post w1) (hw : MS y b maxL ret n) (hl : Cond.methodLink own index y ∈ BIG)
    (hP : va_P g.1 vwCl w H) (hD : va_D A w) (hS : va_S A H0 H locs) (hA : ∀ q : Nat, H0.size ≤ q → A q) (isC isR : List Nat) (hC : isC.map (fun i => w[i]?) = wc.map some) (hCn : va_nd isC = true) (hR : isR.map (fun i => w[i]?) = wr.map some) (hn : va_nd isR = true) (hdis : ∀ i ∈ isR, i ∉ isC)
    (hAs : As.length = n) (hsize : ls.size = nL) (hst : st0 = As.reverse ++ rest) (hW : (rest.map fun v => v.category).sum ≤ 8) (hdg : decode cc pc = .ok (.invokestatic index, 3)) (hR1 : rm.frames + 1 ≤ R.frames ∧ 8 + (maxL + 11) + rm.locals ≤ R.locals) (hf : cells + rm.cells ≤ R.cells ∧ slots + rm.slots ≤ R.slots)
    (kk : ∀ (u : S) (H1 : Heap) (locs1 : List Loc), post u → va_P g.1 vwCl (wr ++ w1 u) H1 → va_D A (wr ++ w1 u) → va_S A H0 H1 locs1 → W p l e R s m args below meth c H1 locs1 (cells + rm.cells) (slots + rm.slots) Q (F0 m (pc + 3) ls ((val u).toList ++ rest))) : W p l e R s m args below meth c H locs cells slots Q (F0 m pc ls st0) := by
  obtain ⟨w1', w2, w4, w5⟩ := hw
  have hB := F.2.2.2.2
  have hPc : va_P g.1 vwCl wc H := fun k z hz => by
    have h1 : (isC.map (fun i => w[i]?))[k]? = (wc.map some)[k]? := by rw [hC]
    rw [List.getElem?_map, List.getElem?_map, hz] at h1
    cases hi : isC[k]? with
    | none => rw [hi] at h1; simp at h1
    | some i => rw [hi] at h1; simp at h1; exact hP i z h1
  have hDc := (hD.sub isC hCn hC).weaken (B := fun _ => True) (fun _ _ _ _ => trivial)
  exact run_join (va_runS F (hM H.size) ⟨callB_of n hB (gi_code w1') rfl rfl rfl (hB _ w4) (hB _ hl) w5 hR1, hB _ w2⟩ ⟨pc_blind, pc_at hKn hPc hDc⟩ rfl hAs hsize hst (lv_room hW) hdg hf) hP hD hS hA isC isR hC hR hn hdis kk
theorem call_I (F : CallFix p m c cc nL s args BIG own) (hKn : Kn g s) (hM : Ct l g y b maxL none rm (.ref x :: As) wc val post w1) (hw : MI y b maxL n) (hl : Cond.methodLink own index y ∈ BIG)
    (hP : va_P g.1 vwCl w H) (hD : va_D A w) (hS : va_S A H0 H locs) (hA : ∀ q : Nat, H0.size ≤ q → A q) (isC isR : List Nat) (hC : isC.map (fun i => w[i]?) = wc.map some) (hCn : va_nd isC = true) (hR : isR.map (fun i => w[i]?) = wr.map some) (hn : va_nd isR = true) (hdis : ∀ i ∈ isR, i ∉ isC)
    (hAs : As.length = n) (hsize : ls.size = nL) (hst : st0 = As.reverse ++ .ref x :: rest) (hW : (rest.map fun v => v.category).sum ≤ 8) (hdg : decode cc pc = .ok (.invokespecial index, 3)) (hR1 : rm.frames + 1 ≤ R.frames ∧ 8 + (maxL + 11) + rm.locals ≤ R.locals) (hf : cells + rm.cells ≤ R.cells ∧ slots + rm.slots ≤ R.slots)
    (kk : ∀ (u : S) (H1 : Heap) (locs1 : List Loc), post u → va_P g.1 vwCl (wr ++ w1 u) H1 → va_D A (wr ++ w1 u) → va_S A H0 H1 locs1 → W p l e R s m args below meth c H1 locs1 (cells + rm.cells) (slots + rm.slots) Q (F0 m (pc + 3) ls ((val u).toList ++ rest))) : W p l e R s m args below meth c H locs cells slots Q (F0 m pc ls st0) := by
  obtain ⟨w1', w2, w4, w6, w5⟩ := hw
  have hB := F.2.2.2.2
  have hPc : va_P g.1 vwCl wc H := fun k z hz => by
    have h1 : (isC.map (fun i => w[i]?))[k]? = (wc.map some)[k]? := by rw [hC]
    rw [List.getElem?_map, List.getElem?_map, hz] at h1
    cases hi : isC[k]? with
    | none => rw [hi] at h1; simp at h1
    | some i => rw [hi] at h1; simp at h1; exact hP i z h1
  have hDc := (hD.sub isC hCn hC).weaken (B := fun _ => True) (fun _ _ _ _ => trivial)
  exact run_join (va_runI F (hM H.size) ⟨callB_of n hB (gi_code w1') rfl rfl rfl (hB _ w4) (hB _ hl) w5 hR1, w6, hB _ w2⟩ ⟨pc_blind, pc_at hKn hPc hDc⟩ rfl hAs hsize hst (lv_room hW) hdg hf) hP hD hS hA isC isR hC hR hn hdis kk
theorem call_IN (F : CallFix p m c cc nL s args BIG own) (hKn : Kn g s) (hM : Ct l g y b maxL none rm (.ref x :: As) wc val post w1) (hw : MI y b maxL n) (hl : Cond.methodLinkNest own index y RX11 ∈ nests)
    (hP : va_P g.1 vwCl w H) (hD : va_D A w) (hS : va_S A H0 H locs) (hA : ∀ q : Nat, H0.size ≤ q → A q) (isC isR : List Nat) (hC : isC.map (fun i => w[i]?) = wc.map some) (hCn : va_nd isC = true) (hR : isR.map (fun i => w[i]?) = wr.map some) (hn : va_nd isR = true) (hdis : ∀ i ∈ isR, i ∉ isC)
    (hAs : As.length = n) (hsize : ls.size = nL) (hst : st0 = As.reverse ++ .ref x :: rest) (hW : (rest.map fun v => v.category).sum ≤ 8) (hdg : decode cc pc = .ok (.invokespecial index, 3)) (hR1 : rm.frames + 1 ≤ R.frames ∧ 8 + (maxL + 11) + rm.locals ≤ R.locals) (hf : cells + rm.cells ≤ R.cells ∧ slots + rm.slots ≤ R.slots)
    (kk : ∀ (u : S) (H1 : Heap) (locs1 : List Loc), post u → va_P g.1 vwCl (wr ++ w1 u) H1 → va_D A (wr ++ w1 u) → va_S A H0 H1 locs1 → W p l e R s m args below meth c H1 locs1 (cells + rm.cells) (slots + rm.slots) Q (F0 m (pc + 3) ls ((val u).toList ++ rest))) : W p l e R s m args below meth c H locs cells slots Q (F0 m pc ls st0) := by
  obtain ⟨w1', w2, w4, w6, w5⟩ := hw
  have hB := F.2.2.2.2
  have hPc : va_P g.1 vwCl wc H := fun k z hz => by
    have h1 : (isC.map (fun i => w[i]?))[k]? = (wc.map some)[k]? := by rw [hC]
    rw [List.getElem?_map, List.getElem?_map, hz] at h1
    cases hi : isC[k]? with
    | none => rw [hi] at h1; simp at h1
    | some i => rw [hi] at h1; simp at h1; exact hP i z h1
  have hDc := (hD.sub isC hCn hC).weaken (B := fun _ => True) (fun _ _ _ _ => trivial)
  exact run_join (va_runIN F (hM H.size) ⟨va_cnB n hB (gi_code w1') rfl rfl rfl (hKn.2.1 _ hl) (hB _ w4) w5 hR1, w6, hB _ w2⟩ ⟨pc_blind, pc_at hKn hPc hDc⟩ rfl hAs hsize hst (lv_room hW) hdg hf) hP hD hS hA isC isR hC hR hn hdis kk
/-- fields -/
theorem g_get (F : CallFix p m c cc nL s args BIG own) (hKn : Kn g s) (hP : va_P g.1 vwCl w H) {C : String} {T : u_T} {N ci : Nat} {a : Nat} {fs : List Value} (hin : ∀ w ∈ u_ws C T N, w ∈ BIG) (q0 : Nat) (he : w[q0]? = some (a, .inr (ci, fs))) (hc : vwCl[ci]? = some (C, T, N)) (k : Nat) (hk : k < N) (hl : Cond.fieldLink own index (T k).1 (T k).2.1 (T k).2.2.1 ∈ BIG) {v : Value} (hv : fs[k]? = some v) (hdg : decode cc pc = .ok (.getfield index, 3))
    (kk : W p l e R s m args below meth c H locs cells slots Q (F0 m (pc + 3) ls (v :: rest))) : W p l e R s m args below meth c H locs cells slots Q (F0 m pc ls (.ref a :: rest)) :=
  va_get (D := g.1) F.1 F.2.1 F.2.2.2.2 hin F.2.2.2.1 hKn.1 hP q0 he hc k hk (F.2.2.2.2 _ hl) (fun _ h => h) hv hdg kk
theorem g_getN (F : CallFix p m c cc nL s args BIG own) (hKn : Kn g s) (hP : va_P g.1 vwCl w H) {C : String} {T : u_T} {N ci : Nat} {a : Nat} {fs : List Value} (hin : ∀ w ∈ u_ws C T N, w ∈ BIG) (q0 : Nat) (he : w[q0]? = some (a, .inr (ci, fs))) (hc : vwCl[ci]? = some (C, T, N)) (k : Nat) (hk : k < N) (hl : Cond.fieldLinkNest own index (T k).1 (T k).2.1 (T k).2.2.1 RX11 ∈ nests) {v : Value} (hv : fs[k]? = some v) (hdg : decode cc pc = .ok (.getfield index, 3))
    (kk : W p l e R s m args below meth c H locs cells slots Q (F0 m (pc + 3) ls (v :: rest))) : W p l e R s m args below meth c H locs cells slots Q (F0 m pc ls (.ref a :: rest)) :=
  va_getN (D := g.1) F.1 F.2.1 F.2.2.2.2 hin F.2.2.2.1 hKn.1 hP q0 he hc k hk (va_Nw.use rfl (hKn.2.1 _ hl)) (fun _ h => h) hv hdg kk
theorem g_put (F : CallFix p m c cc nL s args BIG own) (hKn : Kn g s) (hP : va_P g.1 vwCl w H) (hD : va_D A w) (hS : va_S A H0 H locs) {C : String} {T : u_T} {N ci : Nat} {a : Nat} {fs : List Value} (hin : ∀ w ∈ u_ws C T N, w ∈ BIG) (ty0 : Nat → FieldType) (hty : ∀ k, k < N → parseFieldDescriptor (T k).2.2.1 = some (ty0 k)) (hnm : ∀ a, a < N → ∀ b, b < N → a ≠ b → (T a).2.1 ≠ (T b).2.1) (q0 : Nat) (he : w[q0]? = some (a, .inr (ci, fs))) (hc : vwCl[ci]? = some (C, T, N)) (k : Nat) (hk : k < N) (hl : Cond.fieldLink own index (T k).1 (T k).2.1 (T k).2.2.1 ∈ BIG) (hfin : (T k).2.2.2 = false) {v : Value} (hnr : narrow (ty0 k) v = v) (hft : fits (ty0 k) v = true) (hlen : k < fs.length) (hdg : decode cc pc = .ok (.putfield index, 3))
    (kk : ∀ (H1 : Heap) (locs1 : List Loc), va_P g.1 vwCl (w.set q0 (a, .inr (ci, fs.set k v))) H1 → va_D A (w.set q0 (a, .inr (ci, fs.set k v))) → va_S A H0 H1 locs1 → W p l e R s m args below meth c H1 locs1 cells slots Q (F0 m (pc + 3) ls rest)) : W p l e R s m args below meth c H locs cells slots Q (F0 m pc ls (v :: .ref a :: rest)) :=
  va_put (D := g.1) F.1 F.2.1 F.2.2.2.2 hin ty0 hty hnm F.2.2.2.1 hKn.1 hP hD hS q0 he hc k hk (F.2.2.2.2 _ hl) (fun _ h => h) hfin (hty k hk) hnr hft hlen hdg kk
theorem g_putN (F : CallFix p m c cc nL s args BIG own) (hKn : Kn g s) (hP : va_P g.1 vwCl w H) (hD : va_D A w) (hS : va_S A H0 H locs) {C : String} {T : u_T} {N ci : Nat} {a : Nat} {fs : List Value} (hin : ∀ w ∈ u_ws C T N, w ∈ BIG) (ty0 : Nat → FieldType) (hty : ∀ k, k < N → parseFieldDescriptor (T k).2.2.1 = some (ty0 k)) (hnm : ∀ a, a < N → ∀ b, b < N → a ≠ b → (T a).2.1 ≠ (T b).2.1) (q0 : Nat) (he : w[q0]? = some (a, .inr (ci, fs))) (hc : vwCl[ci]? = some (C, T, N)) (k : Nat) (hk : k < N) (hl : Cond.fieldLinkNest own index (T k).1 (T k).2.1 (T k).2.2.1 RX11 ∈ nests) (hfin : (T k).2.2.2 = false) {v : Value} (hnr : narrow (ty0 k) v = v) (hft : fits (ty0 k) v = true) (hlen : k < fs.length) (hdg : decode cc pc = .ok (.putfield index, 3))
    (kk : ∀ (H1 : Heap) (locs1 : List Loc), va_P g.1 vwCl (w.set q0 (a, .inr (ci, fs.set k v))) H1 → va_D A (w.set q0 (a, .inr (ci, fs.set k v))) → va_S A H0 H1 locs1 → W p l e R s m args below meth c H1 locs1 cells slots Q (F0 m (pc + 3) ls rest)) : W p l e R s m args below meth c H locs cells slots Q (F0 m pc ls (v :: .ref a :: rest)) :=
  va_putN (D := g.1) F.1 F.2.1 F.2.2.2.2 hin ty0 hty hnm F.2.2.2.1 hKn.1 hP hD hS q0 he hc k hk (va_Nw.use rfl (hKn.2.1 _ hl)) (fun _ h => h) hfin (hty k hk) hnr hft hlen hdg kk
theorem g_putF (F : CallFix p m c cc nL s args BIG own) (hKn : Kn g s) (hP : va_P g.1 vwCl w H) (hD : va_D A w) (hS : va_S A H0 H locs) {C : String} {T : u_T} {N ci : Nat} {a : Nat} {fs : List Value} (hin : ∀ w ∈ u_ws C T N, w ∈ BIG) (ty0 : Nat → FieldType) (hty : ∀ k, k < N → parseFieldDescriptor (T k).2.2.1 = some (ty0 k)) (hnm : ∀ a, a < N → ∀ b, b < N → a ≠ b → (T a).2.1 ≠ (T b).2.1) (q0 : Nat) (he : w[q0]? = some (a, .inr (ci, fs))) (hc : vwCl[ci]? = some (C, T, N)) (k : Nat) (hk : k < N) (hl : Cond.fieldLink own index (T k).1 (T k).2.1 (T k).2.2.1 ∈ BIG) (hfin : (T k).2.2.2 = true) (hini : meth.name = "<init>") (hdec : (T k).1 = own) {v : Value} (hnr : narrow (ty0 k) v = v) (hft : fits (ty0 k) v = true) (hlen : k < fs.length) (hdg : decode cc pc = .ok (.putfield index, 3))
    (kk : ∀ (H1 : Heap) (locs1 : List Loc), va_P g.1 vwCl (w.set q0 (a, .inr (ci, fs.set k v))) H1 → va_D A (w.set q0 (a, .inr (ci, fs.set k v))) → va_S A H0 H1 locs1 → W p l e R s m args below meth c H1 locs1 cells slots Q (F0 m (pc + 3) ls rest)) : W p l e R s m args below meth c H locs cells slots Q (F0 m pc ls (v :: .ref a :: rest)) :=
  va_putF (D := g.1) F.1 F.2.1 F.2.2.2.2 hin ty0 hty hnm F.2.2.2.1 hKn.1 hP hD hS q0 he hc k hk (F.2.2.2.2 _ hl) (fun _ h => h) hfin hini hdec (hty k hk) hnr hft hlen hdg kk
/-- a computed number by its value -/
theorem tp_i {x v : Int32} (h : x = v) (k : W p l e R s m args below meth c H locs cells slots Q (F0 m pc ls (.int v :: rest))) : W p l e R s m args below meth c H locs cells slots Q (F0 m pc ls (.int x :: rest)) := by rw [h]; exact k
theorem tp_l {x v : Int64} (h : x = v) (k : W p l e R s m args below meth c H locs cells slots Q (F0 m pc ls (.long v :: rest))) : W p l e R s m args below meth c H locs cells slots Q (F0 m pc ls (.long x :: rest)) := by rw [h]; exact k
/-- arrays of numbers made, at the class that is known -/
theorem g_newa (F : CallFix p m c cc nL s args BIG own) (hKn : Kn g s) (hP : va_P g.1 vwCl w H) (hD : va_D A w) (hS : va_S A H0 H locs) (hA : ∀ q : Nat, H0.size ≤ q → A q) {atype : ArrayType} (harr : Cond.arrayClass (newarray.typeOf atype) ∈ BIG) {ty : FieldType} (hty : newarray.typeOf atype = ty) (t0 : Nat) {cA : ClassId} (ht : (TY g.2)[t0]? = some (cA, ty)) (hpr : ∀ C, ty ≠ .object C)
    {n : Int32} {N' : Nat} {a0 : vp_A} (ha : ∀ cA : ClassId, vp_cell cA a0 = arrV cA N' (fun _ => defaultValue ty)) (hn : ¬ n < 0) (hN : n.toNatClampNeg = N') (hbytes : N' * componentBytes ty ≤ 536870912) (hcells : cells + 1 ≤ R.cells) (hslots : slots + N' ≤ R.slots) (hdg : decode cc pc = .ok (.newarray atype, 2))
    (kk : ∀ (q : Nat) (H1 : Heap), va_P g.1 vwCl (w ++ [(q, .inl (cA, a0))]) H1 → va_D A (w ++ [(q, .inl (cA, a0))]) → va_S A H0 H1 locs → W p l e R s m args below meth c H1 locs (cells + 1) (slots + N') Q (F0 m (pc + 2) ls (.ref q :: rest))) : W p l e R s m args below meth c H locs cells slots Q (F0 m pc ls (.int n :: rest)) := by
  refine va_newa (D := g.1) F.1 F.2.1 (F.2.2.2.2 _ harr) hty hKn.1 hP hD hS hA ha hn hN hbytes hcells hslots hdg (fun q cB H1 hK2 hP2 hD2 hS2 => ?_)
  have e1 := (hKn.1.2 t0 _ ht).2
  have e2 := (hK2.2 (TY g.2).length _ (by rw [List.getElem?_append_right (Nat.le_refl _), Nat.sub_self]; rfl)).2
  have e3 : cB = cA := by
    cases ty <;> first | exact absurd rfl (hpr _) | exact Option.some.inj (e2.symm.trans e1)
  subst e3
  exact kk q H1 hP2 hD2 hS2
theorem g_newq (F : CallFix p m c cc nL s args BIG own) (hKn : Kn g s) (hP : va_P g.1 vwCl w H) (hD : va_D A w) (hS : va_S A H0 H locs) (hA : ∀ q : Nat, H0.size ≤ q → A q) {C : String} (hcl : Cond.classLink own index C ∈ BIG) (hov : va_AO C s) (t0 : Nat) {cA : ClassId} (ht : (TY g.2)[t0]? = some (cA, .object C))
    {n : Int32} {N' : Nat} (hn : ¬ n < 0) (hN : n.toNatClampNeg = N') (hbytes : N' * 4 ≤ 536870912) (hcells : cells + 1 ≤ R.cells) (hslots : slots + N' ≤ R.slots) (hdg : decode cc pc = .ok (.anewarray index, 3))
    (kk : ∀ (q : Nat) (H1 : Heap), va_P g.1 vwCl (w ++ [(q, .inl (cA, N', .inr (.inr (.inr (.inr (fun _ => none))))))]) H1 → va_D A (w ++ [(q, .inl (cA, N', .inr (.inr (.inr (.inr (fun _ => none))))))]) → va_S A H0 H1 locs → W p l e R s m args below meth c H1 locs (cells + 1) (slots + N') Q (F0 m (pc + 3) ls (.ref q :: rest))) : W p l e R s m args below meth c H locs cells slots Q (F0 m pc ls (.int n :: rest)) := by
  refine va_newq (D := g.1) F.1 F.2.1 F.2.2.2.1 (F.2.2.2.2 _ hcl) hov hKn.1 hP hD hS hA hn hN hbytes hcells hslots hdg (fun q cB H1 hK2 hP2 hD2 hS2 => ?_)
  obtain ⟨kA, comp, f1, f2, f3, f4⟩ := (hKn.1.2 t0 _ ht).2
  obtain ⟨kB, comp2, g1, g2, g3, g4⟩ := (hK2.2 (TY g.2).length (cB, .object C) (by rw [List.getElem?_append_right (Nat.le_refl _), Nat.sub_self]; rfl)).2
  have e3 : cB = cA := Option.some.inj (g4.symm.trans f4)
  subst e3
  exact kk q H1 hP2 hD2 hS2
theorem g_new (F : CallFix p m c cc nL s args BIG own) (hKn : Kn g s) (hP : va_P g.1 vwCl w H) (hD : va_D A w) (hS : va_S A H0 H locs) (hA : ∀ q : Nat, H0.size ≤ q → A q) {C : String} {T : u_T} {N ci : Nat} (hin : ∀ w ∈ u_ws C T N, w ∈ BIG) (ty : Nat → FieldType) (hty : ∀ k, k < N → parseFieldDescriptor (T k).2.2.1 = some (ty k)) (hcl : Cond.classLink own index C ∈ BIG) (hinst : Cond.instantiable C N ∈ BIG) (hini : Cond.initialized C ∈ BIG) (hc : vwCl[ci]? = some (C, T, N)) {fs : List Value} (hfs : ∀ j, j < N → defaultValue (ty j) = vp_V fs j) (hcells : cells + 1 ≤ R.cells) (hslots : slots + N ≤ R.slots) (hdg : decode cc pc = .ok (.new index, 3))
    (kk : ∀ (q : Nat) (H1 : Heap), va_P g.1 vwCl (w ++ [(q, .inr (ci, fs))]) H1 → va_D A (w ++ [(q, .inr (ci, fs))]) → va_S A H0 H1 locs → W p l e R s m args below meth c H1 locs (cells + 1) (slots + N) Q (F0 m (pc + 3) ls (.ref q :: rest))) : W p l e R s m args below meth c H locs cells slots Q (F0 m pc ls rest) := by
  refine va_new (D := g.1) F.1 F.2.1 F.2.2.2.2 hin ty hty F.2.2.2.1 (F.2.2.2.2 _ hcl) (F.2.2.2.2 _ hinst) (F.2.2.2.2 _ hini) hKn.1 hP hD hS hA hc hfs hcells hslots hdg ?_
  intros
  apply kk <;> assumption
/-- ends -/
theorem rt_i (F : Fx p m meth c cc nL s args y (some .int) g A) {v : Int32} (u : S) (hv : some (Value.int v) = val u) (hp : post u) (hP : va_P g.1 vwCl (w1 u) H) (hD : va_D A (w1 u)) (hS : va_S A s.heap H locs) (h1 : cells ≤ mc) (h2 : slots ≤ ms) (hdg : decode cc pc = .ok (.ireturn, 1)) : W p l e R s m args below meth c H locs cells slots (MQ below (QX val post g w1 A) args s mc ms A) (F0 m pc ls [.int v]) := by
  obtain ⟨⟨hx, hb, hml, hown, hB⟩, hr, hlk, hKn, hA, hnm⟩ := F
  refine W.widen (k := mc) (n := ms) h1 h2 ?_
  exact W.iret (v := v) hx hb hr (fun t ht hW => ⟨⟨u, by rw [hv], hp, by rw [ht]; exact hP, hD⟩, hS.F ht⟩) hS.2.2 hdg hlk
theorem rt_z (F : Fx p m meth c cc nL s args y (some .boolean) g A) {v : Int32} (hnr : narrow .boolean (.int v) = .int v) (u : S) (hv : some (Value.int v) = val u) (hp : post u) (hP : va_P g.1 vwCl (w1 u) H) (hD : va_D A (w1 u)) (hS : va_S A s.heap H locs) (h1 : cells ≤ mc) (h2 : slots ≤ ms) (hdg : decode cc pc = .ok (.ireturn, 1)) : W p l e R s m args below meth c H locs cells slots (MQ below (QX val post g w1 A) args s mc ms A) (F0 m pc ls [.int v]) := by
  obtain ⟨⟨hx, hb, hml, hown, hB⟩, hr, hlk, hKn, hA, hnm⟩ := F
  refine W.widen (k := mc) (n := ms) h1 h2 ?_
  exact W.zret (v := v) hx hb hr hnr (fun t ht hW => ⟨⟨u, by rw [hv], hp, by rw [ht]; exact hP, hD⟩, hS.F ht⟩) hS.2.2 hdg hlk
theorem rt_v (F : Fx p m meth c cc nL s args y none g A) (u : S) (hv : none = val u) (hp : post u) (hP : va_P g.1 vwCl (w1 u) H) (hD : va_D A (w1 u)) (hS : va_S A s.heap H locs) (h1 : cells ≤ mc) (h2 : slots ≤ ms) (hdg : decode cc pc = .ok (.return_, 1)) : W p l e R s m args below meth c H locs cells slots (MQ below (QX val post g w1 A) args s mc ms A) (F0 m pc ls []) := by
  obtain ⟨⟨hx, hb, hml, hown, hB⟩, hr, hlk, hKn, hA, hnm⟩ := F
  refine W.widen (k := mc) (n := ms) h1 h2 ?_
  exact W.vret hx hb hr (fun t ht hW => ⟨⟨u, by rw [hv], hp, by rw [ht]; exact hP, hD⟩, hS.F ht⟩) hS.2.2 hdg hlk
theorem rt_n {C : String} (F : Fx p m meth c cc nL s args y (some (.object C)) g A) (u : S) (hv : some Value.null = val u) (hp : post u) (hP : va_P g.1 vwCl (w1 u) H) (hD : va_D A (w1 u)) (hS : va_S A s.heap H locs) (h1 : cells ≤ mc) (h2 : slots ≤ ms) (hdg : decode cc pc = .ok (.areturn, 1)) : W p l e R s m args below meth c H locs cells slots (MQ below (QX val post g w1 A) args s mc ms A) (F0 m pc ls [.null]) := by
  obtain ⟨⟨hx, hb, hml, hown, hB⟩, hr, hlk, hKn, hA, hnm⟩ := F
  refine W.widen (k := mc) (n := ms) h1 h2 ?_
  exact W.aret (v := .null) hx hb hr (Or.inl ⟨_, rfl⟩) (Or.inl rfl) (fun t ht hW => ⟨⟨u, by rw [hv], hp, by rw [ht]; exact hP, hD⟩, hS.F ht⟩) hS.2.2 hdg hlk
end CORE
/-- comparisons, as whole numbers -/
theorem k_lt {x y : Int32} {a b : Int} (hx : x.toInt = a) (hy : y.toInt = b) (h : x < y) : a < b := by rw [← hx, ← hy]; exact Int32.lt_iff_toInt_lt.mp h
theorem k_nlt {x y : Int32} {a b : Int} (hx : x.toInt = a) (hy : y.toInt = b) (h : ¬ x < y) : b ≤ a := by rw [← hx, ← hy]; exact Int.not_lt.mp (fun q => h (Int32.lt_iff_toInt_lt.mpr q))
theorem k_le {x y : Int32} {a b : Int} (hx : x.toInt = a) (hy : y.toInt = b) (h : x ≤ y) : a ≤ b := by rw [← hx, ← hy]; exact Int32.le_iff_toInt_le.mp h
theorem k_nle {x y : Int32} {a b : Int} (hx : x.toInt = a) (hy : y.toInt = b) (h : ¬ x ≤ y) : b < a := by rw [← hx, ← hy]; exact Int.not_le.mp (fun q => h (Int32.le_iff_toInt_le.mpr q))
theorem k_eq {x y : Int32} {a b : Int} (hx : x.toInt = a) (hy : y.toInt = b) (h : x = y) : a = b := by rw [← hx, ← hy, h]
theorem k_ne {x y : Int32} {a b : Int} (hx : x.toInt = a) (hy : y.toInt = b) (h : ¬ x = y) : a ≠ b := by rw [← hx, ← hy]; exact fun q => h (Int32.toInt_inj.mp q)
end
