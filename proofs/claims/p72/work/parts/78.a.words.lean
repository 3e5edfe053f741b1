theorem b_1106 : Cond.fieldLink RX12 100 "GentleLettersModel" "size" "I" ∈ BIG := bi (tin_6 _ (List.mem_of_getElem? (i := 108) rfl)) rfl
theorem b_1107 : Cond.fieldLink RX12 103 "GentleLettersModel" "at" "I" ∈ BIG := bi (tin_6 _ (List.mem_of_getElem? (i := 109) rfl)) rfl
theorem b_1108 : Cond.methodLink RX12 106 yX12_see ∈ BIG := bi (tin_6 _ (List.mem_of_getElem? (i := 221) rfl)) rfl
theorem b_1109 : Cond.fieldLink RX12 109 "GentleLettersModel" "from" "I" ∈ BIG := bi (tin_6 _ (List.mem_of_getElem? (i := 110) rfl)) rfl
theorem b_1110 : Cond.constantLong RX12 115 (97) ∈ BIG := bi (tin_6 _ (List.mem_of_getElem? (i := 225) rfl)) rfl
theorem b_1111 : Cond.constantLong RX12 117 (122) ∈ BIG := bi (tin_6 _ (List.mem_of_getElem? (i := 226) rfl)) rfl
theorem b_1112 : Cond.constantLong RX12 119 (48) ∈ BIG := bi (tin_6 _ (List.mem_of_getElem? (i := 227) rfl)) rfl
theorem b_1113 : Cond.constantLong RX12 121 (57) ∈ BIG := bi (tin_6 _ (List.mem_of_getElem? (i := 228) rfl)) rfl
theorem b_1114 : Cond.fieldLink RX12 112 "GentleLettersModel" "token" "I" ∈ BIG := bi (tin_6 _ (List.mem_of_getElem? (i := 111) rfl)) rfl
theorem b_1115 : Cond.fieldLink RX12 123 "GentleLettersModel" "value" "I" ∈ BIG := bi (tin_6 _ (List.mem_of_getElem? (i := 112) rfl)) rfl
theorem b_1116 : Cond.constant RX12 126 (99999) ∈ BIG := bi (tin_6 _ (List.mem_of_getElem? (i := 229) rfl)) rfl
theorem b_1117 : Cond.methodLink RX12 135 yX12_good ∈ BIG := bi (tin_6 _ (List.mem_of_getElem? (i := 231) rfl)) rfl
theorem b_1118 : Cond.code yX12_good cX12_good 1 (some .boolean) ∈ BIG := bi (tin_6 _ (List.mem_of_getElem? (i := 234) rfl)) rfl
theorem b_1119 : Cond.instanceMethod yX12_good ∈ BIG := bi (tin_6 _ (List.mem_of_getElem? (i := 233) rfl)) rfl
theorem b_1120 : Cond.selects RX12 yX12_good yX12_good ∈ BIG := bi (sin_7 _ (List.mem_map.mpr ⟨(yX12_good, 29), List.mem_of_getElem? (i := 7) rfl, rfl⟩)) rfl
theorem b_1121 : Cond.code yX12_see cX12_see 2 (some .int) ∈ BIG := bi (tin_6 _ (List.mem_of_getElem? (i := 224) rfl)) rfl
theorem b_1122 : Cond.instanceMethod yX12_see ∈ BIG := bi (tin_6 _ (List.mem_of_getElem? (i := 223) rfl)) rfl
theorem b_1123 : Cond.selects RX12 yX12_see yX12_see ∈ BIG := bi (sin_7 _ (List.mem_map.mpr ⟨(yX12_see, 29), List.mem_of_getElem? (i := 6) rfl, rfl⟩)) rfl
theorem m_yX12_good : MV yX12_good cX12_good 1 (some .boolean) 0 := ⟨b_1118, b_1119, b_1120, b_810, by decide +kernel⟩
theorem m_yX12_see : MV yX12_see cX12_see 2 (some .int) 1 := ⟨b_1121, b_1122, b_1123, b_810, by decide +kernel⟩
theorem dX12_advance_0 : decode cX12_advance 0 = .ok (.aload_n 0, 1) := by decide +kernel
theorem dX12_advance_1 : decode cX12_advance 1 = .ok (.aload_n 0, 1) := by decide +kernel
theorem dX12_advance_2 : decode cX12_advance 2 = .ok (.getfield 103, 3) := by decide +kernel
theorem dX12_advance_5 : decode cX12_advance 5 = .ok (.invokevirtual 106, 3) := by decide +kernel
theorem dX12_advance_8 : decode cX12_advance 8 = .ok (.bipush 32, 2) := by decide +kernel
theorem dX12_advance_10 : decode cX12_advance 10 = .ok (.if_icmp .eq 16, 3) := by decide +kernel
theorem dX12_advance_13 : decode cX12_advance 13 = .ok (.aload_n 0, 1) := by decide +kernel
theorem dX12_advance_14 : decode cX12_advance 14 = .ok (.aload_n 0, 1) := by decide +kernel
theorem dX12_advance_15 : decode cX12_advance 15 = .ok (.getfield 103, 3) := by decide +kernel
theorem dX12_advance_18 : decode cX12_advance 18 = .ok (.invokevirtual 106, 3) := by decide +kernel
theorem dX12_advance_21 : decode cX12_advance 21 = .ok (.bipush 10, 2) := by decide +kernel
theorem dX12_advance_23 : decode cX12_advance 23 = .ok (.if_icmp .ne 16, 3) := by decide +kernel
theorem dX12_advance_26 : decode cX12_advance 26 = .ok (.aload_n 0, 1) := by decide +kernel
theorem dX12_advance_27 : decode cX12_advance 27 = .ok (.dup, 1) := by decide +kernel
theorem dX12_advance_28 : decode cX12_advance 28 = .ok (.getfield 103, 3) := by decide +kernel
theorem dX12_advance_31 : decode cX12_advance 31 = .ok (.iconst 1, 1) := by decide +kernel
theorem dX12_advance_32 : decode cX12_advance 32 = .ok (.iadd, 1) := by decide +kernel
theorem dX12_advance_33 : decode cX12_advance 33 = .ok (.putfield 103, 3) := by decide +kernel
theorem dX12_advance_36 : decode cX12_advance 36 = .ok (.goto (-36), 3) := by decide +kernel
theorem dX12_advance_39 : decode cX12_advance 39 = .ok (.aload_n 0, 1) := by decide +kernel
theorem dX12_advance_40 : decode cX12_advance 40 = .ok (.aload_n 0, 1) := by decide +kernel
theorem dX12_advance_41 : decode cX12_advance 41 = .ok (.getfield 103, 3) := by decide +kernel
theorem dX12_advance_44 : decode cX12_advance 44 = .ok (.putfield 109, 3) := by decide +kernel
theorem dX12_advance_47 : decode cX12_advance 47 = .ok (.aload_n 0, 1) := by decide +kernel
theorem dX12_advance_48 : decode cX12_advance 48 = .ok (.aload_n 0, 1) := by decide +kernel
theorem dX12_advance_49 : decode cX12_advance 49 = .ok (.getfield 103, 3) := by decide +kernel
theorem dX12_advance_52 : decode cX12_advance 52 = .ok (.invokevirtual 106, 3) := by decide +kernel
theorem dX12_advance_55 : decode cX12_advance 55 = .ok (.istore_n 1, 1) := by decide +kernel
theorem dX12_advance_56 : decode cX12_advance 56 = .ok (.iload_n 1, 1) := by decide +kernel
theorem dX12_advance_57 : decode cX12_advance 57 = .ok (.iconst (-1), 1) := by decide +kernel
theorem dX12_advance_58 : decode cX12_advance 58 = .ok (.if_icmp .ne 11, 3) := by decide +kernel
theorem dX12_advance_61 : decode cX12_advance 61 = .ok (.aload_n 0, 1) := by decide +kernel
theorem dX12_advance_62 : decode cX12_advance 62 = .ok (.iconst 0, 1) := by decide +kernel
theorem dX12_advance_63 : decode cX12_advance 63 = .ok (.putfield 112, 3) := by decide +kernel
theorem dX12_advance_66 : decode cX12_advance 66 = .ok (.goto 173, 3) := by decide +kernel
theorem dX12_advance_69 : decode cX12_advance 69 = .ok (.iload_n 1, 1) := by decide +kernel
theorem dX12_advance_70 : decode cX12_advance 70 = .ok (.i2l, 1) := by decide +kernel
theorem dX12_advance_71 : decode cX12_advance 71 = .ok (.ldc2_w 115, 3) := by decide +kernel
theorem dX12_advance_74 : decode cX12_advance 74 = .ok (.ldc2_w 117, 3) := by decide +kernel
theorem dX12_advance_77 : decode cX12_advance 77 = .ok (.invokestatic 67, 3) := by decide +kernel
theorem dX12_advance_80 : decode cX12_advance 80 = .ok (.ifCond .eq 45, 3) := by decide +kernel
theorem dX12_advance_83 : decode cX12_advance 83 = .ok (.aload_n 0, 1) := by decide +kernel
theorem dX12_advance_84 : decode cX12_advance 84 = .ok (.aload_n 0, 1) := by decide +kernel
theorem dX12_advance_85 : decode cX12_advance 85 = .ok (.getfield 103, 3) := by decide +kernel
theorem dX12_advance_88 : decode cX12_advance 88 = .ok (.invokevirtual 106, 3) := by decide +kernel
theorem dX12_advance_91 : decode cX12_advance 91 = .ok (.i2l, 1) := by decide +kernel
theorem dX12_advance_92 : decode cX12_advance 92 = .ok (.ldc2_w 115, 3) := by decide +kernel
theorem dX12_advance_95 : decode cX12_advance 95 = .ok (.ldc2_w 117, 3) := by decide +kernel
theorem dX12_advance_98 : decode cX12_advance 98 = .ok (.invokestatic 67, 3) := by decide +kernel
theorem dX12_advance_101 : decode cX12_advance 101 = .ok (.ifCond .eq 16, 3) := by decide +kernel
theorem dX12_advance_104 : decode cX12_advance 104 = .ok (.aload_n 0, 1) := by decide +kernel
theorem dX12_advance_105 : decode cX12_advance 105 = .ok (.dup, 1) := by decide +kernel
theorem dX12_advance_106 : decode cX12_advance 106 = .ok (.getfield 103, 3) := by decide +kernel
theorem dX12_advance_109 : decode cX12_advance 109 = .ok (.iconst 1, 1) := by decide +kernel
theorem dX12_advance_110 : decode cX12_advance 110 = .ok (.iadd, 1) := by decide +kernel
theorem dX12_advance_111 : decode cX12_advance 111 = .ok (.putfield 103, 3) := by decide +kernel
theorem dX12_advance_114 : decode cX12_advance 114 = .ok (.goto (-31), 3) := by decide +kernel
theorem dX12_advance_117 : decode cX12_advance 117 = .ok (.aload_n 0, 1) := by decide +kernel
theorem dX12_advance_118 : decode cX12_advance 118 = .ok (.iconst 1, 1) := by decide +kernel
theorem dX12_advance_119 : decode cX12_advance 119 = .ok (.putfield 112, 3) := by decide +kernel
theorem dX12_advance_122 : decode cX12_advance 122 = .ok (.goto 117, 3) := by decide +kernel
theorem dX12_advance_125 : decode cX12_advance 125 = .ok (.iload_n 1, 1) := by decide +kernel
theorem dX12_advance_126 : decode cX12_advance 126 = .ok (.i2l, 1) := by decide +kernel
theorem dX12_advance_127 : decode cX12_advance 127 = .ok (.ldc2_w 119, 3) := by decide +kernel
theorem dX12_advance_130 : decode cX12_advance 130 = .ok (.ldc2_w 121, 3) := by decide +kernel
theorem dX12_advance_133 : decode cX12_advance 133 = .ok (.invokestatic 67, 3) := by decide +kernel
theorem dX12_advance_136 : decode cX12_advance 136 = .ok (.ifCond .eq 78, 3) := by decide +kernel
theorem dX12_advance_139 : decode cX12_advance 139 = .ok (.aload_n 0, 1) := by decide +kernel
theorem dX12_advance_140 : decode cX12_advance 140 = .ok (.iconst 0, 1) := by decide +kernel
theorem dX12_advance_141 : decode cX12_advance 141 = .ok (.putfield 123, 3) := by decide +kernel
theorem dX12_advance_144 : decode cX12_advance 144 = .ok (.aload_n 0, 1) := by decide +kernel
theorem dX12_advance_145 : decode cX12_advance 145 = .ok (.aload_n 0, 1) := by decide +kernel
theorem dX12_advance_146 : decode cX12_advance 146 = .ok (.getfield 103, 3) := by decide +kernel
theorem dX12_advance_149 : decode cX12_advance 149 = .ok (.invokevirtual 106, 3) := by decide +kernel
theorem dX12_advance_152 : decode cX12_advance 152 = .ok (.i2l, 1) := by decide +kernel
theorem dX12_advance_153 : decode cX12_advance 153 = .ok (.ldc2_w 119, 3) := by decide +kernel
theorem dX12_advance_156 : decode cX12_advance 156 = .ok (.ldc2_w 121, 3) := by decide +kernel
theorem dX12_advance_159 : decode cX12_advance 159 = .ok (.invokestatic 67, 3) := by decide +kernel
theorem dX12_advance_162 : decode cX12_advance 162 = .ok (.ifCond .eq 44, 3) := by decide +kernel
theorem dX12_advance_165 : decode cX12_advance 165 = .ok (.aload_n 0, 1) := by decide +kernel
theorem dX12_advance_166 : decode cX12_advance 166 = .ok (.ldc 126, 2) := by decide +kernel
theorem dX12_advance_168 : decode cX12_advance 168 = .ok (.bipush 10, 2) := by decide +kernel
theorem dX12_advance_170 : decode cX12_advance 170 = .ok (.aload_n 0, 1) := by decide +kernel
theorem dX12_advance_171 : decode cX12_advance 171 = .ok (.getfield 123, 3) := by decide +kernel
theorem dX12_advance_174 : decode cX12_advance 174 = .ok (.imul, 1) := by decide +kernel
theorem dX12_advance_175 : decode cX12_advance 175 = .ok (.aload_n 0, 1) := by decide +kernel
theorem dX12_advance_176 : decode cX12_advance 176 = .ok (.aload_n 0, 1) := by decide +kernel
theorem dX12_advance_177 : decode cX12_advance 177 = .ok (.getfield 103, 3) := by decide +kernel
theorem dX12_advance_180 : decode cX12_advance 180 = .ok (.invokevirtual 106, 3) := by decide +kernel
theorem dX12_advance_183 : decode cX12_advance 183 = .ok (.iadd, 1) := by decide +kernel
theorem dX12_advance_184 : decode cX12_advance 184 = .ok (.bipush 48, 2) := by decide +kernel
theorem dX12_advance_186 : decode cX12_advance 186 = .ok (.isub, 1) := by decide +kernel
theorem dX12_advance_187 : decode cX12_advance 187 = .ok (.invokestatic 127, 3) := by decide +kernel
theorem dX12_advance_190 : decode cX12_advance 190 = .ok (.putfield 123, 3) := by decide +kernel
theorem dX12_advance_193 : decode cX12_advance 193 = .ok (.aload_n 0, 1) := by decide +kernel
theorem dX12_advance_194 : decode cX12_advance 194 = .ok (.dup, 1) := by decide +kernel
theorem dX12_advance_195 : decode cX12_advance 195 = .ok (.getfield 103, 3) := by decide +kernel
theorem dX12_advance_198 : decode cX12_advance 198 = .ok (.iconst 1, 1) := by decide +kernel
theorem dX12_advance_199 : decode cX12_advance 199 = .ok (.iadd, 1) := by decide +kernel
theorem dX12_advance_200 : decode cX12_advance 200 = .ok (.putfield 103, 3) := by decide +kernel
theorem dX12_advance_203 : decode cX12_advance 203 = .ok (.goto (-59), 3) := by decide +kernel
theorem dX12_advance_206 : decode cX12_advance 206 = .ok (.aload_n 0, 1) := by decide +kernel
theorem dX12_advance_207 : decode cX12_advance 207 = .ok (.iconst 2, 1) := by decide +kernel
theorem dX12_advance_208 : decode cX12_advance 208 = .ok (.putfield 112, 3) := by decide +kernel
theorem dX12_advance_211 : decode cX12_advance 211 = .ok (.goto 28, 3) := by decide +kernel
theorem dX12_advance_214 : decode cX12_advance 214 = .ok (.aload_n 0, 1) := by decide +kernel
theorem dX12_advance_215 : decode cX12_advance 215 = .ok (.iload_n 1, 1) := by decide +kernel
theorem dX12_advance_216 : decode cX12_advance 216 = .ok (.bipush 59, 2) := by decide +kernel
theorem dX12_advance_218 : decode cX12_advance 218 = .ok (.if_icmp .ne 7, 3) := by decide +kernel
theorem dX12_advance_221 : decode cX12_advance 221 = .ok (.iconst 3, 1) := by decide +kernel
theorem dX12_advance_222 : decode cX12_advance 222 = .ok (.goto 4, 3) := by decide +kernel
theorem dX12_advance_225 : decode cX12_advance 225 = .ok (.iconst 4, 1) := by decide +kernel
theorem dX12_advance_226 : decode cX12_advance 226 = .ok (.putfield 112, 3) := by decide +kernel
theorem dX12_advance_229 : decode cX12_advance 229 = .ok (.aload_n 0, 1) := by decide +kernel
theorem dX12_advance_230 : decode cX12_advance 230 = .ok (.dup, 1) := by decide +kernel
theorem dX12_advance_231 : decode cX12_advance 231 = .ok (.getfield 103, 3) := by decide +kernel
theorem dX12_advance_234 : decode cX12_advance 234 = .ok (.iconst 1, 1) := by decide +kernel
theorem dX12_advance_235 : decode cX12_advance 235 = .ok (.iadd, 1) := by decide +kernel
theorem dX12_advance_236 : decode cX12_advance 236 = .ok (.putfield 103, 3) := by decide +kernel
theorem dX12_advance_239 : decode cX12_advance 239 = .ok (.return_, 1) := by decide +kernel
theorem dX12_errs_0 : decode cX12_errs 0 = .ok (.aload_n 0, 1) := by decide +kernel
theorem dX12_errs_1 : decode cX12_errs 1 = .ok (.invokevirtual 135, 3) := by decide +kernel
theorem dX12_errs_4 : decode cX12_errs 4 = .ok (.ifCond .ne 4, 3) := by decide +kernel
theorem dX12_errs_7 : decode cX12_errs 7 = .ok (.return_, 1) := by decide +kernel
theorem dX12_errs_8 : decode cX12_errs 8 = .ok (.aload_n 0, 1) := by decide +kernel
theorem dX12_errs_9 : decode cX12_errs 9 = .ok (.iload_n 1, 1) := by decide +kernel
theorem dX12_errs_10 : decode cX12_errs 10 = .ok (.putfield 132, 3) := by decide +kernel
theorem dX12_errs_13 : decode cX12_errs 13 = .ok (.aload_n 0, 1) := by decide +kernel
theorem dX12_errs_14 : decode cX12_errs 14 = .ok (.aload_n 0, 1) := by decide +kernel
theorem dX12_errs_15 : decode cX12_errs 15 = .ok (.getfield 109, 3) := by decide +kernel
theorem dX12_errs_18 : decode cX12_errs 18 = .ok (.putfield 27, 3) := by decide +kernel
theorem dX12_errs_21 : decode cX12_errs 21 = .ok (.return_, 1) := by decide +kernel
theorem dX12_good_0 : decode cX12_good 0 = .ok (.aload_n 0, 1) := by decide +kernel
theorem dX12_good_1 : decode cX12_good 1 = .ok (.getfield 132, 3) := by decide +kernel
theorem dX12_good_4 : decode cX12_good 4 = .ok (.ifCond .ne 7, 3) := by decide +kernel
theorem dX12_good_7 : decode cX12_good 7 = .ok (.iconst 1, 1) := by decide +kernel
theorem dX12_good_8 : decode cX12_good 8 = .ok (.goto 4, 3) := by decide +kernel
theorem dX12_good_11 : decode cX12_good 11 = .ok (.iconst 0, 1) := by decide +kernel
theorem dX12_good_12 : decode cX12_good 12 = .ok (.ireturn, 1) := by decide +kernel
theorem dX12_see_0 : decode cX12_see 0 = .ok (.iload_n 1, 1) := by decide +kernel
theorem dX12_see_1 : decode cX12_see 1 = .ok (.aload_n 0, 1) := by decide +kernel
theorem dX12_see_2 : decode cX12_see 2 = .ok (.getfield 100, 3) := by decide +kernel
theorem dX12_see_5 : decode cX12_see 5 = .ok (.if_icmp .ge 16, 3) := by decide +kernel
theorem dX12_see_8 : decode cX12_see 8 = .ok (.aload_n 0, 1) := by decide +kernel
theorem dX12_see_9 : decode cX12_see 9 = .ok (.getfield 20, 3) := by decide +kernel
theorem dX12_see_12 : decode cX12_see 12 = .ok (.iload_n 1, 1) := by decide +kernel
theorem dX12_see_13 : decode cX12_see 13 = .ok (.baload, 1) := by decide +kernel
theorem dX12_see_14 : decode cX12_see 14 = .ok (.sipush 255, 3) := by decide +kernel
theorem dX12_see_17 : decode cX12_see 17 = .ok (.iand, 1) := by decide +kernel
theorem dX12_see_18 : decode cX12_see 18 = .ok (.goto 4, 3) := by decide +kernel
theorem dX12_see_21 : decode cX12_see 21 = .ok (.iconst (-1), 1) := by decide +kernel
theorem dX12_see_22 : decode cX12_see 22 = .ok (.ireturn, 1) := by decide +kernel
def seF (t : Nat → Int32) (n k : Int32) : Int32 := if k.toInt < n.toInt then t k.toNatClampNeg &&& 255 else -1
theorem se_1 {t : Nat → Int32} {n k : Int32} (h : k.toInt < n.toInt) : seF t n k = t k.toNatClampNeg &&& 255 := if_pos h
theorem se_2 {t : Nat → Int32} {n k : Int32} (h : n.toInt ≤ k.toInt) : seF t n k = -1 := if_neg (by omega)
/-- the reader stands on this text -/
def isC (fk tk a fr : Int32) (ii : Nat) : Prop := fk.toInt = 0 ∧ tk.toInt = 1 ∧ a.toInt - fr.toInt = (sl ii).toInt
def isM (t : Nat → Int32) (fr : Int32) (ii : Nat) (n : Int) : Prop := ∀ k : Nat, (k : Int) < n → t (fr.toInt.toNat + k) = chr ii k
def isP (fk tk a fr : Int32) (t : Nat → Int32) (ii : Nat) : Prop := isC fk tk a fr ii ∧ isM t fr ii (sl ii).toInt
noncomputable def isF (fk tk a fr : Int32) (t : Nat → Int32) (ii : Nat) : Int32 := @ite Int32 (isP fk tk a fr t ii) (Classical.propDecidable _) 1 0
def isL (x : Int32) (k : Int) (fk tk a fr : Int32) (t : Nat → Int32) (ii : Nat) : Prop := (x.toInt = 1 ∧ isC fk tk a fr ii ∧ isM t fr ii k) ∨ (x.toInt = 0 ∧ ¬ isP fk tk a fr t ii)
theorem is_1 {x k fk tk a fr : Int32} {t : Nat → Int32} {ii : Nat} (h : isL x k.toInt fk tk a fr t ii) (hk : (sl ii).toInt ≤ k.toInt) : x = isF fk tk a fr t ii := by
  unfold isF
  rcases h with ⟨h1, h2, h3⟩ | ⟨h1, h2⟩
  · rw [if_pos ⟨h2, fun k hk' => h3 k (by omega)⟩]
    exact Int32.toInt_inj.mp (h1.trans (by decide))
  · rw [if_neg h2]
    exact Int32.toInt_inj.mp (h1.trans (by decide))
theorem is_0 {x fk tk a fr : Int32} {k : Int} {t : Nat → Int32} {ii : Nat} (h : isL x k fk tk a fr t ii) (h0 : x.toInt = 0) : x = isF fk tk a fr t ii := by
  unfold isF
  rcases h with ⟨h1, h2, h3⟩ | ⟨h1, h2⟩
  · omega
  · rw [if_neg h2]
    exact Int32.toInt_inj.mp (h1.trans (by decide))
theorem is_n {k : Int} {fk tk a fr : Int32} {t : Nat → Int32} {ii : Nat} (h : ¬ isC fk tk a fr ii) : isL 0 k fk tk a fr t ii := Or.inr ⟨by decide, fun q => h q.1⟩
theorem is_y {fk tk a fr : Int32} {t : Nat → Int32} {ii : Nat} (h : isC fk tk a fr ii) : isL 1 (0 : Int32).toInt fk tk a fr t ii := Or.inl ⟨by decide, h, fun k hk => absurd hk (by rw [show (0 : Int32).toInt = 0 by decide]; omega)⟩
theorem is_s {x k k' z fk tk a fr v : Int32} {t : Nat → Int32} {ii : Nat} (h : isL x k.toInt fk tk a fr t ii) (h1 : x.toInt = 1) (h0 : 0 ≤ k.toInt) (hk : k'.toInt = k.toInt + 1) (hf : 0 ≤ fr.toInt) (hz : z.toInt = fr.toInt + k.toInt) (hv : v = t z.toNatClampNeg) (hc : v.toInt = (chr ii k.toNatClampNeg).toInt) : isL 1 k'.toInt fk tk a fr t ii := by
  rcases h with ⟨-, h2, h3⟩ | ⟨q, -⟩
  · refine Or.inl ⟨by decide, h2, fun j hj => ?_⟩
    by_cases e : (j : Int) < k.toInt
    · exact h3 j e
    · obtain rfl : j = k.toInt.toNat := by omega
      rw [← ixe (x := z) (n := fr.toInt.toNat + k.toInt.toNat) (by omega), ← hv]
      have e2 : k.toNatClampNeg = k.toInt.toNat := ixe (by omega)
      rw [← e2]
      exact Int32.toInt_inj.mp hc
  · omega
theorem is_d {k k' z fk tk a fr v : Int32} {t : Nat → Int32} {ii : Nat} (h0 : 0 ≤ k.toInt) (hl : k.toInt < (sl ii).toInt) (hf : 0 ≤ fr.toInt) (hz : z.toInt = fr.toInt + k.toInt) (hv : v = t z.toNatClampNeg) (hc : v.toInt ≠ (chr ii k.toNatClampNeg).toInt) : isL 0 k'.toInt fk tk a fr t ii := by
  refine Or.inr ⟨by decide, fun q => hc ?_⟩
  have := q.2 k.toInt.toNat (by omega)
  rw [← ixe (x := z) (n := fr.toInt.toNat + k.toInt.toNat) (by omega), ← hv] at this
  rw [this, show k.toNatClampNeg = k.toInt.toNat from ixe (by omega)]
theorem isF_b (fk tk a fr : Int32) (t : Nat → Int32) (ii : Nat) : (0 ≤ (isF fk tk a fr t ii).toInt ∧ (isF fk tk a fr t ii).toInt ≤ 1) ∧ ((isF fk tk a fr t ii).toInt = 1 → fk.toInt = 0 ∧ tk.toInt = 1) := by
  unfold isF
  by_cases h : isP fk tk a fr t ii
  · rw [if_pos h]; exact ⟨by decide, fun _ => ⟨h.1.1, h.1.2.1⟩⟩
  · rw [if_neg h]; exact ⟨by decide, fun q => absurd q (by decide)⟩
theorem or_p {x y : Int32} (h1 : 0 ≤ x.toInt) (h2 : 1 ≤ y.toInt) : 1 ≤ (x ||| y).toInt := by
  obtain ⟨q1, q2⟩ := toNat_of h1
  obtain ⟨q3, q4⟩ := toNat_of (x := y) (by omega)
  have h5 : (x ||| y).toBitVec.toNat < 2 ^ 31 := by
    rw [Int32.toBitVec_or, BitVec.toNat_or]
    exact Nat.or_lt_two_pow q2 q4
  have h6 : y.toBitVec.toNat ≤ (x ||| y).toBitVec.toNat := by
    rw [Int32.toBitVec_or, BitVec.toNat_or]
    exact Nat.right_le_or
  rw [of_toNat h5]
  omega

