/-- the tables' words that a callee may lean on -/
def BIG : List Cond := lw_tbl.filter goodWord
abbrev GG : Type := va_G × (Nat → ClassId)
abbrev TY (k : Nat → ClassId) : List (ClassId × FieldType) := [(k 0, .int), (k 1, .byte), (k 2, .boolean), (k 3, .long), (k 4, .object RX0), (k 5, .object RX8)]
def isNest : Cond → Bool
  | .fieldLinkNest _ _ _ _ _ _ => true
  | .methodLinkNest _ _ _ _ => true
  | _ => false
/-- the words on private members of nest mates -/
def nests : List Cond := lw_tbl.filter isNest
theorem nests_ok : ∀ w ∈ nests, isNest w = true := fun _ h => (List.mem_filter.mp h).2
theorem big_good : ∀ w ∈ BIG, goodWord w = true := fun _ h => (List.mem_filter.mp h).2
theorem big_in : ∀ w ∈ BIG, w ∈ lw_tbl := fun _ h => (List.mem_filter.mp h).1
theorem bi {w : Cond} (h : w ∈ lw_tbl) (hg : goodWord w = true) : w ∈ BIG := List.mem_filter.mpr ⟨h, hg⟩
theorem ne {w : Cond} (h : w ∈ lw_tbl) (hg : isNest w = true) : w ∈ nests := List.mem_filter.mpr ⟨h, hg⟩
theorem gi_code {w : Cond} (h : w ∈ BIG) : GoodIn BIG (w :: BIG) := fun v hv => by
  rcases List.mem_cons.mp hv with rfl | h2
  · exact ⟨h, good_of_word (big_good _ h)⟩
  · exact ⟨h2, good_of_word (big_good _ h2)⟩
/-- what the tables say, at any time -/
def Kn (g : GG) (U : State) : Prop := va_K g.1 vwCl (TY g.2) U ∧ (∀ w ∈ nests, va_Nw w U) ∧ va_AO RX0 U ∧ va_AO RX8 U
theorem nw_warm {w : Cond} {s U : State} (hi : isNest w = true) (hW : s.WarmedH U.vm) (h : va_Nw w s) : va_Nw w U := by
  cases w <;> first | exact va_Nw.warmF hW h | exact va_Nw.warmM hW h | exact absurd hi (by simp [isNest])
theorem nw_same {w : Cond} {s U : State} (hi : isNest w = true) (hW : s.vm = U.vm) (h : va_Nw w s) : va_Nw w U := by
  cases w <;> first | exact va_Nw.same rfl hW h | exact absurd hi (by simp [isNest])
theorem Kn.warm {g : GG} {s U : State} (hW : s.WarmedH U.vm) (h : Kn g s) : Kn g U := ⟨va_K.moved hW.alike h.1, fun w hw => nw_warm (nests_ok w hw) hW (h.2.1 w hw), va_AO.moved hW.alike h.2.2.1, va_AO.moved hW.alike h.2.2.2⟩
theorem Kn.same {g : GG} {s U : State} (hW : s.vm = U.vm) (h : Kn g s) : Kn g U := ⟨va_K.moved (by rw [hW]; exact Vm.Alike.refl _) h.1, fun w hw => nw_same (nests_ok w hw) hW (h.2.1 w hw), va_AO.moved (by rw [hW]; exact Vm.Alike.refl _) h.2.2.1, va_AO.moved (by rw [hW]; exact Vm.Alike.refl _) h.2.2.2⟩
/-- the String constants: whose, which entry, the text, its bytes -/
def STR : List (String × Nat × String × List Int32) := [("GentleLetters$DeskReader", 125, "desk", [100, 101, 115, 107]), ("GentleLetters$DeskReader", 127, "states", [115, 116, 97, 116, 101, 115]), ("GentleLetters$DeskReader", 135, "really", [114, 101, 97, 108, 108, 121]), ("GentleLetters$DeskReader", 139, "days", [100, 97, 121, 115]), ("GentleLetters$DeskReader", 143, "heal", [104, 101, 97, 108]), ("GentleLetters$DeskReader", 147, "leak", [108, 101, 97, 107]), ("GentleLetters$DeskReader", 84, "grades", [103, 114, 97, 100, 101, 115]), ("GentleLetters$DeskReader", 89, "hearer", [104, 101, 97, 114, 101, 114]), ("GentleLetters$DeskReader", 154, "thinks", [116, 104, 105, 110, 107, 115]), ("GentleLetters$DeskReader", 159, "reckons", [114, 101, 99, 107, 111, 110, 115]), ("GentleLetters$DeskReader", 97, "word", [119, 111, 114, 100]), ("GentleLetters$DeskReader", 164, "shame", [115, 104, 97, 109, 101]), ("GentleLetters$DeskReader", 166, "of", [111, 102]), ("GentleLetters$DeskReader", 105, "plan", [112, 108, 97, 110]), ("GentleLetters$DeskReader", 113, "news", [110, 101, 119, 115]), ("GentleLetters$DeskReader", 180, "good", [103, 111, 111, 100]), ("GentleLetters$DeskReader", 182, "bad", [98, 97, 100]), ("GentleLetters$DeskReader", 120, "tells", [116, 101, 108, 108, 115]), ("GentleLettersModel", 168, "desk", [100, 101, 115, 107]), ("GentleLettersModel", 170, "states", [115, 116, 97, 116, 101, 115]), ("GentleLettersModel", 176, "really", [114, 101, 97, 108, 108, 121]), ("GentleLettersModel", 181, "days", [100, 97, 121, 115]), ("GentleLettersModel", 183, "heal", [104, 101, 97, 108]), ("GentleLettersModel", 185, "leak", [108, 101, 97, 107]), ("GentleLettersModel", 198, "grades", [103, 114, 97, 100, 101, 115]), ("GentleLettersModel", 200, "hearer", [104, 101, 97, 114, 101, 114]), ("GentleLettersModel", 202, "word", [119, 111, 114, 100]), ("GentleLettersModel", 204, "plan", [112, 108, 97, 110]), ("GentleLettersModel", 206, "news", [110, 101, 119, 115]), ("GentleLettersModel", 208, "tells", [116, 101, 108, 108, 115]), ("GentleLettersModel", 187, "thinks", [116, 104, 105, 110, 107, 115]), ("GentleLettersModel", 189, "reckons", [114, 101, 99, 107, 111, 110, 115]), ("GentleLettersModel", 191, "shame", [115, 104, 97, 109, 101]), ("GentleLettersModel", 193, "of", [111, 102]), ("GentleLettersModel", 195, "good", [103, 111, 111, 100]), ("GentleLettersModel", 196, "bad", [98, 97, 100])]
def sa (g : GG) (i : Nat) : Nat := g.2 (10 + 2 * i)
def sv (g : GG) (i : Nat) : Nat := g.2 (11 + 2 * i)
def SZ1 (g : GG) (A : Nat → Prop) (U : State) (H : Heap) (i : Nat) (q : String × Nat × String × List Int32) : Prop := vk_R q.1 q.2.1 q.2.2.1 (sa g i) U ∧ va_O "java/lang/String" (sa g i) A U H ∧ va_OF "java/lang/String" "coder" "B" (.int 0) (sa g i) A U H ∧ va_OF "java/lang/String" "value" "[B" (.ref (sv g i)) (sa g i) A U H ∧ va_T .byte (sv g i) q.2.2.2.length (fun j => .int (q.2.2.2.getD j 0)) A U H
/-- what is known of the String constants, outside of what a method may change -/
def SZ (g : GG) (A : Nat → Prop) (U : State) : Prop := va_Z "java/lang/String" "COMPACT_STRINGS" "Z" (.int 1) A U U.heap ∧ va_Zq "jdk/internal/util/Preconditions" "SIOOBE_FORMATTER" "Ljava/util/function/BiFunction;" A U U.heap ∧ ∀ (i : Nat) (q : String × Nat × String × List Int32), STR[i]? = some q → SZ1 g A U U.heap i q
theorem SZ.to {g : GG} {A B : Nat → Prop} {s U : State} {H : Heap} {locs : List Loc} (h : SZ g A s) (hS : va_S A s.heap H locs) (hAB : ∀ q, B q → A q) (hU : U.heap = H) (hW : s.WarmedH U.vm) : SZ g B U := by
  subst hU
  refine ⟨((h.1.kept hS.2.1).moved hW.alike).narrow hAB, ((h.2.1.kept hS.2.1).moved hW.alike).narrow hAB, fun i q hq => ?_⟩
  obtain ⟨a1, a2, a3, a4, a5⟩ := h.2.2 i q hq
  exact ⟨a1.warm hW, ((a2.kept hS.2.1).moved hW.alike).narrow hAB, ((a3.kept hS.2.1).moved hW.alike).narrow hAB, ((a4.kept hS.2.1).moved hW.alike).narrow hAB, ((a5.kept hS.2.1).moved hW.alike).narrow hAB⟩
theorem SZ.same {g : GG} {A : Nat → Prop} {s U : State} (hv : s.vm = U.vm) (hh : s.heap = U.heap) (h : SZ g A s) : SZ g A U := by
  have hW : s.vm.Alike U.vm := by rw [hv]; exact Vm.Alike.refl _
  unfold SZ
  rw [← hh]
  refine ⟨h.1.moved hW, h.2.1.moved hW, fun i q hq => ?_⟩
  obtain ⟨a1, a2, a3, a4, a5⟩ := h.2.2 i q hq
  exact ⟨a1.same hv.symm, a2.moved hW, a3.moved hW, a4.moved hW, a5.moved hW⟩
/-- a text's length -/
def sl (i : Nat) : Int32 := Int32.ofNat ((STR.map (fun q => q.2.2.2.length)).getD i 0)
/-- a text's char at a place -/
def sch (i : Nat) (k : Nat) : Int32 := ((STR.map (fun q => q.2.2.2)).getD i []).getD k 0
theorem sl_all : ∀ i : Fin 36, 1 ≤ (sl i.val).toInt ∧ (sl i.val).toInt ≤ 7 ∧ (STR[i.val]?.map (fun q => (q.2.2.2.length : Int))) = some (sl i.val).toInt := by decide +kernel
theorem sl_b {i : Nat} (h : i < 36) : 1 ≤ (sl i).toInt ∧ (sl i).toInt ≤ 7 := ⟨(sl_all ⟨i, h⟩).1, (sl_all ⟨i, h⟩).2.1⟩
theorem str_q {i : Nat} (h : i < 36) : ∃ q, STR[i]? = some q ∧ (q.2.2.2.length : Int) = (sl i).toInt ∧ Int32.ofNat q.2.2.2.length = sl i ∧ (∀ k : Nat, q.2.2.2.getD k 0 = sch i k) := by
  have hl : STR.length = 36 := by decide
  have e : STR[i]? = some (STR[i]'(by rw [hl]; exact h)) := List.getElem?_eq_getElem (by rw [hl]; exact h)
  refine ⟨_, e, ?_, ?_, fun k => ?_⟩
  · have h3 := (sl_all ⟨i, h⟩).2.2
    simp only [e, Option.map_some] at h3
    exact Option.some.inj h3
  · unfold sl
    rw [List.getD_eq_getElem?_getD, List.getElem?_map, e]
    rfl
  · unfold sch
    rw [List.getD_eq_getElem?_getD (l := STR.map _), List.getElem?_map, e]
    rfl
/-- a method's start: its cells, apart -/
def PC (g : GG) (sz : Nat) (ws : va_W) (U : State) : Prop := U.heap.size = sz ∧ va_P g.1 vwCl ws U.heap ∧ Kn g U ∧ va_D (fun _ => True) ws ∧ SZ g (va_A ws sz) U
/-- a method's end: what it answers, its cells then -/
def QX {S : Type} (val : S → Option Value) (post : S → Prop) (g : GG) (w1 : S → va_W) (A : Nat → Prop) : Array Value → State → Outcome → State → Prop := fun _ st oc t => (∃ u : S, oc = .returned (val u) ∧ post u ∧ va_P g.1 vwCl (w1 u) t.heap ∧ va_D A (w1 u)) ∧ va_F A st t
/-- a contract -/
def Ct (l : Launch) (g : GG) (y : MethodName) (b : ByteArray) (maxL : Nat) (ret : Option FieldType) (rm : Room) (as : List Value) (wc : va_W) {S : Type} (val : S → Option Value) (post : S → Prop) (w1 : S → va_W) : Prop :=
  ∀ sz, Met l y (.code y b maxL ret :: BIG) rm (va_Pc as (PC g sz wc)) (QX val post g w1 (va_A wc sz)) rm.cells rm.slots (va_A wc sz)
/-- what a method's body may use all along -/
def Fx (p : Program) (m : MethodId) (meth : Method) (c : Code) (cc : ByteArray) (nL : Nat) (s : State) (args : Array Value) (y : MethodName) (ret : Option FieldType) (g : GG) (A : Nat → Prop) : Prop :=
  CallFix p m c cc nL s args BIG y.cls ∧ meth.sig.returnType = ret ∧ meth.locks = false ∧ Kn g s ∧ (∀ q : Nat, s.heap.size ≤ q → A q) ∧ meth.name = y.name ∧ SZ g A s
section CORE
variable {p : Program} {l : Launch} {e : Env} {R : Room} {s : State} {m : MethodId} {args : Array Value} {below : List Frame} {meth : Method} {c : Code} {H : Heap} {locs : List Loc} {cells slots : Nat} {Q : State → Prop}
variable {g : GG} {y : MethodName} {b : ByteArray} {maxL : Nat} {ret : Option FieldType} {rm : Room} {as : List Value} {wc : va_W} {S : Type} {val : S → Option Value} {post : S → Prop} {w1 : S → va_W}
theorem Ct.of (hy : plainName y.cls = true) (hlen : (lg_sl as).length ≤ maxL)
    (body : ∀ (p : Program) (e : Env) (s : State) (m : MethodId) (below : List Frame) (meth : Method) (c : Code) (A : Nat → Prop) (ls : Array Slot), Fx p m meth c b maxL s as.toArray y ret g A → va_P g.1 vwCl wc s.heap → va_D A wc → va_S A s.heap s.heap [] → lv_has ls maxL (lv_args 0 as) →
      W p l e rm s m as.toArray below meth c s.heap [] 0 0 (MQ below (QX val post g w1 A) as.toArray s rm.cells rm.slots A) (F0 m 0 ls [])) : Ct l g y b maxL ret rm as wc val post w1 := by
  intro sz
  refine Met.ofW (cc := b) (maxL := maxL) (ret := ret) hy rfl ?_
  intro p e s m args below meth c s₁ B hml hv
  obtain ⟨rfl, hsz, hP, hK, hD0, hZ0⟩ := hv
  have hts := atoms_spec (ws := .code y b maxL ret :: BIG) B.pre
  have hown : s.vm.findClass y.cls = some m.cls := findClass_of_methodNamed B.named
  subst hsz
  have hD := hD0.self (sz := s.heap.size)
  rw [lg_entry_eq]
  exact body p e s m below meth c _ _ ⟨⟨B.exec, B.bytes, hml, hown, fun w h => hts w (List.mem_cons_of_mem _ h)⟩, B.returns, B.notSynchronized, hK, fun q h => Or.inr h, (name_of_methodNamed B.named B.method).1, hZ0⟩ hP hD va_S.rf (lv_entry as hlen)
theorem pc_blind {as : List Value} {sz : Nat} : FrameBlind (va_Pc as (PC g sz wc)) := fun av U f mk q => by
  obtain ⟨q0, q1, q2, q3, q4, q5⟩ := q
  exact ⟨q0, q1, q2, Kn.same (s := U) (U := U.calling f mk av) rfl q3, q4, SZ.same (s := U) (U := U.calling f mk av) rfl rfl q5⟩
theorem pc_at (hKn : Kn g s) (hP : va_P g.1 vwCl wc H) (hD : va_D (fun _ => True) wc) (hZ : ∀ U : State, U.heap = H → s.WarmedH U.vm → SZ g (va_A wc H.size) U) {as : List Value} : ∀ U : State, U.heap = H → s.WarmedH U.vm → va_Pc as (PC g H.size wc) as.toArray U := fun U hU hW => ⟨rfl, by rw [hU], by rw [hU]; exact hP, hKn.warm hW, hD, hZ U hU hW⟩
variable {A : Nat → Prop} {H0 : Heap} {w wr : va_W} {pc : Nat} {ls : Array Slot} {rest st0 : List Value} {a : Array Value} {mc ms : Nat}
theorem run_join (hr : va_Run p l e R s m args below meth c H locs cells slots mc ms (F0 m pc ls st0) rest (QX val post g w1 (va_A wc H.size) a) (va_A wc H.size))
    (hP : va_P g.1 vwCl w H) (hD : va_D A w) (hS : va_S A H0 H locs) (hA : ∀ q : Nat, H0.size ≤ q → A q) (isC isR : List Nat) (hC : isC.map (fun i => w[i]?) = wc.map some) (hR : isR.map (fun i => w[i]?) = wr.map some) (hn : va_nd isR = true) (hdis : ∀ i ∈ isR, i ∉ isC)
    (kk : ∀ (u : S) (H1 : Heap) (locs1 : List Loc), post u → va_P g.1 vwCl (wr ++ w1 u) H1 → va_D A (wr ++ w1 u) → va_S A H0 H1 locs1 → W p l e R s m args below meth c H1 locs1 (cells + mc) (slots + ms) Q (F0 m (pc + 3) ls ((val u).toList ++ rest))) : W p l e R s m args below meth c H locs cells slots Q (F0 m pc ls st0) := by
  intro T hT X
  have hFc := va_free (wc := wc) hD hS hA isC hC
  obtain ⟨v, st₀, t, T', L, h0, X', hL, e1, e2, ⟨⟨u, hv, hp, hp1, hd1⟩, hz, hk⟩, st⟩ := hr T hT X
  cases hv
  rw [h0] at hz hk
  rw [← e1] at hp1
  obtain ⟨hP2, hD2⟩ := va_join (wr := wr) (w1 := w1 u) hP hD isC isR hC hR hn hdis (fun q h1 h2 => by rw [e1]; exact hk q h1 h2) hFc hp1 hd1
  obtain ⟨t2, a1, b1⟩ := kk u T'.heap (locs ++ L) hp hP2 hD2
    ⟨Nat.le_trans hS.1 (by rw [e1]; exact hz), fun q h1 h2 => by rw [e1, hk q (Nat.lt_of_lt_of_le h1 hS.1) (fun z => h2 (hFc q z))]; exact hS.2.1 q h1 h2, fun q hq => by
      rcases List.mem_append.mp hq with h | h
      · exact hS.2.2 q h
      · exact hFc _ (hL q h)⟩ T' rfl X'
  exact ⟨t2, st t2 a1, b1⟩
/-- a method's own words: an instance method, a static one, a constructor -/
def MV (y : MethodName) (b : ByteArray) (maxL : Nat) (ret : Option FieldType) (n : Nat) : Prop := Cond.code y b maxL ret ∈ BIG ∧ Cond.instanceMethod y ∈ BIG ∧ Cond.selects y.cls y y ∈ BIG ∧ Cond.initialized y.cls ∈ BIG ∧ (y.cls ≠ "java/lang/invoke/MethodHandle" ∧ y.cls ≠ "java/lang/invoke/VarHandle" ∧ (parseMethodDescriptor y.desc).map (fun d => d.parameters.length) = some n)
def MS (y : MethodName) (b : ByteArray) (maxL : Nat) (ret : Option FieldType) (n : Nat) : Prop := Cond.code y b maxL ret ∈ BIG ∧ Cond.static y ∈ BIG ∧ Cond.initialized y.cls ∈ BIG ∧ (y.cls ≠ "java/lang/invoke/MethodHandle" ∧ y.cls ≠ "java/lang/invoke/VarHandle" ∧ (parseMethodDescriptor y.desc).map (fun d => d.parameters.length) = some n)
def MI (y : MethodName) (b : ByteArray) (maxL : Nat) (n : Nat) : Prop := Cond.code y b maxL none ∈ BIG ∧ Cond.instanceMethod y ∈ BIG ∧ Cond.initialized y.cls ∈ BIG ∧ y.name = "<init>" ∧ (y.cls ≠ "java/lang/invoke/MethodHandle" ∧ y.cls ≠ "java/lang/invoke/VarHandle" ∧ (parseMethodDescriptor y.desc).map (fun d => d.parameters.length) = some n)
variable {cc : ByteArray} {nL index n : Nat} {own : String} {As : List Value} {x : Nat}
theorem call_V (F : CallFix p m c cc nL s args BIG own) (hKn : Kn g s) (hZ : SZ g A s) (hM : Ct l g y b maxL ret rm (.ref x :: As) wc val post w1) (hw : MV y b maxL ret n) (hl : Cond.methodLink own index y ∈ BIG)
    {ci : Nat} {q : vw_C} {fs : List Value} (hc : vwCl[ci]? = some q) (hq : q.1 = y.cls) (he : wc[0]? = some (x, .inr (ci, fs)))
    (hP : va_P g.1 vwCl w H) (hD : va_D A w) (hS : va_S A s.heap H locs) (hA : ∀ q : Nat, s.heap.size ≤ q → A q) (isC isR : List Nat) (hC : isC.map (fun i => w[i]?) = wc.map some) (hCn : va_nd isC = true) (hR : isR.map (fun i => w[i]?) = wr.map some) (hn : va_nd isR = true) (hdis : ∀ i ∈ isR, i ∉ isC)
    (hAs : As.length = n) (hsize : ls.size = nL) (hst : st0 = As.reverse ++ .ref x :: rest) (hW : (rest.map fun v => v.category).sum ≤ 8) (hdg : decode cc pc = .ok (.invokevirtual index, 3)) (hR1 : rm.frames + 1 ≤ R.frames ∧ 8 + (maxL + 11) + rm.locals ≤ R.locals) (hf : cells + rm.cells ≤ R.cells ∧ slots + rm.slots ≤ R.slots)
    (kk : ∀ (u : S) (H1 : Heap) (locs1 : List Loc), post u → va_P g.1 vwCl (wr ++ w1 u) H1 → va_D A (wr ++ w1 u) → va_S A s.heap H1 locs1 → W p l e R s m args below meth c H1 locs1 (cells + rm.cells) (slots + rm.slots) Q (F0 m (pc + 3) ls ((val u).toList ++ rest))) : W p l e R s m args below meth c H locs cells slots Q (F0 m pc ls st0) := by
  obtain ⟨w1', w2, w3, w4, w5⟩ := hw
  have hB := F.2.2.2.2
  have hPc : va_P g.1 vwCl wc H := fun k z hz => by
    have h1 : (isC.map (fun i => w[i]?))[k]? = (wc.map some)[k]? := by rw [hC]
    rw [List.getElem?_map, List.getElem?_map, hz] at h1
    cases hi : isC[k]? with
    | none => rw [hi] at h1; simp at h1
    | some i => rw [hi] at h1; simp at h1; exact hP i z h1
  have hDc := (hD.sub isC hCn hC).weaken (B := fun _ => True) (fun _ _ _ _ => trivial)
  have hrc := va_recv hKn.1 hPc hc he
  rw [hq] at hrc
  exact run_join (va_runV F (hM H.size) ⟨callB_of n hB (gi_code w1') rfl rfl rfl (hB _ w4) (hB _ hl) w5 hR1, hB _ w2, hB _ w3⟩ ⟨pc_blind, hrc, pc_at hKn hPc hDc (fun U hU hW => hZ.to hS (va_free (wc := wc) hD hS hA isC hC) hU hW)⟩ rfl hAs hsize hst (lv_room hW) hdg hf) hP hD hS hA isC isR hC hR hn hdis kk
theorem call_VN (F : CallFix p m c cc nL s args BIG own) (hKn : Kn g s) (hZ : SZ g A s) (hM : Ct l g y b maxL ret rm (.ref x :: As) wc val post w1) (hw : MV y b maxL ret n) (hl : Cond.methodLinkNest own index y RX11 ∈ nests)
    {ci : Nat} {q : vw_C} {fs : List Value} (hc : vwCl[ci]? = some q) (hq : q.1 = y.cls) (he : wc[0]? = some (x, .inr (ci, fs)))
    (hP : va_P g.1 vwCl w H) (hD : va_D A w) (hS : va_S A s.heap H locs) (hA : ∀ q : Nat, s.heap.size ≤ q → A q) (isC isR : List Nat) (hC : isC.map (fun i => w[i]?) = wc.map some) (hCn : va_nd isC = true) (hR : isR.map (fun i => w[i]?) = wr.map some) (hn : va_nd isR = true) (hdis : ∀ i ∈ isR, i ∉ isC)
    (hAs : As.length = n) (hsize : ls.size = nL) (hst : st0 = As.reverse ++ .ref x :: rest) (hW : (rest.map fun v => v.category).sum ≤ 8) (hdg : decode cc pc = .ok (.invokevirtual index, 3)) (hR1 : rm.frames + 1 ≤ R.frames ∧ 8 + (maxL + 11) + rm.locals ≤ R.locals) (hf : cells + rm.cells ≤ R.cells ∧ slots + rm.slots ≤ R.slots)
    (kk : ∀ (u : S) (H1 : Heap) (locs1 : List Loc), post u → va_P g.1 vwCl (wr ++ w1 u) H1 → va_D A (wr ++ w1 u) → va_S A s.heap H1 locs1 → W p l e R s m args below meth c H1 locs1 (cells + rm.cells) (slots + rm.slots) Q (F0 m (pc + 3) ls ((val u).toList ++ rest))) : W p l e R s m args below meth c H locs cells slots Q (F0 m pc ls st0) := by
  obtain ⟨w1', w2, w3, w4, w5⟩ := hw
  have hB := F.2.2.2.2
  have hPc : va_P g.1 vwCl wc H := fun k z hz => by
    have h1 : (isC.map (fun i => w[i]?))[k]? = (wc.map some)[k]? := by rw [hC]
    rw [List.getElem?_map, List.getElem?_map, hz] at h1
    cases hi : isC[k]? with
    | none => rw [hi] at h1; simp at h1
    | some i => rw [hi] at h1; simp at h1; exact hP i z h1
  have hDc := (hD.sub isC hCn hC).weaken (B := fun _ => True) (fun _ _ _ _ => trivial)
  have hrc := va_recv hKn.1 hPc hc he
  rw [hq] at hrc
  exact run_join (va_runVN F (hM H.size) ⟨va_cnB n hB (gi_code w1') rfl rfl rfl (hKn.2.1 _ hl) (hB _ w4) w5 hR1, hB _ w2, hB _ w3⟩ ⟨pc_blind, hrc, pc_at hKn hPc hDc (fun U hU hW => hZ.to hS (va_free (wc := wc) hD hS hA isC hC) hU hW)⟩ rfl hAs hsize hst (lv_room hW) hdg hf) hP hD hS hA isC isR hC hR hn hdis kk
theorem call_S (F : CallFix p m c cc nL s args BIG own) (hKn : Kn g s) (hZ : SZ g A s) (hM : Ct l g y b maxL ret rm As wc val post w1) (hw : MS y b maxL ret n) (hl : Cond.methodLink own index y ∈ BIG)
    (hP : va_P g.1 vwCl w H) (hD : va_D A w) (hS : va_S A s.heap H locs) (hA : ∀ q : Nat, s.heap.size ≤ q → A q) (isC isR : List Nat) (hC : isC.map (fun i => w[i]?) = wc.map some) (hCn : va_nd isC = true) (hR : isR.map (fun i => w[i]?) = wr.map some) (hn : va_nd isR = true) (hdis : ∀ i ∈ isR, i ∉ isC)
    (hAs : As.length = n) (hsize : ls.size = nL) (hst : st0 = As.reverse ++ rest) (hW : (rest.map fun v => v.category).sum ≤ 8) (hdg : decode cc pc = .ok (.invokestatic index, 3)) (hR1 : rm.frames + 1 ≤ R.frames ∧ 8 + (maxL + 11) + rm.locals ≤ R.locals) (hf : cells + rm.cells ≤ R.cells ∧ slots + rm.slots ≤ R.slots)
    (kk : ∀ (u : S) (H1 : Heap) (locs1 : List Loc), post u → va_P g.1 vwCl (wr ++ w1 u) H1 → va_D A (wr ++ w1 u) → va_S A s.heap H1 locs1 → W p l e R s m args below meth c H1 locs1 (cells + rm.cells) (slots + rm.slots) Q (F0 m (pc + 3) ls ((val u).toList ++ rest))) : W p l e R s m args below meth c H locs cells slots Q (F0 m pc ls st0) := by
  obtain ⟨w1', w2, w4, w5⟩ := hw
  have hB := F.2.2.2.2
  have hPc : va_P g.1 vwCl wc H := fun k z hz => by
    have h1 : (isC.map (fun i => w[i]?))[k]? = (wc.map some)[k]? := by rw [hC]
    rw [List.getElem?_map, List.getElem?_map, hz] at h1
    cases hi : isC[k]? with
    | none => rw [hi] at h1; simp at h1
    | some i => rw [hi] at h1; simp at h1; exact hP i z h1
  have hDc := (hD.sub isC hCn hC).weaken (B := fun _ => True) (fun _ _ _ _ => trivial)
  exact run_join (va_runS F (hM H.size) ⟨callB_of n hB (gi_code w1') rfl rfl rfl (hB _ w4) (hB _ hl) w5 hR1, hB _ w2⟩ ⟨pc_blind, pc_at hKn hPc hDc (fun U hU hW => hZ.to hS (va_free (wc := wc) hD hS hA isC hC) hU hW)⟩ rfl hAs hsize hst (lv_room hW) hdg hf) hP hD hS hA isC isR hC hR hn hdis kk
theorem call_I (F : CallFix p m c cc nL s args BIG own) (hKn : Kn g s) (hZ : SZ g A s) (hM : Ct l g y b maxL none rm (.ref x :: As) wc val post w1) (hw : MI y b maxL n) (hl : Cond.methodLink own index y ∈ BIG)
    (hP : va_P g.1 vwCl w H) (hD : va_D A w) (hS : va_S A s.heap H locs) (hA : ∀ q : Nat, s.heap.size ≤ q → A q) (isC isR : List Nat) (hC : isC.map (fun i => w[i]?) = wc.map some) (hCn : va_nd isC = true) (hR : isR.map (fun i => w[i]?) = wr.map some) (hn : va_nd isR = true) (hdis : ∀ i ∈ isR, i ∉ isC)
    (hAs : As.length = n) (hsize : ls.size = nL) (hst : st0 = As.reverse ++ .ref x :: rest) (hW : (rest.map fun v => v.category).sum ≤ 8) (hdg : decode cc pc = .ok (.invokespecial index, 3)) (hR1 : rm.frames + 1 ≤ R.frames ∧ 8 + (maxL + 11) + rm.locals ≤ R.locals) (hf : cells + rm.cells ≤ R.cells ∧ slots + rm.slots ≤ R.slots)
    (kk : ∀ (u : S) (H1 : Heap) (locs1 : List Loc), post u → va_P g.1 vwCl (wr ++ w1 u) H1 → va_D A (wr ++ w1 u) → va_S A s.heap H1 locs1 → W p l e R s m args below meth c H1 locs1 (cells + rm.cells) (slots + rm.slots) Q (F0 m (pc + 3) ls ((val u).toList ++ rest))) : W p l e R s m args below meth c H locs cells slots Q (F0 m pc ls st0) := by
  obtain ⟨w1', w2, w4, w6, w5⟩ := hw
  have hB := F.2.2.2.2
  have hPc : va_P g.1 vwCl wc H := fun k z hz => by
    have h1 : (isC.map (fun i => w[i]?))[k]? = (wc.map some)[k]? := by rw [hC]
    rw [List.getElem?_map, List.getElem?_map, hz] at h1
    cases hi : isC[k]? with
    | none => rw [hi] at h1; simp at h1
    | some i => rw [hi] at h1; simp at h1; exact hP i z h1
  have hDc := (hD.sub isC hCn hC).weaken (B := fun _ => True) (fun _ _ _ _ => trivial)
  exact run_join (va_runI F (hM H.size) ⟨callB_of n hB (gi_code w1') rfl rfl rfl (hB _ w4) (hB _ hl) w5 hR1, w6, hB _ w2⟩ ⟨pc_blind, pc_at hKn hPc hDc (fun U hU hW => hZ.to hS (va_free (wc := wc) hD hS hA isC hC) hU hW)⟩ rfl hAs hsize hst (lv_room hW) hdg hf) hP hD hS hA isC isR hC hR hn hdis kk
theorem call_IN (F : CallFix p m c cc nL s args BIG own) (hKn : Kn g s) (hZ : SZ g A s) (hM : Ct l g y b maxL none rm (.ref x :: As) wc val post w1) (hw : MI y b maxL n) (hl : Cond.methodLinkNest own index y RX11 ∈ nests)
    (hP : va_P g.1 vwCl w H) (hD : va_D A w) (hS : va_S A s.heap H locs) (hA : ∀ q : Nat, s.heap.size ≤ q → A q) (isC isR : List Nat) (hC : isC.map (fun i => w[i]?) = wc.map some) (hCn : va_nd isC = true) (hR : isR.map (fun i => w[i]?) = wr.map some) (hn : va_nd isR = true) (hdis : ∀ i ∈ isR, i ∉ isC)
    (hAs : As.length = n) (hsize : ls.size = nL) (hst : st0 = As.reverse ++ .ref x :: rest) (hW : (rest.map fun v => v.category).sum ≤ 8) (hdg : decode cc pc = .ok (.invokespecial index, 3)) (hR1 : rm.frames + 1 ≤ R.frames ∧ 8 + (maxL + 11) + rm.locals ≤ R.locals) (hf : cells + rm.cells ≤ R.cells ∧ slots + rm.slots ≤ R.slots)
    (kk : ∀ (u : S) (H1 : Heap) (locs1 : List Loc), post u → va_P g.1 vwCl (wr ++ w1 u) H1 → va_D A (wr ++ w1 u) → va_S A s.heap H1 locs1 → W p l e R s m args below meth c H1 locs1 (cells + rm.cells) (slots + rm.slots) Q (F0 m (pc + 3) ls ((val u).toList ++ rest))) : W p l e R s m args below meth c H locs cells slots Q (F0 m pc ls st0) := by
  obtain ⟨w1', w2, w4, w6, w5⟩ := hw
  have hB := F.2.2.2.2
  have hPc : va_P g.1 vwCl wc H := fun k z hz => by
    have h1 : (isC.map (fun i => w[i]?))[k]? = (wc.map some)[k]? := by rw [hC]
    rw [List.getElem?_map, List.getElem?_map, hz] at h1
    cases hi : isC[k]? with
    | none => rw [hi] at h1; simp at h1
    | some i => rw [hi] at h1; simp at h1; exact hP i z h1
  have hDc := (hD.sub isC hCn hC).weaken (B := fun _ => True) (fun _ _ _ _ => trivial)
  exact run_join (va_runIN F (hM H.size) ⟨va_cnB n hB (gi_code w1') rfl rfl rfl (hKn.2.1 _ hl) (hB _ w4) w5 hR1, w6, hB _ w2⟩ ⟨pc_blind, pc_at hKn hPc hDc (fun U hU hW => hZ.to hS (va_free (wc := wc) hD hS hA isC hC) hU hW)⟩ rfl hAs hsize hst (lv_room hW) hdg hf) hP hD hS hA isC isR hC hR hn hdis kk
/-- fields -/
theorem g_get (F : CallFix p m c cc nL s args BIG own) (hKn : Kn g s) (hP : va_P g.1 vwCl w H) {C : String} {T : u_T} {N ci : Nat} {a : Nat} {fs : List Value} (hin : ∀ w ∈ u_ws C T N, w ∈ BIG) (q0 : Nat) (he : w[q0]? = some (a, .inr (ci, fs))) (hc : vwCl[ci]? = some (C, T, N)) (k : Nat) (hk : k < N) (hl : Cond.fieldLink own index (T k).1 (T k).2.1 (T k).2.2.1 ∈ BIG) {v : Value} (hv : fs[k]? = some v) (hdg : decode cc pc = .ok (.getfield index, 3))
    (kk : W p l e R s m args below meth c H locs cells slots Q (F0 m (pc + 3) ls (v :: rest))) : W p l e R s m args below meth c H locs cells slots Q (F0 m pc ls (.ref a :: rest)) :=
  va_get (D := g.1) F.1 F.2.1 F.2.2.2.2 hin F.2.2.2.1 hKn.1 hP q0 he hc k hk (F.2.2.2.2 _ hl) (fun _ h => h) hv hdg kk
theorem g_getN (F : CallFix p m c cc nL s args BIG own) (hKn : Kn g s) (hP : va_P g.1 vwCl w H) {C : String} {T : u_T} {N ci : Nat} {a : Nat} {fs : List Value} (hin : ∀ w ∈ u_ws C T N, w ∈ BIG) (q0 : Nat) (he : w[q0]? = some (a, .inr (ci, fs))) (hc : vwCl[ci]? = some (C, T, N)) (k : Nat) (hk : k < N) (hl : Cond.fieldLinkNest own index (T k).1 (T k).2.1 (T k).2.2.1 RX11 ∈ nests) {v : Value} (hv : fs[k]? = some v) (hdg : decode cc pc = .ok (.getfield index, 3))
    (kk : W p l e R s m args below meth c H locs cells slots Q (F0 m (pc + 3) ls (v :: rest))) : W p l e R s m args below meth c H locs cells slots Q (F0 m pc ls (.ref a :: rest)) :=
  va_getN (D := g.1) F.1 F.2.1 F.2.2.2.2 hin F.2.2.2.1 hKn.1 hP q0 he hc k hk (va_Nw.use rfl (hKn.2.1 _ hl)) (fun _ h => h) hv hdg kk
theorem g_put (F : CallFix p m c cc nL s args BIG own) (hKn : Kn g s) (hP : va_P g.1 vwCl w H) (hD : va_D A w) (hS : va_S A H0 H locs) {C : String} {T : u_T} {N ci : Nat} {a : Nat} {fs : List Value} (hin : ∀ w ∈ u_ws C T N, w ∈ BIG) (ty0 : Nat → FieldType) (hty : ∀ k, k < N → parseFieldDescriptor (T k).2.2.1 = some (ty0 k)) (hnm : ∀ a, a < N → ∀ b, b < N → a ≠ b → (T a).2.1 ≠ (T b).2.1) (q0 : Nat) (he : w[q0]? = some (a, .inr (ci, fs))) (hc : vwCl[ci]? = some (C, T, N)) (k : Nat) (hk : k < N) (hl : Cond.fieldLink own index (T k).1 (T k).2.1 (T k).2.2.1 ∈ BIG) (hfin : (T k).2.2.2 = false) {v : Value} (hnr : narrow (ty0 k) v = v) (hft : fits (ty0 k) v = true) (hlen : k < fs.length) (hdg : decode cc pc = .ok (.putfield index, 3))
    (kk : ∀ (H1 : Heap) (locs1 : List Loc), va_P g.1 vwCl (w.set q0 (a, .inr (ci, fs.set k v))) H1 → va_D A (w.set q0 (a, .inr (ci, fs.set k v))) → va_S A H0 H1 locs1 → W p l e R s m args below meth c H1 locs1 cells slots Q (F0 m (pc + 3) ls rest)) : W p l e R s m args below meth c H locs cells slots Q (F0 m pc ls (v :: .ref a :: rest)) :=
  va_put (D := g.1) F.1 F.2.1 F.2.2.2.2 hin ty0 hty hnm F.2.2.2.1 hKn.1 hP hD hS q0 he hc k hk (F.2.2.2.2 _ hl) (fun _ h => h) hfin (hty k hk) hnr hft hlen hdg kk
theorem g_putN (F : CallFix p m c cc nL s args BIG own) (hKn : Kn g s) (hP : va_P g.1 vwCl w H) (hD : va_D A w) (hS : va_S A H0 H locs) {C : String} {T : u_T} {N ci : Nat} {a : Nat} {fs : List Value} (hin : ∀ w ∈ u_ws C T N, w ∈ BIG) (ty0 : Nat → FieldType) (hty : ∀ k, k < N → parseFieldDescriptor (T k).2.2.1 = some (ty0 k)) (hnm : ∀ a, a < N → ∀ b, b < N → a ≠ b → (T a).2.1 ≠ (T b).2.1) (q0 : Nat) (he : w[q0]? = some (a, .inr (ci, fs))) (hc : vwCl[ci]? = some (C, T, N)) (k : Nat) (hk : k < N) (hl : Cond.fieldLinkNest own index (T k).1 (T k).2.1 (T k).2.2.1 RX11 ∈ nests) (hfin : (T k).2.2.2 = false) {v : Value} (hnr : narrow (ty0 k) v = v) (hft : fits (ty0 k) v = true) (hlen : k < fs.length) (hdg : decode cc pc = .ok (.putfield index, 3))
    (kk : ∀ (H1 : Heap) (locs1 : List Loc), va_P g.1 vwCl (w.set q0 (a, .inr (ci, fs.set k v))) H1 → va_D A (w.set q0 (a, .inr (ci, fs.set k v))) → va_S A H0 H1 locs1 → W p l e R s m args below meth c H1 locs1 cells slots Q (F0 m (pc + 3) ls rest)) : W p l e R s m args below meth c H locs cells slots Q (F0 m pc ls (v :: .ref a :: rest)) :=
  va_putN (D := g.1) F.1 F.2.1 F.2.2.2.2 hin ty0 hty hnm F.2.2.2.1 hKn.1 hP hD hS q0 he hc k hk (va_Nw.use rfl (hKn.2.1 _ hl)) (fun _ h => h) hfin (hty k hk) hnr hft hlen hdg kk
theorem g_putF (F : CallFix p m c cc nL s args BIG own) (hKn : Kn g s) (hP : va_P g.1 vwCl w H) (hD : va_D A w) (hS : va_S A H0 H locs) {C : String} {T : u_T} {N ci : Nat} {a : Nat} {fs : List Value} (hin : ∀ w ∈ u_ws C T N, w ∈ BIG) (ty0 : Nat → FieldType) (hty : ∀ k, k < N → parseFieldDescriptor (T k).2.2.1 = some (ty0 k)) (hnm : ∀ a, a < N → ∀ b, b < N → a ≠ b → (T a).2.1 ≠ (T b).2.1) (q0 : Nat) (he : w[q0]? = some (a, .inr (ci, fs))) (hc : vwCl[ci]? = some (C, T, N)) (k : Nat) (hk : k < N) (hl : Cond.fieldLink own index (T k).1 (T k).2.1 (T k).2.2.1 ∈ BIG) (hfin : (T k).2.2.2 = true) (hini : meth.name = "<init>") (hdec : (T k).1 = own) {v : Value} (hnr : narrow (ty0 k) v = v) (hft : fits (ty0 k) v = true) (hlen : k < fs.length) (hdg : decode cc pc = .ok (.putfield index, 3))
    (kk : ∀ (H1 : Heap) (locs1 : List Loc), va_P g.1 vwCl (w.set q0 (a, .inr (ci, fs.set k v))) H1 → va_D A (w.set q0 (a, .inr (ci, fs.set k v))) → va_S A H0 H1 locs1 → W p l e R s m args below meth c H1 locs1 cells slots Q (F0 m (pc + 3) ls rest)) : W p l e R s m args below meth c H locs cells slots Q (F0 m pc ls (v :: .ref a :: rest)) :=
  va_putF (D := g.1) F.1 F.2.1 F.2.2.2.2 hin ty0 hty hnm F.2.2.2.1 hKn.1 hP hD hS q0 he hc k hk (F.2.2.2.2 _ hl) (fun _ h => h) hfin hini hdec (hty k hk) hnr hft hlen hdg kk
/-- a computed number by its value -/
theorem tp_i {x v : Int32} (h : x = v) (k : W p l e R s m args below meth c H locs cells slots Q (F0 m pc ls (.int v :: rest))) : W p l e R s m args below meth c H locs cells slots Q (F0 m pc ls (.int x :: rest)) := by rw [h]; exact k
theorem tp_l {x v : Int64} (h : x = v) (k : W p l e R s m args below meth c H locs cells slots Q (F0 m pc ls (.long v :: rest))) : W p l e R s m args below meth c H locs cells slots Q (F0 m pc ls (.long x :: rest)) := by rw [h]; exact k
/-- arrays of numbers made, at the class that is known -/
theorem g_newa (F : CallFix p m c cc nL s args BIG own) (hKn : Kn g s) (hP : va_P g.1 vwCl w H) (hD : va_D A w) (hS : va_S A H0 H locs) (hA : ∀ q : Nat, H0.size ≤ q → A q) {atype : ArrayType} (harr : Cond.arrayClass (newarray.typeOf atype) ∈ BIG) {ty : FieldType} (hty : newarray.typeOf atype = ty) (t0 : Nat) {cA : ClassId} (ht : (TY g.2)[t0]? = some (cA, ty)) (hpr : ∀ C, ty ≠ .object C)
    {n : Int32} {N' : Nat} {a0 : vp_A} (ha : ∀ cA : ClassId, vp_cell cA a0 = arrV cA N' (fun _ => defaultValue ty)) (hn : ¬ n < 0) (hN : n.toNatClampNeg = N') (hbytes : N' * componentBytes ty ≤ 536870912) (hcells : cells + 1 ≤ R.cells) (hslots : slots + N' ≤ R.slots) (hdg : decode cc pc = .ok (.newarray atype, 2))
    (kk : ∀ (q : Nat) (H1 : Heap), va_P g.1 vwCl (w ++ [(q, .inl (cA, a0))]) H1 → va_D A (w ++ [(q, .inl (cA, a0))]) → va_S A H0 H1 locs → W p l e R s m args below meth c H1 locs (cells + 1) (slots + N') Q (F0 m (pc + 2) ls (.ref q :: rest))) : W p l e R s m args below meth c H locs cells slots Q (F0 m pc ls (.int n :: rest)) := by
  refine va_newa (D := g.1) F.1 F.2.1 (F.2.2.2.2 _ harr) hty hKn.1 hP hD hS hA ha hn hN hbytes hcells hslots hdg (fun q cB H1 hK2 hP2 hD2 hS2 => ?_)
  have e1 := (hKn.1.2 t0 _ ht).2
  have e2 := (hK2.2 (TY g.2).length _ (by rw [List.getElem?_append_right (Nat.le_refl _), Nat.sub_self]; rfl)).2
  have e3 : cB = cA := by
    cases ty <;> first | exact absurd rfl (hpr _) | exact Option.some.inj (e2.symm.trans e1)
  subst e3
  exact kk q H1 hP2 hD2 hS2
theorem g_newq (F : CallFix p m c cc nL s args BIG own) (hKn : Kn g s) (hP : va_P g.1 vwCl w H) (hD : va_D A w) (hS : va_S A H0 H locs) (hA : ∀ q : Nat, H0.size ≤ q → A q) {C : String} (hcl : Cond.classLink own index C ∈ BIG) (hov : va_AO C s) (t0 : Nat) {cA : ClassId} (ht : (TY g.2)[t0]? = some (cA, .object C))
    {n : Int32} {N' : Nat} (hn : ¬ n < 0) (hN : n.toNatClampNeg = N') (hbytes : N' * 4 ≤ 536870912) (hcells : cells + 1 ≤ R.cells) (hslots : slots + N' ≤ R.slots) (hdg : decode cc pc = .ok (.anewarray index, 3))
    (kk : ∀ (q : Nat) (H1 : Heap), va_P g.1 vwCl (w ++ [(q, .inl (cA, N', .inr (.inr (.inr (.inr (fun _ => none))))))]) H1 → va_D A (w ++ [(q, .inl (cA, N', .inr (.inr (.inr (.inr (fun _ => none))))))]) → va_S A H0 H1 locs → W p l e R s m args below meth c H1 locs (cells + 1) (slots + N') Q (F0 m (pc + 3) ls (.ref q :: rest))) : W p l e R s m args below meth c H locs cells slots Q (F0 m pc ls (.int n :: rest)) := by
  refine va_newq (D := g.1) F.1 F.2.1 F.2.2.2.1 (F.2.2.2.2 _ hcl) hov hKn.1 hP hD hS hA hn hN hbytes hcells hslots hdg (fun q cB H1 hK2 hP2 hD2 hS2 => ?_)
  obtain ⟨kA, comp, f1, f2, f3, f4⟩ := (hKn.1.2 t0 _ ht).2
  obtain ⟨kB, comp2, g1, g2, g3, g4⟩ := (hK2.2 (TY g.2).length (cB, .object C) (by rw [List.getElem?_append_right (Nat.le_refl _), Nat.sub_self]; rfl)).2
  have e3 : cB = cA := Option.some.inj (g4.symm.trans f4)
  subst e3
  exact kk q H1 hP2 hD2 hS2
theorem g_new (F : CallFix p m c cc nL s args BIG own) (hKn : Kn g s) (hP : va_P g.1 vwCl w H) (hD : va_D A w) (hS : va_S A H0 H locs) (hA : ∀ q : Nat, H0.size ≤ q → A q) {C : String} {T : u_T} {N ci : Nat} (hin : ∀ w ∈ u_ws C T N, w ∈ BIG) (ty : Nat → FieldType) (hty : ∀ k, k < N → parseFieldDescriptor (T k).2.2.1 = some (ty k)) (hcl : Cond.classLink own index C ∈ BIG) (hinst : Cond.instantiable C N ∈ BIG) (hini : Cond.initialized C ∈ BIG) (hc : vwCl[ci]? = some (C, T, N)) {fs : List Value} (hfs : ∀ j, j < N → defaultValue (ty j) = vp_V fs j) (hcells : cells + 1 ≤ R.cells) (hslots : slots + N ≤ R.slots) (hdg : decode cc pc = .ok (.new index, 3))
    (kk : ∀ (q : Nat) (H1 : Heap), va_P g.1 vwCl (w ++ [(q, .inr (ci, fs))]) H1 → va_D A (w ++ [(q, .inr (ci, fs))]) → va_S A H0 H1 locs → W p l e R s m args below meth c H1 locs (cells + 1) (slots + N) Q (F0 m (pc + 3) ls (.ref q :: rest))) : W p l e R s m args below meth c H locs cells slots Q (F0 m pc ls rest) := by
  refine va_new (D := g.1) F.1 F.2.1 F.2.2.2.2 hin ty hty F.2.2.2.1 (F.2.2.2.2 _ hcl) (F.2.2.2.2 _ hinst) (F.2.2.2.2 _ hini) hKn.1 hP hD hS hA hc hfs hcells hslots hdg ?_
  intros
  apply kk <;> assumption
/-- ends -/
theorem rt_i (F : Fx p m meth c cc nL s args y (some .int) g A) {v : Int32} (u : S) (hv : some (Value.int v) = val u) (hp : post u) (hP : va_P g.1 vwCl (w1 u) H) (hD : va_D A (w1 u)) (hS : va_S A s.heap H locs) (h1 : cells ≤ mc) (h2 : slots ≤ ms) (hdg : decode cc pc = .ok (.ireturn, 1)) : W p l e R s m args below meth c H locs cells slots (MQ below (QX val post g w1 A) args s mc ms A) (F0 m pc ls [.int v]) := by
  obtain ⟨⟨hx, hb, hml, hown, hB⟩, hr, hlk, hKn, hA, hnm⟩ := F
  refine W.widen (k := mc) (n := ms) h1 h2 ?_
  exact W.iret (v := v) hx hb hr (fun t ht hW => ⟨⟨u, by rw [hv], hp, by rw [ht]; exact hP, hD⟩, hS.F ht⟩) hS.2.2 hdg hlk
theorem rt_z (F : Fx p m meth c cc nL s args y (some .boolean) g A) {v : Int32} (hnr : narrow .boolean (.int v) = .int v) (u : S) (hv : some (Value.int v) = val u) (hp : post u) (hP : va_P g.1 vwCl (w1 u) H) (hD : va_D A (w1 u)) (hS : va_S A s.heap H locs) (h1 : cells ≤ mc) (h2 : slots ≤ ms) (hdg : decode cc pc = .ok (.ireturn, 1)) : W p l e R s m args below meth c H locs cells slots (MQ below (QX val post g w1 A) args s mc ms A) (F0 m pc ls [.int v]) := by
  obtain ⟨⟨hx, hb, hml, hown, hB⟩, hr, hlk, hKn, hA, hnm⟩ := F
  refine W.widen (k := mc) (n := ms) h1 h2 ?_
  exact W.zret (v := v) hx hb hr hnr (fun t ht hW => ⟨⟨u, by rw [hv], hp, by rw [ht]; exact hP, hD⟩, hS.F ht⟩) hS.2.2 hdg hlk
theorem rt_v (F : Fx p m meth c cc nL s args y none g A) (u : S) (hv : none = val u) (hp : post u) (hP : va_P g.1 vwCl (w1 u) H) (hD : va_D A (w1 u)) (hS : va_S A s.heap H locs) (h1 : cells ≤ mc) (h2 : slots ≤ ms) (hdg : decode cc pc = .ok (.return_, 1)) : W p l e R s m args below meth c H locs cells slots (MQ below (QX val post g w1 A) args s mc ms A) (F0 m pc ls []) := by
  obtain ⟨⟨hx, hb, hml, hown, hB⟩, hr, hlk, hKn, hA, hnm⟩ := F
  refine W.widen (k := mc) (n := ms) h1 h2 ?_
  exact W.vret hx hb hr (fun t ht hW => ⟨⟨u, by rw [hv], hp, by rw [ht]; exact hP, hD⟩, hS.F ht⟩) hS.2.2 hdg hlk
theorem rt_n {C : String} (F : Fx p m meth c cc nL s args y (some (.object C)) g A) (u : S) (hv : some Value.null = val u) (hp : post u) (hP : va_P g.1 vwCl (w1 u) H) (hD : va_D A (w1 u)) (hS : va_S A s.heap H locs) (h1 : cells ≤ mc) (h2 : slots ≤ ms) (hdg : decode cc pc = .ok (.areturn, 1)) : W p l e R s m args below meth c H locs cells slots (MQ below (QX val post g w1 A) args s mc ms A) (F0 m pc ls [.null]) := by
  obtain ⟨⟨hx, hb, hml, hown, hB⟩, hr, hlk, hKn, hA, hnm⟩ := F
  refine W.widen (k := mc) (n := ms) h1 h2 ?_
  exact W.aret (v := .null) hx hb hr (Or.inl ⟨_, rfl⟩) (Or.inl rfl) (fun t ht hW => ⟨⟨u, by rw [hv], hp, by rw [ht]; exact hP, hD⟩, hS.F ht⟩) hS.2.2 hdg hlk
end CORE
/-- comparisons, as whole numbers -/
theorem k_lt {x y : Int32} {a b : Int} (hx : x.toInt = a) (hy : y.toInt = b) (h : x < y) : a < b := by rw [← hx, ← hy]; exact Int32.lt_iff_toInt_lt.mp h
theorem k_nlt {x y : Int32} {a b : Int} (hx : x.toInt = a) (hy : y.toInt = b) (h : ¬ x < y) : b ≤ a := by rw [← hx, ← hy]; exact Int.not_lt.mp (fun q => h (Int32.lt_iff_toInt_lt.mpr q))
theorem k_le {x y : Int32} {a b : Int} (hx : x.toInt = a) (hy : y.toInt = b) (h : x ≤ y) : a ≤ b := by rw [← hx, ← hy]; exact Int32.le_iff_toInt_le.mp h
theorem k_nle {x y : Int32} {a b : Int} (hx : x.toInt = a) (hy : y.toInt = b) (h : ¬ x ≤ y) : b < a := by rw [← hx, ← hy]; exact Int.not_le.mp (fun q => h (Int32.le_iff_toInt_le.mpr q))
theorem k_eq {x y : Int32} {a b : Int} (hx : x.toInt = a) (hy : y.toInt = b) (h : x = y) : a = b := by rw [← hx, ← hy, h]
theorem k_ne {x y : Int32} {a b : Int} (hx : x.toInt = a) (hy : y.toInt = b) (h : ¬ x = y) : a ≠ b := by rw [← hx, ← hy]; exact fun q => h (Int32.toInt_inj.mp q)
