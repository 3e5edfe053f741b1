section SNCALL
variable {p : Program} {l : Launch} {e : Env} {R : Room} {s : State} {m : MethodId} {args : Array Value} {below : List Frame} {meth : Method} {c : Code} {H : Heap} {locs : List Loc} {cells slots : Nat} {Q : State → Prop}
variable {g : GG} {y : MethodName} {b : ByteArray} {maxL : Nat} {ret : Option FieldType} {rm : Room} {wc : va_W} {S : Type} {val : S → Option Value} {post : S → Prop} {w1 : S → va_W}
variable {A : Nat → Prop} {H0 : Heap} {w wr : va_W} {pc : Nat} {ls : Array Slot} {rest st0 : List Value} {cc : ByteArray} {nL index n : Nat} {own : String} {As : List Value}
/-- a private static method of a nest mate -/
theorem call_SN (F : CallFix p m c cc nL s args BIG own) (hKn : Kn g s) (hZ : SZ g A s) (hM : Ct l g y b maxL ret rm As wc val post w1) (hw : MS y b maxL ret n) (hl : Cond.methodLinkNest own index y RX11 ∈ nests)
    (hP : va_P g.1 vwCl w H) (hD : va_D A w) (hS : va_S A s.heap H locs) (hA : ∀ q : Nat, s.heap.size ≤ q → A q) (isC isR : List Nat) (hC : isC.map (fun i => w[i]?) = wc.map some) (hCn : va_nd isC = true) (hR : isR.map (fun i => w[i]?) = wr.map some) (hn : va_nd isR = true) (hdis : ∀ i ∈ isR, i ∉ isC)
    (hAs : As.length = n) (hsize : ls.size = nL) (hst : st0 = As.reverse ++ rest) (hW : (rest.map fun v => v.category).sum ≤ 8) (hdg : decode cc pc = .ok (.invokestatic index, 3)) (hR1 : rm.frames + 1 ≤ R.frames ∧ 8 + (maxL + 11) + rm.locals ≤ R.locals) (hf : cells + rm.cells ≤ R.cells ∧ slots + rm.slots ≤ R.slots)
    (kk : ∀ (u : S) (H1 : Heap) (locs1 : List Loc), post u → va_P g.1 vwCl (wr ++ w1 u) H1 → va_D A (wr ++ w1 u) → va_S A s.heap H1 locs1 → W p l e R s m args below meth c H1 locs1 (cells + rm.cells) (slots + rm.slots) Q (F0 m (pc + 3) ls ((val u).toList ++ rest))) : W p l e R s m args below meth c H locs cells slots Q (F0 m pc ls st0) := by
  obtain ⟨w1', w2, w4, w5⟩ := hw
  have hB := F.2.2.2.2
  have hPc : va_P g.1 vwCl wc H := fun k z hz => by
    have h1 : (isC.map (fun i => w[i]?))[k]? = (wc.map some)[k]? := by rw [hC]
    rw [List.getElem?_map, List.getElem?_map, hz] at h1
    cases hi : isC[k]? with
    | none => rw [hi] at h1; simp at h1
    | some i => rw [hi] at h1; simp at h1; exact hP i z h1
  have hDc := (hD.sub isC hCn hC).weaken (B := fun _ => True) (fun _ _ _ _ => trivial)
  exact run_join (va_runSN F (hM H.size) ⟨va_cnB n hB (gi_code w1') rfl rfl rfl (hKn.2.1 _ hl) (hB _ w4) w5 hR1, hB _ w2, trivial⟩ ⟨pc_blind, pc_at hKn hPc hDc (fun U hU hW => hZ.to hS (va_free (wc := wc) hD hS hA isC hC) hU hW)⟩ rfl hAs hsize hst (lv_room hW) hdg hf) hP hD hS hA isC isR hC hR hn hdis kk
end SNCALL
section RETREF
variable {p : Program} {l : Launch} {e : Env} {R : Room} {s : State} {m : MethodId} {args : Array Value} {below : List Frame} {meth : Method} {c : Code} {H : Heap} {locs : List Loc} {cells slots : Nat}
variable {g : GG} {y : MethodName} {S : Type} {val : S → Option Value} {post : S → Prop} {w1 : S → va_W} {A : Nat → Prop} {pc mc ms nL : Nat} {ls : Array Slot} {cc : ByteArray}
theorem rt_r {C : String} {a : Nat} (F : Fx p m meth c cc nL s args y (some (.object C)) g A) (u : S) (hv : some (Value.ref a) = val u) (hp : post u) (hP : va_P g.1 vwCl (w1 u) H) (hD : va_D A (w1 u)) (hS : va_S A s.heap H locs) (h1 : cells ≤ mc) (h2 : slots ≤ ms) (hdg : decode cc pc = .ok (.areturn, 1)) : W p l e R s m args below meth c H locs cells slots (MQ below (QX val post g w1 A) args s mc ms A) (F0 m pc ls [.ref a]) := by
  obtain ⟨⟨hx, hb, hml, hown, hB⟩, hr, hlk, hKn, hA, hnm⟩ := F
  refine W.widen (k := mc) (n := ms) h1 h2 ?_
  exact W.aret (v := .ref a) hx hb hr (Or.inl ⟨_, rfl⟩) (Or.inr ⟨_, rfl⟩) (fun t ht hW => ⟨⟨u, by rw [hv], hp, by rw [ht]; exact hP, hD⟩, hS.F ht⟩) hS.2.2 hdg hlk
theorem i0 {x : Int32} (h : x.toInt = 0) : x = 0 := Int32.toInt_inj.mp (h.trans (by decide))
theorem in0 {x : Int32} (h : x.toInt ≠ 0) : ¬ x = 0 := fun q => h (by rw [q]; decide)
end RETREF
section STRCALL
variable {p : Program} {l : Launch} {e : Env} {R : Room} {s : State} {m : MethodId} {args : Array Value} {below : List Frame} {meth : Method} {c : Code} {H : Heap} {locs : List Loc} {cells slots : Nat} {Q : State → Prop}
variable {g : GG} {y : MethodName} {b : ByteArray} {maxL : Nat} {ret : Option FieldType} {rm : Room} {wc : va_W} {S : Type} {val : S → Option Value} {post : S → Prop} {w1 : S → va_W}
variable {A : Nat → Prop} {w wr : va_W} {pc : Nat} {ls : Array Slot} {rest st0 : List Value} {cc : ByteArray} {nL index n x : Nat} {own : String} {As : List Value}
/-- a method of a String constant -/
theorem call_VS (F : CallFix p m c cc nL s args BIG own) (hKn : Kn g s) (hZ : SZ g A s) (hM : Ct l g y b maxL ret rm (.ref x :: As) wc val post w1) (hw : MV y b maxL ret n) (hl : Cond.methodLink own index y ∈ BIG)
    (hrc : ∃ cell : Cell, H[x]? = some cell ∧ cell.vm.isStatics = false ∧ s.vm.findClass y.cls = some cell.cls)
    (hP : va_P g.1 vwCl w H) (hD : va_D A w) (hS : va_S A s.heap H locs) (hA : ∀ q : Nat, s.heap.size ≤ q → A q) (isC isR : List Nat) (hC : isC.map (fun i => w[i]?) = wc.map some) (hCn : va_nd isC = true) (hR : isR.map (fun i => w[i]?) = wr.map some) (hn : va_nd isR = true) (hdis : ∀ i ∈ isR, i ∉ isC)
    (hAs : As.length = n) (hsize : ls.size = nL) (hst : st0 = As.reverse ++ .ref x :: rest) (hW : (rest.map fun v => v.category).sum ≤ 8) (hdg : decode cc pc = .ok (.invokevirtual index, 3)) (hR1 : rm.frames + 1 ≤ R.frames ∧ 8 + (maxL + 11) + rm.locals ≤ R.locals) (hf : cells + rm.cells ≤ R.cells ∧ slots + rm.slots ≤ R.slots)
    (kk : ∀ (u : S) (H1 : Heap) (locs1 : List Loc), post u → va_P g.1 vwCl (wr ++ w1 u) H1 → va_D A (wr ++ w1 u) → va_S A s.heap H1 locs1 → W p l e R s m args below meth c H1 locs1 (cells + rm.cells) (slots + rm.slots) Q (F0 m (pc + 3) ls ((val u).toList ++ rest))) : W p l e R s m args below meth c H locs cells slots Q (F0 m pc ls st0) := by
  obtain ⟨w1', w2, w3, w4, w5⟩ := hw
  have hB := F.2.2.2.2
  have hPc : va_P g.1 vwCl wc H := fun k z hz => by
    have h1 : (isC.map (fun i => w[i]?))[k]? = (wc.map some)[k]? := by rw [hC]
    rw [List.getElem?_map, List.getElem?_map, hz] at h1
    cases hi : isC[k]? with
    | none => rw [hi] at h1; simp at h1
    | some i => rw [hi] at h1; simp at h1; exact hP i z h1
  have hDc := (hD.sub isC hCn hC).weaken (B := fun _ => True) (fun _ _ _ _ => trivial)
  exact run_join (va_runV F (hM H.size) ⟨callB_of n hB (gi_code w1') rfl rfl rfl (hB _ w4) (hB _ hl) w5 hR1, hB _ w2, hB _ w3⟩ ⟨pc_blind, hrc, pc_at hKn hPc hDc (fun U hU hW => hZ.to hS (va_free (wc := wc) hD hS hA isC hC) hU hW)⟩ rfl hAs hsize hst (lv_room hW) hdg hf) hP hD hS hA isC isR hC hR hn hdis kk
theorem SZ.recv (h : SZ g A s) (hS : va_S A s.heap H locs) {i : Nat} (hi : i < 36) : ∃ cell : Cell, H[sa g i]? = some cell ∧ cell.vm.isStatics = false ∧ s.vm.findClass "java/lang/String" = some cell.cls := by
  obtain ⟨q, hq, -⟩ := str_q hi
  obtain ⟨cell, h1, h2, h3, -⟩ := (h.2.2 i q hq).2.1.kept hS.2.1
  exact ⟨cell, h1, h2, h3⟩
theorem rt_y {ty : FieldType} (F : Fx p m meth c cc nL s args y (some ty) g A) {v : Int32} {mc ms : Nat} (hnr : narrow ty (.int v) = .int v) (u : S) (hv : some (Value.int v) = val u) (hp : post u) (hP : va_P g.1 vwCl (w1 u) H) (hD : va_D A (w1 u)) (hS : va_S A s.heap H locs) (h1 : cells ≤ mc) (h2 : slots ≤ ms) (hdg : decode cc pc = .ok (.ireturn, 1)) : W p l e R s m args below meth c H locs cells slots (MQ below (QX val post g w1 A) args s mc ms A) (F0 m pc ls [.int v]) := by
  obtain ⟨⟨hx, hb, hml, hown, hB⟩, hr, hlk, hKn, hA, hnm⟩ := F
  refine W.widen (k := mc) (n := ms) h1 h2 ?_
  exact W.zret (v := v) hx hb hr hnr (fun t ht hW => ⟨⟨u, by rw [hv], hp, by rw [ht]; exact hP, hD⟩, hS.F ht⟩) hS.2.2 hdg hlk
end STRCALL
/-! numbers within bounds -/
theorem fb_rng (x : Int32) : -2147483648 ≤ x.toInt ∧ x.toInt < 2147483648 := by
  have h1 := Int32.le_toInt x
  have h2 := Int32.toInt_lt x
  omega
theorem fb_bmod {z : Int} (h1 : -2147483648 ≤ z) (h2 : z < 2147483648) : z.bmod (2 ^ 32) = z := by
  rw [Int.bmod_eq_of_le (by omega) (by omega)]
theorem fb_addI {x y : Int32} (h1 : -2147483648 ≤ x.toInt + y.toInt) (h2 : x.toInt + y.toInt < 2147483648) : (x + y).toInt = x.toInt + y.toInt := by
  rw [Int32.toInt_add, fb_bmod h1 h2]
theorem fb_subI {x y : Int32} (h1 : -2147483648 ≤ x.toInt - y.toInt) (h2 : x.toInt - y.toInt < 2147483648) : (x - y).toInt = x.toInt - y.toInt := by
  rw [Int32.toInt_sub, fb_bmod h1 h2]
theorem fb_mulI {x y : Int32} (h1 : -2147483648 ≤ x.toInt * y.toInt) (h2 : x.toInt * y.toInt < 2147483648) : (x * y).toInt = x.toInt * y.toInt := by
  rw [Int32.toInt_mul, fb_bmod h1 h2]
theorem addk {x k : Int32} {c : Int} (hk : k.toInt = c) (h1 : -2147483648 ≤ x.toInt + c) (h2 : x.toInt + c < 2147483648) : (x + k).toInt = x.toInt + c := by
  rw [fb_addI (by rw [hk]; exact h1) (by rw [hk]; exact h2), hk]
/-- a row's first n places hold numbers within bounds -/
def ab (f : Nat → Int32) (n : Nat) (lo hi : Int) : Prop := ∀ j, j < n → lo ≤ (f j).toInt ∧ (f j).toInt ≤ hi
theorem ab_upd {f : Nat → Int32} {n k : Nat} {lo hi : Int} {v : Int32} (h : ab f n lo hi) (h1 : lo ≤ v.toInt) (h2 : v.toInt ≤ hi) : ab (upd f k v) n lo hi := fun j hj => by
  unfold upd
  split
  · exact ⟨h1, h2⟩
  · exact h j hj
theorem ab_cpy {f g : Nat → Int32} {n sp dp m : Nat} {lo hi : Int} (hf : ab f n lo hi) (hg : ab g n lo hi) (h1 : sp + m ≤ n) (h2 : dp + m ≤ n) : ab (va_cpy f g sp dp m) n lo hi := fun j hj => by
  unfold va_cpy
  split
  · next q => exact hf _ (by omega)
  · exact hg j hj
theorem ab_const {n : Nat} {lo hi : Int} {v : Int32} (h1 : lo ≤ v.toInt) (h2 : v.toInt ≤ hi) : ab (fun _ => v) n lo hi := fun _ _ => ⟨h1, h2⟩
theorem clt {x : Int32} {n : Nat} (h1 : 0 ≤ x.toInt) (h2 : x.toInt < n) : x.toNatClampNeg < n := by
  have h3 : (x.toNatClampNeg : Int) = x.toInt := by
    unfold Int32.toNatClampNeg
    exact Int.toNat_of_nonneg h1
  omega
theorem ne0 {x : Int32} (h : 1 ≤ x.toInt) : ¬ x = 0 := fun q => by
  rw [q] at h
  exact absurd h (by decide)
theorem toNat_of {x : Int32} (h : 0 ≤ x.toInt) : (x.toBitVec.toNat : Int) = x.toInt ∧ x.toBitVec.toNat < 2 ^ 31 := by
  have h1 : x.toInt = x.toBitVec.toInt := rfl
  rw [h1] at h ⊢
  rw [BitVec.toInt_eq_toNat_cond] at h ⊢
  have := x.toBitVec.isLt
  split
  · next q => exact ⟨rfl, by omega⟩
  · next q => rw [if_neg q] at h; omega
theorem of_toNat {x : Int32} (h : x.toBitVec.toNat < 2 ^ 31) : x.toInt = (x.toBitVec.toNat : Int) := by
  have h1 : x.toInt = x.toBitVec.toInt := rfl
  rw [h1, BitVec.toInt_eq_toNat_cond, if_pos (by omega)]
theorem and_l {x y : Int32} {hi : Int} (h1 : 0 ≤ x.toInt) (h2 : x.toInt ≤ hi) : 0 ≤ (x &&& y).toInt ∧ (x &&& y).toInt ≤ hi := by
  obtain ⟨q1, q2⟩ := toNat_of h1
  have h3 : (x &&& y).toBitVec.toNat ≤ x.toBitVec.toNat := by
    rw [Int32.toBitVec_and, BitVec.toNat_and]
    exact Nat.and_le_left
  rw [of_toNat (by omega)]
  omega
theorem and_r {x y : Int32} {hi : Int} (h1 : 0 ≤ y.toInt) (h2 : y.toInt ≤ hi) : 0 ≤ (x &&& y).toInt ∧ (x &&& y).toInt ≤ hi := by
  obtain ⟨q1, q2⟩ := toNat_of h1
  have h3 : (x &&& y).toBitVec.toNat ≤ y.toBitVec.toNat := by
    rw [Int32.toBitVec_and, BitVec.toNat_and]
    exact Nat.and_le_right
  rw [of_toNat (by omega)]
  omega
theorem or_b {x y : Int32} (h1 : 0 ≤ x.toInt) (h2 : x.toInt ≤ 255) (h3 : 0 ≤ y.toInt) (h4 : y.toInt ≤ 255) : 0 ≤ (x ||| y).toInt ∧ (x ||| y).toInt ≤ 255 := by
  obtain ⟨q1, q2⟩ := toNat_of h1
  obtain ⟨q3, q4⟩ := toNat_of h3
  have h5 : (x ||| y).toBitVec.toNat < 2 ^ 8 := by
    rw [Int32.toBitVec_or, BitVec.toNat_or]
    exact Nat.or_lt_two_pow (by omega) (by omega)
  rw [of_toNat (by omega)]
  omega
theorem shl_b {x : Int32} {n : Nat} (h1 : 0 ≤ x.toInt) (h2 : x.toInt ≤ n) (hn : n ≤ 8) : 1 ≤ ((1 : Int32) <<< (x &&& 31)).toInt ∧ ((1 : Int32) <<< (x &&& 31)).toInt ≤ (2 ^ n : Nat) := by
  obtain ⟨j, hj, rfl⟩ : ∃ j : Nat, j ≤ n ∧ x = nI j := ⟨x.toInt.toNat, by omega, Int32.toInt_inj.mp (by rw [nI_toInt (by omega)]; omega)⟩
  have key : ∀ j : Fin 9, 1 ≤ ((1 : Int32) <<< (nI j.val &&& 31)).toInt ∧ ((1 : Int32) <<< (nI j.val &&& 31)).toInt = (2 ^ j.val : Nat) := by decide
  obtain ⟨k1, k2⟩ := key ⟨j, by omega⟩
  refine ⟨k1, ?_⟩
  rw [k2]
  exact Int.ofNat_le.mpr (Nat.pow_le_pow_right (by decide) hj)
theorem rem_b {x y : Int32} (h1 : 0 ≤ x.toInt) (h2 : 1 ≤ y.toInt) : 0 ≤ (x - x / y * y).toInt ∧ (x - x / y * y).toInt < y.toInt := by
  obtain ⟨j, hj, rfl⟩ : ∃ j : Nat, j < 2 ^ 31 ∧ x = nI j := ⟨x.toInt.toNat, by have := fb_rng x; omega, Int32.toInt_inj.mp (by have := fb_rng x; rw [nI_toInt (by omega)]; omega)⟩
  obtain ⟨k, hk, rfl⟩ : ∃ j : Nat, j < 2 ^ 31 ∧ y = nI j := ⟨y.toInt.toNat, by have := fb_rng y; omega, Int32.toInt_inj.mp (by have := fb_rng y; rw [nI_toInt (by omega)]; omega)⟩
  rw [nI_toInt hk] at h2 ⊢
  have hk0 : 0 < k := by omega
  have hm : j % k < k := Nat.mod_lt _ hk0
  rw [pk_rem hj hk0 hk, nI_toInt (by omega)]
  omega
theorem div_b {x y : Int32} (h1 : 0 ≤ x.toInt) (h2 : 1 ≤ y.toInt) : 0 ≤ (x / y).toInt ∧ (x / y).toInt ≤ x.toInt := by
  obtain ⟨j, hj, rfl⟩ : ∃ j : Nat, j < 2 ^ 31 ∧ x = nI j := ⟨x.toInt.toNat, by have := fb_rng x; omega, Int32.toInt_inj.mp (by have := fb_rng x; rw [nI_toInt (by omega)]; omega)⟩
  obtain ⟨k, hk, rfl⟩ : ∃ j : Nat, j < 2 ^ 31 ∧ y = nI j := ⟨y.toInt.toNat, by have := fb_rng y; omega, Int32.toInt_inj.mp (by have := fb_rng y; rw [nI_toInt (by omega)]; omega)⟩
  rw [nI_toInt hk] at h2
  have hm : j / k ≤ j := Nat.div_le_self _ _
  rw [pk_div hj (by omega) hk]
  generalize j / k = q at hm ⊢
  rw [nI_toInt (by omega), nI_toInt hj]
  omega
theorem nb {x : Int32} (h1 : 0 ≤ x.toInt) (h2 : x.toInt ≤ 1) : narrow .boolean (.int x) = .int x ∧ fits .boolean (.int x) = true := by
  rcases (show x.toInt = 0 ∨ x.toInt = 1 by omega) with h | h
  · obtain rfl : x = 0 := Int32.toInt_inj.mp (h.trans (by decide))
    exact ⟨rfl, rfl⟩
  · obtain rfl : x = 1 := Int32.toInt_inj.mp (h.trans (by decide))
    exact ⟨rfl, rfl⟩
theorem l2i_b {x : Int64} (h1 : -2147483648 ≤ x.toInt) (h2 : x.toInt ≤ 2147483647) : x.toInt32.toInt = x.toInt := by
  rw [Int64.toInt_toInt32, fb_bmod h1 (by omega)]
theorem mmax_b (x y : Int32) : x.toInt ≤ (if x < y then y else x).toInt ∧ y.toInt ≤ (if x < y then y else x).toInt ∧ ((if x < y then y else x).toInt = x.toInt ∨ (if x < y then y else x).toInt = y.toInt) := by
  split
  · next h => have := Int32.lt_iff_toInt_lt.mp h; omega
  · next h => have : ¬ x.toInt < y.toInt := fun q => h (Int32.lt_iff_toInt_lt.mpr q); omega
theorem mmin_b (x y : Int32) : (if y < x then y else x).toInt ≤ x.toInt ∧ (if y < x then y else x).toInt ≤ y.toInt ∧ ((if y < x then y else x).toInt = x.toInt ∨ (if y < x then y else x).toInt = y.toInt) := by
  split
  · next h => have := Int32.lt_iff_toInt_lt.mp h; omega
  · next h => have : ¬ y.toInt < x.toInt := fun q => h (Int32.lt_iff_toInt_lt.mpr q); omega
theorem or_k {x y : Int32} {n : Int} (k : Nat) (hk : k ≤ 30) (hn : n = ((2 ^ k : Nat) : Int)) (h1 : 0 ≤ x.toInt) (h2 : x.toInt < n) (h3 : 0 ≤ y.toInt) (h4 : y.toInt < n) : 0 ≤ (x ||| y).toInt ∧ (x ||| y).toInt < n := by
  obtain ⟨q1, q2⟩ := toNat_of h1
  obtain ⟨q3, q4⟩ := toNat_of h3
  have h5 : (x ||| y).toBitVec.toNat < 2 ^ k := by
    rw [Int32.toBitVec_or, BitVec.toNat_or]
    exact Nat.or_lt_two_pow (by omega) (by omega)
  have h6 : 2 ^ k ≤ 2 ^ 30 := Nat.pow_le_pow_right (by decide) hk
  rw [of_toNat (by omega)]
  omega
/-- comparisons of longs, by the sign that lcmp leaves -/
theorem lg_is (x y : Int64) : ((lg_cmp x y).toInt = 1 ∧ y.toInt < x.toInt) ∨ ((lg_cmp x y).toInt = 0 ∧ x.toInt = y.toInt) ∨ ((lg_cmp x y).toInt = -1 ∧ x.toInt < y.toInt) := by
  unfold lg_cmp
  split
  · next h => exact Or.inl ⟨by decide, Int64.lt_iff_toInt_lt.mp h⟩
  · next h =>
    split
    · next h2 => exact Or.inr (Or.inl ⟨by decide, by rw [h2]⟩)
    · next h2 =>
      refine Or.inr (Or.inr ⟨by decide, ?_⟩)
      have h3 : ¬ y.toInt < x.toInt := fun q => h (Int64.lt_iff_toInt_lt.mpr q)
      have h4 : x.toInt ≠ y.toInt := fun q => h2 (Int64.toInt_inj.mp q)
      omega
theorem kc_ltT {x y : Int64} (h : (lg_cmp x y).toInt < 0) : x.toInt < y.toInt := by have := lg_is x y; omega
theorem kc_ltF {x y : Int64} (h : 0 ≤ (lg_cmp x y).toInt) : y.toInt ≤ x.toInt := by have := lg_is x y; omega
theorem kc_geT {x y : Int64} (h : 0 ≤ (lg_cmp x y).toInt) : y.toInt ≤ x.toInt := by have := lg_is x y; omega
theorem kc_geF {x y : Int64} (h : (lg_cmp x y).toInt < 0) : x.toInt < y.toInt := by have := lg_is x y; omega
theorem kc_gtT {x y : Int64} (h : 0 < (lg_cmp x y).toInt) : y.toInt < x.toInt := by have := lg_is x y; omega
theorem kc_gtF {x y : Int64} (h : (lg_cmp x y).toInt ≤ 0) : x.toInt ≤ y.toInt := by have := lg_is x y; omega
theorem kc_leT {x y : Int64} (h : (lg_cmp x y).toInt ≤ 0) : x.toInt ≤ y.toInt := by have := lg_is x y; omega
theorem kc_leF {x y : Int64} (h : 0 < (lg_cmp x y).toInt) : y.toInt < x.toInt := by have := lg_is x y; omega
theorem kc_eqT {x y : Int64} (h : (lg_cmp x y).toInt = 0) : x.toInt = y.toInt := by have := lg_is x y; omega
theorem kc_eqF {x y : Int64} (h : (lg_cmp x y).toInt ≠ 0) : x.toInt ≠ y.toInt := by have := lg_is x y; omega
theorem kc_neT {x y : Int64} (h : (lg_cmp x y).toInt ≠ 0) : x.toInt ≠ y.toInt := by have := lg_is x y; omega
theorem kc_neF {x y : Int64} (h : (lg_cmp x y).toInt = 0) : x.toInt = y.toInt := by have := lg_is x y; omega
theorem mul_nn {x y : Int32} {a b c : Int} (h1 : 0 ≤ x.toInt) (h2 : x.toInt ≤ a) (h3 : 0 ≤ y.toInt) (h4 : y.toInt ≤ b) (h5 : a * b = c) (h6 : c < 2147483648) : 0 ≤ (x * y).toInt ∧ (x * y).toInt ≤ c := by
  have q1 : 0 ≤ x.toInt * y.toInt := Int.mul_nonneg h1 h3
  have q2 : x.toInt * y.toInt ≤ a * b := Int.mul_le_mul h2 h4 h3 (by omega)
  rw [fb_mulI (by omega) (by omega)]
  omega
