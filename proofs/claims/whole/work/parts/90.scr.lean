/-- as PW, with one more premise on the frame's start -/
def PS (G : State → Nat → (Nat → Nat) → Prop) (mi : z_Mi) (d pc : Nat) (lv : List (Nat × Value)) (st : List Value) (sh : z_Sh) (μ : z_M) (mc ms : Nat) (E : Option Value → z_Sh → z_M → Prop) : Prop :=
  ∀ (p : Program) (l : Launch) (e : Env) (R : Room) (s : State) (m : MethodId) (args : Array Value) (below : List Frame) (meth : Method) (c : Code) (Q : State → Prop) (D : va_G) (base : Nat) (tb : Nat → Nat) (cs : ClassId × ClassId × ClassId) (MC MS : Nat) (H : Heap) (locs : List Loc) (cells slots : Nat) (ls : Array Slot), z_At mi d p R s m args meth c D base tb cs MC MS → G s base tb → z_Rt mi E p l e R s m args below meth c Q D base tb cs MC MS → z_Wd D base tb cs sh μ H → va_S (z_A base) s.heap H locs → cells + mc ≤ MC → slots + ms ≤ MS → (mc ≠ 0 → tb 2000 = 0 ∧ cells + s.heap.size = base + sh.length) → lv_has ls mi.2.2.1 (lv.map (z_cw base tb)) →
    W p l e R s m args below meth c H locs cells slots Q (F0 m pc ls (st.map (z_cv base tb)))
theorem ys_p_iconst {G : State → Nat → (Nat → Nat) → Prop} {mi : z_Mi} {d pc n : Nat} {lv : List (Nat × Value)} {st : List Value} {sh : z_Sh} {μ : z_M} {mc ms : Nat} {E : Option Value → z_Sh → z_M → Prop} {k : Int} {v : Int32} (hd : decode mi.2.1 pc = .ok (.iconst k, 1)) (hv : Int32.ofInt k = v) (hn : pc + 1 = n) (h : PS G mi d n lv (.int v :: st) sh μ mc ms E) : PS G mi d pc lv (st) sh μ mc ms E := by
  subst hn
  intro p l e R s m args below meth c Q D base tb cs MC MS H locs cells slots ls hA hG hR hW hS hc hs hX hl
  exact lv_iconst hA.1 hA.2.1 hd hv (h p l e R s m args below meth c Q D base tb cs MC MS H locs cells slots ls hA hG hR hW hS hc hs hX hl)
theorem ys_p_bipush {G : State → Nat → (Nat → Nat) → Prop} {mi : z_Mi} {d pc n : Nat} {lv : List (Nat × Value)} {st : List Value} {sh : z_Sh} {μ : z_M} {mc ms : Nat} {E : Option Value → z_Sh → z_M → Prop} {k : Int} {v : Int32} (hd : decode mi.2.1 pc = .ok (.bipush k, 2)) (hv : (Int8.ofInt k).toInt32 = v) (hn : pc + 2 = n) (h : PS G mi d n lv (.int v :: st) sh μ mc ms E) : PS G mi d pc lv (st) sh μ mc ms E := by
  subst hn
  intro p l e R s m args below meth c Q D base tb cs MC MS H locs cells slots ls hA hG hR hW hS hc hs hX hl
  exact lv_bipush hA.1 hA.2.1 hd hv (h p l e R s m args below meth c Q D base tb cs MC MS H locs cells slots ls hA hG hR hW hS hc hs hX hl)
theorem ys_p_sipush {G : State → Nat → (Nat → Nat) → Prop} {mi : z_Mi} {d pc n : Nat} {lv : List (Nat × Value)} {st : List Value} {sh : z_Sh} {μ : z_M} {mc ms : Nat} {E : Option Value → z_Sh → z_M → Prop} {k : Int} {v : Int32} (hd : decode mi.2.1 pc = .ok (.sipush k, 3)) (hv : (Int16.ofInt k).toInt32 = v) (hn : pc + 3 = n) (h : PS G mi d n lv (.int v :: st) sh μ mc ms E) : PS G mi d pc lv (st) sh μ mc ms E := by
  subst hn
  intro p l e R s m args below meth c Q D base tb cs MC MS H locs cells slots ls hA hG hR hW hS hc hs hX hl
  exact lv_sipush hA.1 hA.2.1 hd hv (h p l e R s m args below meth c Q D base tb cs MC MS H locs cells slots ls hA hG hR hW hS hc hs hX hl)
theorem ys_p_iload_n {G : State → Nat → (Nat → Nat) → Prop} {mi : z_Mi} {d pc n : Nat} {lv : List (Nat × Value)} {st : List Value} {sh : z_Sh} {μ : z_M} {mc ms : Nat} {E : Option Value → z_Sh → z_M → Prop} {k : Fin 4} {i : Nat} {x : Int32} (hd : decode mi.2.1 pc = .ok (.iload_n k, 1)) (hi : (k : Nat) = i) (j : Nat) (hj : lv[j]? = some (i, .int x)) (hn : pc + 1 = n) (h : PS G mi d n lv (.int x :: st) sh μ mc ms E) : PS G mi d pc lv (st) sh μ mc ms E := by
  subst hn
  intro p l e R s m args below meth c Q D base tb cs MC MS H locs cells slots ls hA hG hR hW hS hc hs hX hl
  exact lv_iload_n hA.1 hA.2.1 hd hi (z_at hl j hj) (h p l e R s m args below meth c Q D base tb cs MC MS H locs cells slots ls hA hG hR hW hS hc hs hX hl)
theorem ys_p_aload_n {G : State → Nat → (Nat → Nat) → Prop} {mi : z_Mi} {d pc n : Nat} {lv : List (Nat × Value)} {st : List Value} {sh : z_Sh} {μ : z_M} {mc ms : Nat} {E : Option Value → z_Sh → z_M → Prop} {k : Fin 4} {i : Nat} {x : Nat} (hd : decode mi.2.1 pc = .ok (.aload_n k, 1)) (hi : (k : Nat) = i) (j : Nat) (hj : lv[j]? = some (i, .ref x)) (hn : pc + 1 = n) (h : PS G mi d n lv (.ref x :: st) sh μ mc ms E) : PS G mi d pc lv (st) sh μ mc ms E := by
  subst hn
  intro p l e R s m args below meth c Q D base tb cs MC MS H locs cells slots ls hA hG hR hW hS hc hs hX hl
  exact lv_aload_n hA.1 hA.2.1 hd hi (z_at hl j hj) (h p l e R s m args below meth c Q D base tb cs MC MS H locs cells slots ls hA hG hR hW hS hc hs hX hl)
theorem ys_p_iadd {G : State → Nat → (Nat → Nat) → Prop} {mi : z_Mi} {d pc n : Nat} {lv : List (Nat × Value)} {st : List Value} {sh : z_Sh} {μ : z_M} {mc ms : Nat} {E : Option Value → z_Sh → z_M → Prop} {x y : Int32} (hd : decode mi.2.1 pc = .ok (.iadd, 1)) (hn : pc + 1 = n) (h : PS G mi d n lv (.int (x + y) :: st) sh μ mc ms E) : PS G mi d pc lv (.int y :: .int x :: st) sh μ mc ms E := by
  subst hn
  intro p l e R s m args below meth c Q D base tb cs MC MS H locs cells slots ls hA hG hR hW hS hc hs hX hl
  exact lv_iadd hA.1 hA.2.1 hd (h p l e R s m args below meth c Q D base tb cs MC MS H locs cells slots ls hA hG hR hW hS hc hs hX hl)
theorem ys_p_isub {G : State → Nat → (Nat → Nat) → Prop} {mi : z_Mi} {d pc n : Nat} {lv : List (Nat × Value)} {st : List Value} {sh : z_Sh} {μ : z_M} {mc ms : Nat} {E : Option Value → z_Sh → z_M → Prop} {x y : Int32} (hd : decode mi.2.1 pc = .ok (.isub, 1)) (hn : pc + 1 = n) (h : PS G mi d n lv (.int (x - y) :: st) sh μ mc ms E) : PS G mi d pc lv (.int y :: .int x :: st) sh μ mc ms E := by
  subst hn
  intro p l e R s m args below meth c Q D base tb cs MC MS H locs cells slots ls hA hG hR hW hS hc hs hX hl
  exact lv_isub hA.1 hA.2.1 hd (h p l e R s m args below meth c Q D base tb cs MC MS H locs cells slots ls hA hG hR hW hS hc hs hX hl)
theorem ys_p_iand {G : State → Nat → (Nat → Nat) → Prop} {mi : z_Mi} {d pc n : Nat} {lv : List (Nat × Value)} {st : List Value} {sh : z_Sh} {μ : z_M} {mc ms : Nat} {E : Option Value → z_Sh → z_M → Prop} {x y : Int32} (hd : decode mi.2.1 pc = .ok (.iand, 1)) (hn : pc + 1 = n) (h : PS G mi d n lv (.int (x &&& y) :: st) sh μ mc ms E) : PS G mi d pc lv (.int y :: .int x :: st) sh μ mc ms E := by
  subst hn
  intro p l e R s m args below meth c Q D base tb cs MC MS H locs cells slots ls hA hG hR hW hS hc hs hX hl
  exact lv_iand hA.1 hA.2.1 hd (h p l e R s m args below meth c Q D base tb cs MC MS H locs cells slots ls hA hG hR hW hS hc hs hX hl)
theorem ys_p_land {G : State → Nat → (Nat → Nat) → Prop} {mi : z_Mi} {d pc n : Nat} {lv : List (Nat × Value)} {st : List Value} {sh : z_Sh} {μ : z_M} {mc ms : Nat} {E : Option Value → z_Sh → z_M → Prop} {x y : Int64} (hd : decode mi.2.1 pc = .ok (.land, 1)) (hn : pc + 1 = n) (h : PS G mi d n lv (.long (x &&& y) :: st) sh μ mc ms E) : PS G mi d pc lv (.long y :: .long x :: st) sh μ mc ms E := by
  subst hn
  intro p l e R s m args below meth c Q D base tb cs MC MS H locs cells slots ls hA hG hR hW hS hc hs hX hl
  exact lv_land hA.1 hA.2.1 hd (h p l e R s m args below meth c Q D base tb cs MC MS H locs cells slots ls hA hG hR hW hS hc hs hX hl)
theorem ys_p_lor {G : State → Nat → (Nat → Nat) → Prop} {mi : z_Mi} {d pc n : Nat} {lv : List (Nat × Value)} {st : List Value} {sh : z_Sh} {μ : z_M} {mc ms : Nat} {E : Option Value → z_Sh → z_M → Prop} {x y : Int64} (hd : decode mi.2.1 pc = .ok (.lor, 1)) (hn : pc + 1 = n) (h : PS G mi d n lv (.long (x ||| y) :: st) sh μ mc ms E) : PS G mi d pc lv (.long y :: .long x :: st) sh μ mc ms E := by
  subst hn
  intro p l e R s m args below meth c Q D base tb cs MC MS H locs cells slots ls hA hG hR hW hS hc hs hX hl
  exact lv_lor hA.1 hA.2.1 hd (h p l e R s m args below meth c Q D base tb cs MC MS H locs cells slots ls hA hG hR hW hS hc hs hX hl)
theorem ys_p_lshl {G : State → Nat → (Nat → Nat) → Prop} {mi : z_Mi} {d pc n : Nat} {lv : List (Nat × Value)} {st : List Value} {sh : z_Sh} {μ : z_M} {mc ms : Nat} {E : Option Value → z_Sh → z_M → Prop} {x : Int64} {y : Int32} (hd : decode mi.2.1 pc = .ok (.lshl, 1)) (hn : pc + 1 = n) (h : PS G mi d n lv (.long (x <<< (y.toInt64 &&& 63)) :: st) sh μ mc ms E) : PS G mi d pc lv (.int y :: .long x :: st) sh μ mc ms E := by
  subst hn
  intro p l e R s m args below meth c Q D base tb cs MC MS H locs cells slots ls hA hG hR hW hS hc hs hX hl
  exact lv_lshl hA.1 hA.2.1 hd rfl (h p l e R s m args below meth c Q D base tb cs MC MS H locs cells slots ls hA hG hR hW hS hc hs hX hl)
theorem ys_p_i2l {G : State → Nat → (Nat → Nat) → Prop} {mi : z_Mi} {d pc n : Nat} {lv : List (Nat × Value)} {st : List Value} {sh : z_Sh} {μ : z_M} {mc ms : Nat} {E : Option Value → z_Sh → z_M → Prop} {x : Int32} (hd : decode mi.2.1 pc = .ok (.i2l, 1)) (hn : pc + 1 = n) (h : PS G mi d n lv (.long x.toInt64 :: st) sh μ mc ms E) : PS G mi d pc lv (.int x :: st) sh μ mc ms E := by
  subst hn
  intro p l e R s m args below meth c Q D base tb cs MC MS H locs cells slots ls hA hG hR hW hS hc hs hX hl
  exact lv_i2l hA.1 hA.2.1 hd rfl (h p l e R s m args below meth c Q D base tb cs MC MS H locs cells slots ls hA hG hR hW hS hc hs hX hl)
theorem ys_p_lcmp {G : State → Nat → (Nat → Nat) → Prop} {mi : z_Mi} {d pc n : Nat} {lv : List (Nat × Value)} {st : List Value} {sh : z_Sh} {μ : z_M} {mc ms : Nat} {E : Option Value → z_Sh → z_M → Prop} {x y : Int64} (hd : decode mi.2.1 pc = .ok (.lcmp, 1)) (hn : pc + 1 = n) (h : PS G mi d n lv (.int (lg_cmp x y) :: st) sh μ mc ms E) : PS G mi d pc lv (.long y :: .long x :: st) sh μ mc ms E := by
  subst hn
  intro p l e R s m args below meth c Q D base tb cs MC MS H locs cells slots ls hA hG hR hW hS hc hs hX hl
  exact W.lcmp hA.1 hA.2.1 hd (h p l e R s m args below meth c Q D base tb cs MC MS H locs cells slots ls hA hG hR hW hS hc hs hX hl)
theorem ys_p_dup {G : State → Nat → (Nat → Nat) → Prop} {mi : z_Mi} {d pc n : Nat} {lv : List (Nat × Value)} {st : List Value} {sh : z_Sh} {μ : z_M} {mc ms : Nat} {E : Option Value → z_Sh → z_M → Prop} {v : Value} (hd : decode mi.2.1 pc = .ok (.dup, 1)) (h0 : v.category = 1) (hn : pc + 1 = n) (h : PS G mi d n lv (v :: v :: st) sh μ mc ms E) : PS G mi d pc lv (v :: st) sh μ mc ms E := by
  subst hn
  intro p l e R s m args below meth c Q D base tb cs MC MS H locs cells slots ls hA hG hR hW hS hc hs hX hl
  exact lv_dup hA.1 hA.2.1 hd ((z_cv_cat base tb v).trans h0) (h p l e R s m args below meth c Q D base tb cs MC MS H locs cells slots ls hA hG hR hW hS hc hs hX hl)
theorem ys_p_istore_n {G : State → Nat → (Nat → Nat) → Prop} {mi : z_Mi} {d pc n : Nat} {lv : List (Nat × Value)} {st : List Value} {sh : z_Sh} {μ : z_M} {mc ms : Nat} {E : Option Value → z_Sh → z_M → Prop} {lv2 : List (Nat × Value)} {k : Fin 4} {i : Nat} {x : Int32} (hd : decode mi.2.1 pc = .ok (.istore_n k, 1)) (hi : (k : Nat) = i) (hb : i < mi.2.2.1) (hl2 : (i, .int x) :: lv.filter (fun q => !(q.1 == i) && !(q.1 + 1 == i && q.2.category == 2)) = lv2) (hn : pc + 1 = n) (h : PS G mi d n lv2 st sh μ mc ms E) : PS G mi d pc lv (.int x :: st) sh μ mc ms E := by
  subst hn
  intro p l e R s m args below meth c Q D base tb cs MC MS H locs cells slots ls hA hG hR hW hS hc hs hX hl
  exact lv_istore_n hA.1 hA.2.1 hd hi hl hb (z_fil hl2) (fun ls hl => h p l e R s m args below meth c Q D base tb cs MC MS H locs cells slots ls hA hG hR hW hS hc hs hX hl)
theorem ys_p_astore_n {G : State → Nat → (Nat → Nat) → Prop} {mi : z_Mi} {d pc n : Nat} {lv : List (Nat × Value)} {st : List Value} {sh : z_Sh} {μ : z_M} {mc ms : Nat} {E : Option Value → z_Sh → z_M → Prop} {lv2 : List (Nat × Value)} {k : Fin 4} {i : Nat} {x : Nat} (hd : decode mi.2.1 pc = .ok (.astore_n k, 1)) (hi : (k : Nat) = i) (hb : i < mi.2.2.1) (hl2 : (i, .ref x) :: lv.filter (fun q => !(q.1 == i) && !(q.1 + 1 == i && q.2.category == 2)) = lv2) (hn : pc + 1 = n) (h : PS G mi d n lv2 st sh μ mc ms E) : PS G mi d pc lv (.ref x :: st) sh μ mc ms E := by
  subst hn
  intro p l e R s m args below meth c Q D base tb cs MC MS H locs cells slots ls hA hG hR hW hS hc hs hX hl
  exact lv_astore_n hA.1 hA.2.1 hd hi hl hb (z_fil hl2) (fun ls hl => h p l e R s m args below meth c Q D base tb cs MC MS H locs cells slots ls hA hG hR hW hS hc hs hX hl)
theorem ys_p_iinc {G : State → Nat → (Nat → Nat) → Prop} {mi : z_Mi} {d pc n : Nat} {lv : List (Nat × Value)} {st : List Value} {sh : z_Sh} {μ : z_M} {mc ms : Nat} {E : Option Value → z_Sh → z_M → Prop} {lv2 : List (Nat × Value)} {i : Nat} {k : Int} {x v : Int32} (hd : decode mi.2.1 pc = .ok (.iinc i k, 3)) (j : Nat) (hj : lv[j]? = some (i, .int x)) (hv : x + Int32.ofInt k = v) (hb : i < mi.2.2.1) (hl2 : (i, Value.int v) :: lv.filter (fun q => !(q.1 == i) && !(q.1 + 1 == i && q.2.category == 2)) = lv2) (hn : pc + 3 = n) (h : PS G mi d n lv2 st sh μ mc ms E) : PS G mi d pc lv st sh μ mc ms E := by
  subst hn
  intro p l e R s m args below meth c Q D base tb cs MC MS H locs cells slots ls hA hG hR hW hS hc hs hX hl
  exact lv_iinc hA.1 hA.2.1 hd hl (k := j) (by rw [List.getElem?_map, hj]; rfl) hv hb (z_fil hl2) (fun ls hl => h p l e R s m args below meth c Q D base tb cs MC MS H locs cells slots ls hA hG hR hW hS hc hs hX hl)
theorem ys_p_if_eq {G : State → Nat → (Nat → Nat) → Prop} {mi : z_Mi} {d pc n : Nat} {lv : List (Nat × Value)} {st : List Value} {sh : z_Sh} {μ : z_M} {mc ms : Nat} {E : Option Value → z_Sh → z_M → Prop} {x : Int32} {off : Int} {t : Nat} (hd : decode mi.2.1 pc = .ok (.ifCond .eq off, 3)) (ht : (pc : Int) + off = (t : Int)) (hn : pc + 3 = n) (kt : x = 0 → PS G mi d t lv st sh μ mc ms E) (kf : ¬ (x = 0) → PS G mi d n lv st sh μ mc ms E) : PS G mi d pc lv (.int x :: st) sh μ mc ms E := by
  subst hn
  intro p l e R s m args below meth c Q D base tb cs MC MS H locs cells slots ls hA hG hR hW hS hc hs hX hl
  exact lv_if_eq hA.1 hA.2.1 hd ht (fun q => kt q p l e R s m args below meth c Q D base tb cs MC MS H locs cells slots ls hA hG hR hW hS hc hs hX hl) (fun q => kf q p l e R s m args below meth c Q D base tb cs MC MS H locs cells slots ls hA hG hR hW hS hc hs hX hl)
theorem ys_p_icmp_eq {G : State → Nat → (Nat → Nat) → Prop} {mi : z_Mi} {d pc n : Nat} {lv : List (Nat × Value)} {st : List Value} {sh : z_Sh} {μ : z_M} {mc ms : Nat} {E : Option Value → z_Sh → z_M → Prop} {x y : Int32} {off : Int} {t : Nat} (hd : decode mi.2.1 pc = .ok (.if_icmp .eq off, 3)) (ht : (pc : Int) + off = (t : Int)) (hn : pc + 3 = n) (kt : x = y → PS G mi d t lv st sh μ mc ms E) (kf : ¬ (x = y) → PS G mi d n lv st sh μ mc ms E) : PS G mi d pc lv (.int y :: .int x :: st) sh μ mc ms E := by
  subst hn
  intro p l e R s m args below meth c Q D base tb cs MC MS H locs cells slots ls hA hG hR hW hS hc hs hX hl
  exact lv_icmp_eq hA.1 hA.2.1 hd ht (fun q => kt q p l e R s m args below meth c Q D base tb cs MC MS H locs cells slots ls hA hG hR hW hS hc hs hX hl) (fun q => kf q p l e R s m args below meth c Q D base tb cs MC MS H locs cells slots ls hA hG hR hW hS hc hs hX hl)
theorem ys_p_if_ne {G : State → Nat → (Nat → Nat) → Prop} {mi : z_Mi} {d pc n : Nat} {lv : List (Nat × Value)} {st : List Value} {sh : z_Sh} {μ : z_M} {mc ms : Nat} {E : Option Value → z_Sh → z_M → Prop} {x : Int32} {off : Int} {t : Nat} (hd : decode mi.2.1 pc = .ok (.ifCond .ne off, 3)) (ht : (pc : Int) + off = (t : Int)) (hn : pc + 3 = n) (kt : ¬ x = 0 → PS G mi d t lv st sh μ mc ms E) (kf : x = 0 → PS G mi d n lv st sh μ mc ms E) : PS G mi d pc lv (.int x :: st) sh μ mc ms E := by
  subst hn
  intro p l e R s m args below meth c Q D base tb cs MC MS H locs cells slots ls hA hG hR hW hS hc hs hX hl
  exact lv_if_ne hA.1 hA.2.1 hd ht (fun q => kt q p l e R s m args below meth c Q D base tb cs MC MS H locs cells slots ls hA hG hR hW hS hc hs hX hl) (fun q => kf q p l e R s m args below meth c Q D base tb cs MC MS H locs cells slots ls hA hG hR hW hS hc hs hX hl)
theorem ys_p_icmp_ne {G : State → Nat → (Nat → Nat) → Prop} {mi : z_Mi} {d pc n : Nat} {lv : List (Nat × Value)} {st : List Value} {sh : z_Sh} {μ : z_M} {mc ms : Nat} {E : Option Value → z_Sh → z_M → Prop} {x y : Int32} {off : Int} {t : Nat} (hd : decode mi.2.1 pc = .ok (.if_icmp .ne off, 3)) (ht : (pc : Int) + off = (t : Int)) (hn : pc + 3 = n) (kt : ¬ x = y → PS G mi d t lv st sh μ mc ms E) (kf : x = y → PS G mi d n lv st sh μ mc ms E) : PS G mi d pc lv (.int y :: .int x :: st) sh μ mc ms E := by
  subst hn
  intro p l e R s m args below meth c Q D base tb cs MC MS H locs cells slots ls hA hG hR hW hS hc hs hX hl
  exact lv_icmp_ne hA.1 hA.2.1 hd ht (fun q => kt q p l e R s m args below meth c Q D base tb cs MC MS H locs cells slots ls hA hG hR hW hS hc hs hX hl) (fun q => kf q p l e R s m args below meth c Q D base tb cs MC MS H locs cells slots ls hA hG hR hW hS hc hs hX hl)
theorem ys_p_if_ge {G : State → Nat → (Nat → Nat) → Prop} {mi : z_Mi} {d pc n : Nat} {lv : List (Nat × Value)} {st : List Value} {sh : z_Sh} {μ : z_M} {mc ms : Nat} {E : Option Value → z_Sh → z_M → Prop} {x : Int32} {off : Int} {t : Nat} (hd : decode mi.2.1 pc = .ok (.ifCond .ge off, 3)) (ht : (pc : Int) + off = (t : Int)) (hn : pc + 3 = n) (kt : 0 ≤ x → PS G mi d t lv st sh μ mc ms E) (kf : ¬ (0 ≤ x) → PS G mi d n lv st sh μ mc ms E) : PS G mi d pc lv (.int x :: st) sh μ mc ms E := by
  subst hn
  intro p l e R s m args below meth c Q D base tb cs MC MS H locs cells slots ls hA hG hR hW hS hc hs hX hl
  exact lv_if_ge hA.1 hA.2.1 hd ht (fun q => kt q p l e R s m args below meth c Q D base tb cs MC MS H locs cells slots ls hA hG hR hW hS hc hs hX hl) (fun q => kf q p l e R s m args below meth c Q D base tb cs MC MS H locs cells slots ls hA hG hR hW hS hc hs hX hl)
theorem ys_p_icmp_ge {G : State → Nat → (Nat → Nat) → Prop} {mi : z_Mi} {d pc n : Nat} {lv : List (Nat × Value)} {st : List Value} {sh : z_Sh} {μ : z_M} {mc ms : Nat} {E : Option Value → z_Sh → z_M → Prop} {x y : Int32} {off : Int} {t : Nat} (hd : decode mi.2.1 pc = .ok (.if_icmp .ge off, 3)) (ht : (pc : Int) + off = (t : Int)) (hn : pc + 3 = n) (kt : y ≤ x → PS G mi d t lv st sh μ mc ms E) (kf : ¬ (y ≤ x) → PS G mi d n lv st sh μ mc ms E) : PS G mi d pc lv (.int y :: .int x :: st) sh μ mc ms E := by
  subst hn
  intro p l e R s m args below meth c Q D base tb cs MC MS H locs cells slots ls hA hG hR hW hS hc hs hX hl
  exact lv_icmp_ge hA.1 hA.2.1 hd ht (fun q => kt q p l e R s m args below meth c Q D base tb cs MC MS H locs cells slots ls hA hG hR hW hS hc hs hX hl) (fun q => kf q p l e R s m args below meth c Q D base tb cs MC MS H locs cells slots ls hA hG hR hW hS hc hs hX hl)
theorem ys_p_icmp_gt {G : State → Nat → (Nat → Nat) → Prop} {mi : z_Mi} {d pc n : Nat} {lv : List (Nat × Value)} {st : List Value} {sh : z_Sh} {μ : z_M} {mc ms : Nat} {E : Option Value → z_Sh → z_M → Prop} {x y : Int32} {off : Int} {t : Nat} (hd : decode mi.2.1 pc = .ok (.if_icmp .gt off, 3)) (ht : (pc : Int) + off = (t : Int)) (hn : pc + 3 = n) (kt : y < x → PS G mi d t lv st sh μ mc ms E) (kf : ¬ (y < x) → PS G mi d n lv st sh μ mc ms E) : PS G mi d pc lv (.int y :: .int x :: st) sh μ mc ms E := by
  subst hn
  intro p l e R s m args below meth c Q D base tb cs MC MS H locs cells slots ls hA hG hR hW hS hc hs hX hl
  exact lv_icmp_gt hA.1 hA.2.1 hd ht (fun q => kt q p l e R s m args below meth c Q D base tb cs MC MS H locs cells slots ls hA hG hR hW hS hc hs hX hl) (fun q => kf q p l e R s m args below meth c Q D base tb cs MC MS H locs cells slots ls hA hG hR hW hS hc hs hX hl)
theorem ys_p_if_le {G : State → Nat → (Nat → Nat) → Prop} {mi : z_Mi} {d pc n : Nat} {lv : List (Nat × Value)} {st : List Value} {sh : z_Sh} {μ : z_M} {mc ms : Nat} {E : Option Value → z_Sh → z_M → Prop} {x : Int32} {off : Int} {t : Nat} (hd : decode mi.2.1 pc = .ok (.ifCond .le off, 3)) (ht : (pc : Int) + off = (t : Int)) (hn : pc + 3 = n) (kt : x ≤ 0 → PS G mi d t lv st sh μ mc ms E) (kf : ¬ (x ≤ 0) → PS G mi d n lv st sh μ mc ms E) : PS G mi d pc lv (.int x :: st) sh μ mc ms E := by
  subst hn
  intro p l e R s m args below meth c Q D base tb cs MC MS H locs cells slots ls hA hG hR hW hS hc hs hX hl
  exact lv_if_le hA.1 hA.2.1 hd ht (fun q => kt q p l e R s m args below meth c Q D base tb cs MC MS H locs cells slots ls hA hG hR hW hS hc hs hX hl) (fun q => kf q p l e R s m args below meth c Q D base tb cs MC MS H locs cells slots ls hA hG hR hW hS hc hs hX hl)
theorem ys_p_icmp_le {G : State → Nat → (Nat → Nat) → Prop} {mi : z_Mi} {d pc n : Nat} {lv : List (Nat × Value)} {st : List Value} {sh : z_Sh} {μ : z_M} {mc ms : Nat} {E : Option Value → z_Sh → z_M → Prop} {x y : Int32} {off : Int} {t : Nat} (hd : decode mi.2.1 pc = .ok (.if_icmp .le off, 3)) (ht : (pc : Int) + off = (t : Int)) (hn : pc + 3 = n) (kt : x ≤ y → PS G mi d t lv st sh μ mc ms E) (kf : ¬ (x ≤ y) → PS G mi d n lv st sh μ mc ms E) : PS G mi d pc lv (.int y :: .int x :: st) sh μ mc ms E := by
  subst hn
  intro p l e R s m args below meth c Q D base tb cs MC MS H locs cells slots ls hA hG hR hW hS hc hs hX hl
  exact lv_icmp_le hA.1 hA.2.1 hd ht (fun q => kt q p l e R s m args below meth c Q D base tb cs MC MS H locs cells slots ls hA hG hR hW hS hc hs hX hl) (fun q => kf q p l e R s m args below meth c Q D base tb cs MC MS H locs cells slots ls hA hG hR hW hS hc hs hX hl)
theorem ys_p_goto {G : State → Nat → (Nat → Nat) → Prop} {mi : z_Mi} {d pc : Nat} {lv : List (Nat × Value)} {st : List Value} {sh : z_Sh} {μ : z_M} {mc ms : Nat} {E : Option Value → z_Sh → z_M → Prop} {off : Int} {t : Nat} (hd : decode mi.2.1 pc = .ok (.goto off, 3)) (ht : (pc : Int) + off = (t : Int)) (h : PS G mi d t lv st sh μ mc ms E) : PS G mi d pc lv st sh μ mc ms E := by
  intro p l e R s m args below meth c Q D base tb cs MC MS H locs cells slots ls hA hG hR hW hS hc hs hX hl
  exact lv_goto hA.1 hA.2.1 hd ht (h p l e R s m args below meth c Q D base tb cs MC MS H locs cells slots ls hA hG hR hW hS hc hs hX hl)
theorem ys_p_topi {G : State → Nat → (Nat → Nat) → Prop} {mi : z_Mi} {d pc : Nat} {lv : List (Nat × Value)} {st : List Value} {sh : z_Sh} {μ : z_M} {mc ms : Nat} {E : Option Value → z_Sh → z_M → Prop} {x : Int32} (h : ∀ y : Int32, y = x → PS G mi d pc lv (.int y :: st) sh μ mc ms E) : PS G mi d pc lv (.int x :: st) sh μ mc ms E := h x rfl
theorem ys_p_tableOut {G : State → Nat → (Nat → Nat) → Prop} {mi : z_Mi} {d pc : Nat} {lv : List (Nat × Value)} {st : List Value} {sh : z_Sh} {μ : z_M} {mc ms : Nat} {E : Option Value → z_Sh → z_M → Prop} {x : Int32} {dflt lo hi : Int} {offs : Array Int} {len t : Nat} (hd : decode mi.2.1 pc = .ok (.tableswitch dflt lo hi offs, len)) (hx : x.toInt < lo ∨ hi < x.toInt) (ht : (pc : Int) + dflt = (t : Int)) (h : PS G mi d t lv st sh μ mc ms E) : PS G mi d pc lv (.int x :: st) sh μ mc ms E := by
  intro p l e R s m args below meth c Q D base tb cs MC MS H locs cells slots ls hA hG hR hW hS hc hs hX hl
  exact lv_tableOut hA.1 hA.2.1 hd hx ht (h p l e R s m args below meth c Q D base tb cs MC MS H locs cells slots ls hA hG hR hW hS hc hs hX hl)
theorem ys_p_tableIn {G : State → Nat → (Nat → Nat) → Prop} {mi : z_Mi} {d pc : Nat} {lv : List (Nat × Value)} {st : List Value} {sh : z_Sh} {μ : z_M} {mc ms : Nat} {E : Option Value → z_Sh → z_M → Prop} {x : Int32} {dflt lo hi : Int} {offs : Array Int} {len t : Nat} {off : Int} (hd : decode mi.2.1 pc = .ok (.tableswitch dflt lo hi offs, len)) (h1 : ¬ x.toInt < lo) (h2 : ¬ hi < x.toInt) (ho : offs[(x.toInt - lo).toNat]? = some off) (ht : (pc : Int) + off = (t : Int)) (h : PS G mi d t lv st sh μ mc ms E) : PS G mi d pc lv (.int x :: st) sh μ mc ms E := by
  intro p l e R s m args below meth c Q D base tb cs MC MS H locs cells slots ls hA hG hR hW hS hc hs hX hl
  exact lv_tableIn hA.1 hA.2.1 hd h1 h2 ho ht (h p l e R s m args below meth c Q D base tb cs MC MS H locs cells slots ls hA hG hR hW hS hc hs hX hl)
theorem ys_p_ldc {G : State → Nat → (Nat → Nat) → Prop} {mi : z_Mi} {d pc n : Nat} {lv : List (Nat × Value)} {st : List Value} {sh : z_Sh} {μ : z_M} {mc ms : Nat} {E : Option Value → z_Sh → z_M → Prop} {k : Nat} {v : Int32} (hd : decode mi.2.1 pc = .ok (.ldc k, 2)) (hk : Cond.constant mi.1.cls k v ∈ z_tbl) (hn : pc + 2 = n) (h : PS G mi d n lv (.int v :: st) sh μ mc ms E) : PS G mi d pc lv st sh μ mc ms E := by
  subst hn
  intro p l e R s m args below meth c Q D base tb cs MC MS H locs cells slots ls hA hG hR hW hS hc hs hX hl
  exact lv_ldc hA.1 hA.2.1 hA.2.2.2.1 (hA.2.2.2.2.1 _ hk) hd (h p l e R s m args below meth c Q D base tb cs MC MS H locs cells slots ls hA hG hR hW hS hc hs hX hl)
theorem ys_p_ldc2 {G : State → Nat → (Nat → Nat) → Prop} {mi : z_Mi} {d pc n : Nat} {lv : List (Nat × Value)} {st : List Value} {sh : z_Sh} {μ : z_M} {mc ms : Nat} {E : Option Value → z_Sh → z_M → Prop} {k : Nat} {v : Int64} (hd : decode mi.2.1 pc = .ok (.ldc2_w k, 3)) (hk : Cond.constantLong mi.1.cls k v ∈ z_tbl) (hn : pc + 3 = n) (h : PS G mi d n lv (.long v :: st) sh μ mc ms E) : PS G mi d pc lv st sh μ mc ms E := by
  subst hn
  intro p l e R s m args below meth c Q D base tb cs MC MS H locs cells slots ls hA hG hR hW hS hc hs hX hl
  exact lv_ldc2 hA.1 hA.2.1 hA.2.2.2.1 (hA.2.2.2.2.1 _ hk) hd (h p l e R s m args below meth c Q D base tb cs MC MS H locs cells slots ls hA hG hR hW hS hc hs hX hl)
theorem ys_p_iret {G : State → Nat → (Nat → Nat) → Prop} {mi : z_Mi} {d pc : Nat} {lv : List (Nat × Value)} {sh : z_Sh} {μ : z_M} {mc ms : Nat} {E : Option Value → z_Sh → z_M → Prop} {x : Int32} (hd : decode mi.2.1 pc = .ok (.ireturn, 1)) (hr : mi.2.2.2 = some .int) (hE : E (some (.int x)) sh μ) : PS G mi d pc lv [.int x] sh μ mc ms E := by
  intro p l e R s m args below meth c Q D base tb cs MC MS H locs cells slots ls hA hG hR hW hS hc hs hX hl
  exact hR (some (.int x)) sh μ H locs cells slots pc ls hE hW hS (by omega) (by omega) ⟨⟨.int, hr, rfl⟩, hd⟩
theorem ys_p_zret {G : State → Nat → (Nat → Nat) → Prop} {mi : z_Mi} {d pc : Nat} {lv : List (Nat × Value)} {sh : z_Sh} {μ : z_M} {mc ms : Nat} {E : Option Value → z_Sh → z_M → Prop} {x : Int32} (hd : decode mi.2.1 pc = .ok (.ireturn, 1)) (hr : mi.2.2.2 = some .boolean) (hx : x = 0 ∨ x = 1) (hE : E (some (.int x)) sh μ) : PS G mi d pc lv [.int x] sh μ mc ms E := by
  intro p l e R s m args below meth c Q D base tb cs MC MS H locs cells slots ls hA hG hR hW hS hc hs hX hl
  exact hR (some (.int x)) sh μ H locs cells slots pc ls hE hW hS (by omega) (by omega) ⟨⟨.boolean, hr, by rcases hx with rfl | rfl <;> rfl⟩, hd⟩
theorem ys_p_callV {G : State → Nat → (Nat → Nat) → Prop} {mi : z_Mi} {d pc n : Nat} {lv : List (Nat × Value)} {st : List Value} {sh : z_Sh} {μ : z_M} {mc ms : Nat} {E : Option Value → z_Sh → z_M → Prop} {mi2 : z_Mi} {d2 idx mc2 ms2 nn : Nat} {As rest : List Value} {E2 : Option Value → z_Sh → z_M → Prop} {k ci N : Nat} (hd : decode mi.2.1 pc = .ok (.invokevirtual idx, 3)) (hlk : z_lk mi.1.cls idx mi2 nn) (hin : Cond.instanceMethod mi2.1 ∈ z_tbl ∧ Cond.selects mi2.1.cls mi2.1 mi2.1 ∈ z_tbl) (hct : z_CT mi2 d2 (.ref k :: As) sh μ mc2 ms2 E2) (hk : sh[k]? = some (ci + 3, N)) (hcc : ∃ (T : u_T) (Nf : Nat), z_cl[ci]? = some (mi2.1.cls, T, Nf)) (hst : st = As.reverse ++ .ref k :: rest) (hnn : As.length = nn) (hrest : (rest.map fun v => v.category).sum ≤ 8) (hdd : d2 + 1 ≤ d) (hmc : mc2 ≤ mc) (hms : ms2 ≤ ms) (hlen : ∀ r sh' μ', E2 r sh' μ' → sh'.length = sh.length + mc2) (hn : pc + 3 = n) (h : ∀ r sh' μ', E2 r sh' μ' → PS G mi d n lv (r.toList ++ rest) sh' μ' (mc - mc2) (ms - ms2) E) : PS G mi d pc lv st sh μ mc ms E := by
  subst hn
  subst hst
  intro p l e R s m args below meth c Q D base tb cs MC MS H locs cells slots ls hA hG hR hW hS hc hs hX hl
  obtain ⟨hx, hb, hml, hown, hts, hnm, hfr, hlo, hMC, hMS, hF⟩ := id hA
  refine W_sz (fun hz => ?_)
  have hp := z_pre (mc2 := mc2) (.ref k :: As) hF hW hS hz hX hc hmc
  obtain ⟨T0, Nf, hcc⟩ := hcc
  have hr := va_runV (As := As.map (z_cv base tb)) (rest := rest.map (z_cv base tb)) (b := z_ad base tb k) (C := mi2.1.cls) (locs := locs) (cells := cells) (slots := slots) (meth := meth) (e := e) (below := below) (g := F0 m pc ls ((As.reverse ++ .ref k :: rest).map (z_cv base tb))) ⟨hx, hb, hml, hown, hts⟩ (hct l D base tb cs) ⟨z_cb hlk hts hdd hfr hlo, hts _ hin.1, hts _ hin.2⟩ ⟨hp.1, va_recv hF.1 hW.2 hcc (z_ws_at hk), hp.2⟩ rfl (by rw [List.length_map]; exact hnn) hl.1 (by show List.map _ _ = _; rw [List.map_append, List.map_reverse]; rfl) (lv_room (by rw [z_rest]; exact hrest)) hd ⟨by omega, by omega⟩
  exact z_call hr hS (fun r sh' μ' H1 locs1 hE hW1 hS1 => by
    rw [z_rl]
    exact h r sh' μ' hE p l e R s m args below meth c Q D base tb cs MC MS H1 locs1 (cells + mc2) (slots + ms2) ls hA hG hR hW1 hS1 (by omega) (by omega) (fun q => by have g := hX (by omega); have := hlen r sh' μ' hE; exact ⟨g.1, by omega⟩) hl)
theorem ys_p_callI {G : State → Nat → (Nat → Nat) → Prop} {mi : z_Mi} {d pc n : Nat} {lv : List (Nat × Value)} {st : List Value} {sh : z_Sh} {μ : z_M} {mc ms : Nat} {E : Option Value → z_Sh → z_M → Prop} {mi2 : z_Mi} {d2 idx mc2 ms2 nn : Nat} {As rest : List Value} {E2 : Option Value → z_Sh → z_M → Prop} {k : Nat} (hd : decode mi.2.1 pc = .ok (.invokespecial idx, 3)) (hlk : z_lk mi.1.cls idx mi2 nn) (hv : mi2.2.2.2 = none) (hin : mi2.1.name = "<init>" ∧ Cond.instanceMethod mi2.1 ∈ z_tbl) (hct : z_CT mi2 d2 (.ref k :: As) sh μ mc2 ms2 E2) (hst : st = As.reverse ++ .ref k :: rest) (hnn : As.length = nn) (hrest : (rest.map fun v => v.category).sum ≤ 8) (hdd : d2 + 1 ≤ d) (hmc : mc2 ≤ mc) (hms : ms2 ≤ ms) (hlen : ∀ r sh' μ', E2 r sh' μ' → sh'.length = sh.length + mc2) (hn : pc + 3 = n) (h : ∀ r sh' μ', E2 r sh' μ' → PS G mi d n lv (r.toList ++ rest) sh' μ' (mc - mc2) (ms - ms2) E) : PS G mi d pc lv st sh μ mc ms E := by
  subst hn
  subst hst
  intro p l e R s m args below meth c Q D base tb cs MC MS H locs cells slots ls hA hG hR hW hS hc hs hX hl
  obtain ⟨hx, hb, hml, hown, hts, hnm, hfr, hlo, hMC, hMS, hF⟩ := id hA
  refine W_sz (fun hz => ?_)
  have hp := z_pre (mc2 := mc2) (.ref k :: As) hF hW hS hz hX hc hmc
  have hcb := z_cb (mc2 := mc2) (ms2 := ms2) hlk hts hdd hfr hlo
  rw [hv] at hcb
  have hr := va_runI (As := As.map (z_cv base tb)) (rest := rest.map (z_cv base tb)) (b := z_ad base tb k) (locs := locs) (cells := cells) (slots := slots) (meth := meth) (e := e) (below := below) (g := F0 m pc ls ((As.reverse ++ .ref k :: rest).map (z_cv base tb))) ⟨hx, hb, hml, hown, hts⟩ (hct l D base tb cs) ⟨hcb, hin.1, hts _ hin.2⟩ hp rfl (by rw [List.length_map]; exact hnn) hl.1 (by show List.map _ _ = _; rw [List.map_append, List.map_reverse]; rfl) (lv_room (by rw [z_rest]; exact hrest)) hd ⟨by omega, by omega⟩
  exact z_call hr hS (fun r sh' μ' H1 locs1 hE hW1 hS1 => by
    rw [z_rl]
    exact h r sh' μ' hE p l e R s m args below meth c Q D base tb cs MC MS H1 locs1 (cells + mc2) (slots + ms2) ls hA hG hR hW1 hS1 (by omega) (by omega) (fun q => by have g := hX (by omega); have := hlen r sh' μ' hE; exact ⟨g.1, by omega⟩) hl)
theorem ys_p_ldcw {G : State → Nat → (Nat → Nat) → Prop} {mi : z_Mi} {d pc n : Nat} {lv : List (Nat × Value)} {st : List Value} {sh : z_Sh} {μ : z_M} {mc ms : Nat} {E : Option Value → z_Sh → z_M → Prop} {k : Nat} {v : Int32} (hd : decode mi.2.1 pc = .ok (.ldc_w k, 3)) (hk : Cond.constant mi.1.cls k v ∈ z_tbl) (hn : pc + 3 = n) (h : PS G mi d n lv (.int v :: st) sh μ mc ms E) : PS G mi d pc lv st sh μ mc ms E := by
  subst hn
  intro p l e R s m args below meth c Q D base tb cs MC MS H locs cells slots ls hA hG hR hW hS hc hs hX hl
  exact lv_ldcw hA.1 hA.2.1 hA.2.2.2.1 (hA.2.2.2.2.1 _ hk) hd (h p l e R s m args below meth c Q D base tb cs MC MS H locs cells slots ls hA hG hR hW hS hc hs hX hl)
theorem ys_z_lv {G : State → Nat → (Nat → Nat) → Prop} {mi : z_Mi} {d pc : Nat} {lv lv' : List (Nat × Value)} {st st' : List Value} {sh : z_Sh} {μ μ' : z_M} {mc ms : Nat} {E : Option Value → z_Sh → z_M → Prop} (h1 : lv = lv') (h2 : st = st') (h3 : μ = μ') (h : PS G mi d pc lv' st' sh μ' mc ms E) : PS G mi d pc lv st sh μ mc ms E := by
  subst h1; subst h2; subst h3; exact h
theorem ys_z_sub {G : State → Nat → (Nat → Nat) → Prop} {mi : z_Mi} {d pc : Nat} {lv lv' : List (Nat × Value)} {st : List Value} {sh : z_Sh} {μ : z_M} {mc ms : Nat} {E : Option Value → z_Sh → z_M → Prop} (ks : List Nat) (hk : lv_pick lv ks = lv') (h : PS G mi d pc lv' st sh μ mc ms E) : PS G mi d pc lv st sh μ mc ms E := by
  intro p l e R s m args below meth c Q D base tb cs MC MS H locs cells slots ls hA hG hR hW hS hc hs hX hl
  refine h p l e R s m args below meth c Q D base tb cs MC MS H locs cells slots ls hA hG hR hW hS hc hs hX (lv_sub hl ks ?_)
  subst hk
  exact z_pick base tb lv ks
theorem ys_q_callV {G : State → Nat → (Nat → Nat) → Prop} {mi : z_Mi} {d pc n : Nat} {lv : List (Nat × Value)} {st : List Value} {mc ms : Nat} {E : Option Value → z_Sh → z_M → Prop} {mi2 : z_Mi} {d2 idx nn : Nat} {As rest : List Value} {v : Option Value} {μ μ1 : z_M} {k ci N : Nat} (hd : decode mi.2.1 pc = .ok (.invokevirtual idx, 3)) (hlk : z_lk mi.1.cls idx mi2 nn) (hin : Cond.instanceMethod mi2.1 ∈ z_tbl ∧ Cond.selects mi2.1.cls mi2.1 mi2.1 ∈ z_tbl) (hct : z_CT mi2 d2 (.ref k :: As) SH μ 0 0 (z_ret v μ1)) (hk : SH[k]? = some (ci + 3, N)) (hcc : ∃ (T : u_T) (Nf : Nat), z_cl[ci]? = some (mi2.1.cls, T, Nf)) (hst : st = As.reverse ++ .ref k :: rest) (hnn : As.length = nn) (hrest : (rest.map fun v => v.category).sum ≤ 8) (hdd : d2 + 1 ≤ d) (hn : pc + 3 = n) (h : PS G mi d n lv (v.toList ++ rest) SH μ1 mc ms E) : PS G mi d pc lv st SH μ mc ms E := ys_p_callV hd hlk hin hct hk hcc hst hnn hrest hdd (Nat.zero_le _) (Nat.zero_le _) (fun r sh' μ' q => by rw [q.2.1]; rfl) hn (fun r sh' μ' q => by obtain ⟨rfl, rfl, rfl⟩ := q; exact h)
theorem ys_p_new {G : State → Nat → (Nat → Nat) → Prop} {mi : z_Mi} {d pc n : Nat} {lv : List (Nat × Value)} {st : List Value} {sh : z_Sh} {μ : z_M} {mc ms : Nat} {E : Option Value → z_Sh → z_M → Prop} {ci N idx : Nat} {C : String} {T : u_T} (hd : decode mi.2.1 pc = .ok (.new idx, 3)) (hc0 : z_cl[ci]? = some (C, T, N)) (hw : Cond.classLink mi.1.cls idx C ∈ z_tbl ∧ Cond.instantiable C N ∈ z_tbl ∧ Cond.initialized C ∈ z_tbl) (hl0 : sh.length < 1000) (hzI : ∀ j, μ.1 sh.length j = 0) (hzR : ∀ j, μ.2.2 sh.length j = none) (hmc : 1 ≤ mc) (hms : N ≤ ms) (hn : pc + 3 = n) (h : PS G mi d n lv (.ref sh.length :: st) (sh ++ [(ci + 3, N)]) μ (mc - 1) (ms - N) E) : PS G mi d pc lv st sh μ mc ms E := by
  subst hn
  intro p l e R s m args below meth c Q D base tb cs MC MS H locs cells slots ls hA hG hR hW hS hc hs hX hl
  obtain ⟨hx, hb, hml, hown, hts, hnm, hfr, hlo, hMC, hMS, hF⟩ := id hA
  refine W_sz (fun hz => ?_)
  have hsize := yq_size hF.2.1 hW hS hz hX (by omega)
  have ht := (hX (by omega)).1
  obtain ⟨g1, -, g3, -⟩ := z_cls ci C T N hc0
  obtain ⟨ty0, t1, t2⟩ := yq_dflt ci C T N hc0
  have hKn := hF.1.1 ci _ hc0
  refine W.newcK hx hb hown (hts _ hw.1) (hts _ hw.2.1) (hts _ hw.2.2) rfl hd (by omega) (by omega) hKn.2.1 hsize fun H1 kC hkC e1 z1 o1 => ?_
  have hg := yq_grow (q := (ci + 3, N)) hW hS ht hl0 hsize ⟨_, hc0, (u_born ty0 hts g1 hKn hkC e1 t1).to (fun j hj => by
    rw [t2 j hj]
    show _ = (z_fs base tb μ sh.length (z_kd ci)).getD j .null
    have hj2 : j < (z_kd ci).length := by rw [g3]; exact hj
    have e0 : (z_kd ci)[j]? = some ((z_kd ci)[j]) := List.getElem?_eq_getElem hj2
    rw [List.getD_eq_getElem?_getD, List.getD_eq_getElem?_getD, z_fs_at e0, e0]
    show yq_d0 (z_kd ci)[j] = z_fv base tb μ sh.length j (z_kd ci)[j]
    generalize (z_kd ci)[j] = kd
    unfold yq_d0
    by_cases q : kd = 2
    · subst q
      rw [if_pos rfl]
      show Value.null = va_rf ((μ.2.2 sh.length j).map (z_ad base tb))
      rw [hzR j]
      rfl
    · rw [if_neg q, z_fv_i q, hzI j])⟩ z1 o1
  have had : z_ad base tb sh.length = base + sh.length := z_ad_lt ht hl0
  have hk := h p l e R s m args below meth c Q D base tb cs MC MS H1 locs (cells + 1) (slots + N) ls hA hG hR hg.1 hg.2 (by omega) (by omega) (fun q => ⟨ht, by rw [List.length_append]; have := (hX (by omega)).2; show _ = base + (sh.length + 1); omega⟩) hl
  have es : (Value.ref sh.length :: st).map (z_cv base tb) = .ref (base + sh.length) :: st.map (z_cv base tb) := by
    show Value.ref (z_ad base tb sh.length) :: _ = _
    rw [had]
  rw [es] at hk
  exact hk
theorem ys_q_new {G : State → Nat → (Nat → Nat) → Prop} {mi : z_Mi} {d pc n : Nat} {lv : List (Nat × Value)} {st : List Value} {E : Option Value → z_Sh → z_M → Prop} {I : Nat → Nat → Int32} {L : Nat → Nat → Int64} {R : Nat → Nat → Option Nat} {ci N idx mc ms : Nat} {C : String} {T : u_T} (k : Nat) (hd : decode mi.2.1 pc = .ok (.new idx, 3)) (hc0 : z_cl[ci]? = some (C, T, N)) (hw : Cond.classLink mi.1.cls idx C ∈ z_tbl ∧ Cond.instantiable C N ∈ z_tbl ∧ Cond.initialized C ∈ z_tbl) (hk : (SN.take k).length = k) (hk0 : k < 1000) (hZ : yq_Z k I L R) (hsh : SN.take k ++ [(ci + 3, N)] = SN.take (k + 1)) (hn : pc + 3 = n) (h : PS G mi d n lv (.ref k :: st) (SN.take (k + 1)) (I, L, R) mc ms E) : PS G mi d pc lv st (SN.take k) (I, L, R) (mc + 1) (ms + N) E := by
  refine ys_p_new hd hc0 hw (by rw [hk]; exact hk0) (by rw [hk]; exact fun j => (hZ k (Nat.le_refl _) j).1) (by rw [hk]; exact fun j => (hZ k (Nat.le_refl _) j).2.2) (by omega) (by omega) hn ?_
  rw [hk, hsh, Nat.add_sub_cancel, Nat.add_sub_cancel]
  exact h
theorem ys_q_callI {G : State → Nat → (Nat → Nat) → Prop} {mi : z_Mi} {d pc n : Nat} {lv : List (Nat × Value)} {st : List Value} {E : Option Value → z_Sh → z_M → Prop} {mi2 : z_Mi} {d2 idx mc2 ms2 nn mc ms k n0 n1 : Nat} {As : List Value} {μ μ1 : z_M} (hd : decode mi.2.1 pc = .ok (.invokespecial idx, 3)) (hlk : z_lk mi.1.cls idx mi2 nn) (hv : mi2.2.2.2 = none) (hin : mi2.1.name = "<init>" ∧ Cond.instanceMethod mi2.1 ∈ z_tbl) (hct : z_CT mi2 d2 (.ref k :: As) (SN.take n0) μ mc2 ms2 (yq_ret n1 μ1)) (rest : List Value) (hst : st = As.reverse ++ .ref k :: rest) (hnn : As.length = nn) (hrest : (rest.map fun v => v.category).sum ≤ 8) (hdd : d2 + 1 ≤ d) (hlen : (SN.take n1).length = (SN.take n0).length + mc2) (hn : pc + 3 = n) (h : PS G mi d n lv rest (SN.take n1) μ1 mc ms E) : PS G mi d pc lv st (SN.take n0) μ (mc + mc2) (ms + ms2) E := by
  refine ys_p_callI hd hlk hv hin hct hst hnn hrest hdd (by omega) (by omega) (fun r sh' μ' q => by rw [q.2.1]; exact hlen) hn (fun r sh' μ' q => ?_)
  obtain ⟨rfl, rfl, rfl⟩ := q
  rw [Nat.add_sub_cancel, Nat.add_sub_cancel]
  exact h
/-- the script, of L ints xs, at the cell 1003 -/
def yq_G (L : Nat) (xs : Nat → Int32) (s : State) (base : Nat) (tb : Nat → Nat) : Prop := va_X (tb 1003) L xs s s.heap ∧ tb 1003 < s.heap.size ∧ tb 1003 < base
theorem ys_sld {L : Nat} {xs : Nat → Int32} {mi : z_Mi} {d pc n : Nat} {lv : List (Nat × Value)} {st : List Value} {sh : z_Sh} {μ : z_M} {mc ms : Nat} {E : Option Value → z_Sh → z_M → Prop} {i : Int32} (hd : decode mi.2.1 pc = .ok (.iaload, 1)) (hi : vp_in i L) (hn : pc + 1 = n) (h : PS (yq_G L xs) mi d n lv (.int (xs i.toNatClampNeg) :: st) sh μ mc ms E) : PS (yq_G L xs) mi d pc lv (.int i :: .ref 1003 :: st) sh μ mc ms E := by
  subst hn
  intro p l e R s m args below meth c Q D base tb cs MC MS H locs cells slots ls hA hG hR hW hS hc hs hX hl
  exact va_sld hA.1 hA.2.1 hG.1 hG.2.1 (fun q => by have : base ≤ tb 1003 := q; have := hG.2.2; omega) hS hi hd (h p l e R s m args below meth c Q D base tb cs MC MS H locs cells slots ls hA hG hR hW hS hc hs hX hl)
theorem ys_slen {L : Nat} {xs : Nat → Int32} {mi : z_Mi} {d pc n : Nat} {lv : List (Nat × Value)} {st : List Value} {sh : z_Sh} {μ : z_M} {mc ms : Nat} {E : Option Value → z_Sh → z_M → Prop} (hd : decode mi.2.1 pc = .ok (.arraylength, 1)) (hn : pc + 1 = n) (h : PS (yq_G L xs) mi d n lv (.int (Int32.ofNat L) :: st) sh μ mc ms E) : PS (yq_G L xs) mi d pc lv (.ref 1003 :: st) sh μ mc ms E := by
  subst hn
  intro p l e R s m args below meth c Q D base tb cs MC MS H locs cells slots ls hA hG hR hW hS hc hs hX hl
  exact va_slen hA.1 hA.2.1 hG.1 hG.2.1 (fun q => by have : base ≤ tb 1003 := q; have := hG.2.2; omega) hS hd (h p l e R s m args below meth c Q D base tb cs MC MS H locs cells slots ls hA hG hR hW hS hc hs hX hl)
