def SH : z_Sh := [(11, 10), (10, 8), (0, 10), (0, 10), (0, 10), (0, 10), (0, 5), (10, 8), (0, 10), (0, 10), (0, 10), (0, 10), (0, 5), (4, 9), (0, 120), (0, 121), (0, 121), (0, 121), (6, 4), (10, 8), (0, 10), (0, 10), (0, 10), (0, 10), (0, 5), (0, 10), (5, 5), (0, 10), (1, 10), (1, 1024), (0, 1024), (9, 4), (0, 100), (3, 6), (0, 40), (0, 40), (0, 40), (0, 40), (8, 5), (0, 50), (0, 24), (2, 6), (7, 4), (1, 60), (7, 4), (1, 60), (7, 4), (1, 60), (7, 4), (1, 60), (7, 4), (1, 60), (7, 4), (1, 60), (12, 42), (0, 42), (0, 40), (0, 40), (0, 40), (0, 120), (0, 120), (0, 6), (0, 10), (0, 10), (0, 10), (0, 3), (0, 3), (0, 100), (0, 1024), (0, 100), (0, 5), (0, 42), (0, 5), (0, 50), (0, 24), (0, 6), (0, 6), (1, 360), (1, 60), (10, 8), (0, 10), (0, 10), (0, 10), (0, 10), (0, 5)]
/-- the references of the cells; b: code and draft are exchanged -/
def z_R (b : Bool) : Nat → Nat → Option Nat := fun k j => match k with
  | 0 => (match j with | 0 => some 1 | 1 => some 7 | 3 => some 13 | 4 => some 18 | 5 => some 26 | 6 => some 31 | 7 => some 33 | 8 => some 38 | 9 => some 41 | _ => none)
  | 1 => (match j with | 1 => some 2 | 2 => some 3 | 3 => some 4 | 4 => some 5 | 7 => some 6 | _ => none)
  | 7 => (match j with | 1 => some 8 | 2 => some 9 | 3 => some 10 | 4 => some 11 | 7 => some 12 | _ => none)
  | 13 => (match j with | 0 => some 14 | 3 => some (if b = true then 16 else 15) | 5 => some (if b = true then 15 else 16) | 7 => some 17 | _ => none)
  | 18 => (match j with | 0 => some 19 | 1 => some 25 | _ => none)
  | 19 => (match j with | 1 => some 20 | 2 => some 21 | 3 => some 22 | 4 => some 23 | 7 => some 24 | _ => none)
  | 26 => (match j with | 1 => some 27 | 2 => some 28 | 3 => some 29 | 4 => some 30 | _ => none)
  | 31 => (match j with | 0 => some 79 | 3 => some 32 | _ => none)
  | 33 => (match j with | 0 => some 34 | 1 => some 35 | 2 => some 36 | 3 => some 37 | _ => none)
  | 38 => (match j with | 0 => some 39 | 2 => some 40 | _ => none)
  | 42 => (match j with | 3 => some 43 | _ => none)
  | 44 => (match j with | 3 => some 45 | _ => none)
  | 46 => (match j with | 3 => some 47 | _ => none)
  | 48 => (match j with | 3 => some 49 | _ => none)
  | 50 => (match j with | 3 => some 51 | _ => none)
  | 52 => (match j with | 3 => some 53 | _ => none)
  | 54 => (match j with | 0 => some 55 | 1 => some 56 | 2 => some 57 | 3 => some 58 | 7 => some 59 | 9 => some 60 | 16 => some 61 | 17 => some 62 | 18 => some 63 | 19 => some 64 | 21 => some 65 | 22 => some 66 | 24 => some 67 | 25 => some 68 | 26 => some 69 | 27 => some 70 | 30 => some 71 | 31 => some 72 | 33 => some 73 | 34 => some 74 | 38 => some 75 | 39 => some 76 | 40 => some 77 | 41 => some 78 | _ => none)
  | 79 => (match j with | 1 => some 80 | 2 => some 81 | 3 => some 82 | 4 => some 83 | 7 => some 84 | _ => none)
  | 41 => if j < 6 then some (42 + 2 * j) else none
  | _ => none
/-- the end that is known: the answer, the ints, the longs, which of the two rows is the law -/
def z_ret (v : Option Value) (μ1 : z_M) : Option Value → z_Sh → z_M → Prop := fun r sh μ => r = v ∧ sh = SH ∧ μ = μ1
theorem z_lv {mi : z_Mi} {d pc : Nat} {lv lv' : List (Nat × Value)} {st st' : List Value} {sh : z_Sh} {μ μ' : z_M} {mc ms : Nat} {E : Option Value → z_Sh → z_M → Prop} (h1 : lv = lv') (h2 : st = st') (h3 : μ = μ') (h : PW mi d pc lv' st' sh μ' mc ms E) : PW mi d pc lv st sh μ mc ms E := by
  subst h1; subst h2; subst h3; exact h
theorem z_pick (base : Nat) (tb : Nat → Nat) (lv : List (Nat × Value)) : ∀ ks : List Nat, lv_pick (lv.map (z_cw base tb)) ks = (lv_pick lv ks).map (z_cw base tb)
  | [] => rfl
  | k :: ks => by
    have ih := z_pick base tb lv ks
    unfold lv_pick at ih ⊢
    rw [List.filterMap_cons, List.filterMap_cons, List.getElem?_map]
    cases lv[k]? with
    | none => exact ih
    | some q => exact congrArg (fun z => z_cw base tb q :: z) ih
theorem z_sub {mi : z_Mi} {d pc : Nat} {lv lv' : List (Nat × Value)} {st : List Value} {sh : z_Sh} {μ : z_M} {mc ms : Nat} {E : Option Value → z_Sh → z_M → Prop} (ks : List Nat) (hk : lv_pick lv ks = lv') (h : PW mi d pc lv' st sh μ mc ms E) : PW mi d pc lv st sh μ mc ms E := by
  intro p l e R s m args below meth c Q D base tb cs MC MS H locs cells slots ls hA hR hW hS hc hs hX hl
  refine h p l e R s m args below meth c Q D base tb cs MC MS H locs cells slots ls hA hR hW hS hc hs hX (lv_sub hl ks ?_)
  subst hk
  exact z_pick base tb lv ks
theorem z_down {P : Nat → Prop} (n : Nat) (h : ∀ i, i ≤ n → (i < n → P (i + 1)) → P i) : ∀ i, i ≤ n → P i := by
  have key : ∀ k i, i ≤ n → n - i = k → P i := by
    intro k
    induction k with
    | zero => exact fun i hi hk => h i hi (fun hl => by omega)
    | succ k ih => exact fun i hi hk => h i hi (fun hl => ih (i + 1) (by omega) (by omega))
  exact fun i hi => key (n - i) i hi rfl
theorem z_nI {j N : Nat} {i : Int32} (hi : i = nI j) (hb : j < N) (hN : N < 2000) : vp_in i N ∧ i.toNatClampNeg = j := by
  subst hi
  exact ⟨vp_in_nI hb (by omega), nI_clamp (by omega)⟩
theorem q_getI {mi : z_Mi} {d pc n : Nat} {lv : List (Nat × Value)} {st : List Value} {sh : z_Sh} {I : Nat → Nat → Int32} {L : Nat → Nat → Int64} {R : Nat → Nat → Option Nat} {mc ms : Nat} {E : Option Value → z_Sh → z_M → Prop} {k ci N j idx kd : Nat} {v : Int32} (hd : decode mi.2.1 pc = .ok (.getfield idx, 3)) (hf : z_fl mi.1.cls idx ci j kd) (hkd : kd ≠ 2) (hk : sh[k]? = some (ci + 3, N)) (hv : I k j = v) (hn : pc + 3 = n) (h : PW mi d n lv (.int v :: st) sh (I, L, R) mc ms E) : PW mi d pc lv (.ref k :: st) sh (I, L, R) mc ms E := by
  subst hv
  exact p_getI hd hf hkd hk hn h
theorem q_getR {mi : z_Mi} {d pc n : Nat} {lv : List (Nat × Value)} {st : List Value} {sh : z_Sh} {I : Nat → Nat → Int32} {L : Nat → Nat → Int64} {R : Nat → Nat → Option Nat} {mc ms : Nat} {E : Option Value → z_Sh → z_M → Prop} {k ci N j idx i : Nat} (hd : decode mi.2.1 pc = .ok (.getfield idx, 3)) (hf : z_fl mi.1.cls idx ci j 2) (hr : R k j = some i) (hk : sh[k]? = some (ci + 3, N)) (hn : pc + 3 = n) (h : PW mi d n lv (.ref i :: st) sh (I, L, R) mc ms E) : PW mi d pc lv (.ref k :: st) sh (I, L, R) mc ms E := p_getR hd hf hr hk hn h
theorem q_putI {mi : z_Mi} {d pc n : Nat} {lv : List (Nat × Value)} {st : List Value} {sh : z_Sh} {I : Nat → Nat → Int32} {L : Nat → Nat → Int64} {R : Nat → Nat → Option Nat} {mc ms : Nat} {E : Option Value → z_Sh → z_M → Prop} {k ci N j idx : Nat} {fin : Bool} {x : Int32} (hd : decode mi.2.1 pc = .ok (.putfield idx, 3)) (hf : z_pl mi.1.cls idx ci j 0 .int fin) (hfin : fin = true → mi.1.name = "<init>") (hk : sh[k]? = some (ci + 3, N)) (hn : pc + 3 = n) (h : PW mi d n lv st sh (z_up I k j x, L, R) mc ms E) : PW mi d pc lv (.int x :: .ref k :: st) sh (I, L, R) mc ms E := p_putI hd hf hfin hk hn h
theorem q_putZ {mi : z_Mi} {d pc n : Nat} {lv : List (Nat × Value)} {st : List Value} {sh : z_Sh} {I : Nat → Nat → Int32} {L : Nat → Nat → Int64} {R : Nat → Nat → Option Nat} {mc ms : Nat} {E : Option Value → z_Sh → z_M → Prop} {k ci N j idx : Nat} {fin : Bool} {x : Int32} (hd : decode mi.2.1 pc = .ok (.putfield idx, 3)) (hf : z_pl mi.1.cls idx ci j 3 .boolean fin) (hfin : fin = true → mi.1.name = "<init>") (hx : x = 0 ∨ x = 1) (hk : sh[k]? = some (ci + 3, N)) (hn : pc + 3 = n) (h : PW mi d n lv st sh (z_up I k j x, L, R) mc ms E) : PW mi d pc lv (.int x :: .ref k :: st) sh (I, L, R) mc ms E := p_putZ hd hf hfin hx hk hn h
theorem q_putR {mi : z_Mi} {d pc n : Nat} {lv : List (Nat × Value)} {st : List Value} {sh : z_Sh} {I : Nat → Nat → Int32} {L : Nat → Nat → Int64} {R : Nat → Nat → Option Nat} {mc ms : Nat} {E : Option Value → z_Sh → z_M → Prop} {k ci N j idx i : Nat} {ty : FieldType} {fin : Bool} (hd : decode mi.2.1 pc = .ok (.putfield idx, 3)) (hf : z_pl mi.1.cls idx ci j 2 ty fin) (hfin : fin = true → mi.1.name = "<init>") (hty : ∀ a : Nat, narrow ty (.ref a) = .ref a ∧ fits ty (.ref a) = true) (hk : sh[k]? = some (ci + 3, N)) (hn : pc + 3 = n) (h : PW mi d n lv st sh (I, L, z_up R k j (some i)) mc ms E) : PW mi d pc lv (.ref i :: .ref k :: st) sh (I, L, R) mc ms E := p_putR hd hf hfin hty hk hn h
theorem q_iald {mi : z_Mi} {d pc n : Nat} {lv : List (Nat × Value)} {st : List Value} {sh : z_Sh} {I : Nat → Nat → Int32} {L : Nat → Nat → Int64} {R : Nat → Nat → Option Nat} {mc ms : Nat} {E : Option Value → z_Sh → z_M → Prop} {k N : Nat} {i v : Int32} (hd : decode mi.2.1 pc = .ok (.iaload, 1)) (hk : sh[k]? = some (0, N)) (hN : N < 2000) (j : Nat) (hi : i = nI j) (hb : j < N) (hv : I k j = v) (hn : pc + 1 = n) (h : PW mi d n lv (.int v :: st) sh (I, L, R) mc ms E) : PW mi d pc lv (.int i :: .ref k :: st) sh (I, L, R) mc ms E := by
  subst hv
  obtain ⟨h1, h2⟩ := z_nI hi hb hN
  refine p_iald hd hk h1 hn ?_
  rw [h2]
  exact h
theorem q_lald {mi : z_Mi} {d pc n : Nat} {lv : List (Nat × Value)} {st : List Value} {sh : z_Sh} {I : Nat → Nat → Int32} {L : Nat → Nat → Int64} {R : Nat → Nat → Option Nat} {mc ms : Nat} {E : Option Value → z_Sh → z_M → Prop} {k N : Nat} {i : Int32} {v : Int64} (hd : decode mi.2.1 pc = .ok (.laload, 1)) (hk : sh[k]? = some (1, N)) (hN : N < 2000) (j : Nat) (hi : i = nI j) (hb : j < N) (hv : L k j = v) (hn : pc + 1 = n) (h : PW mi d n lv (.long v :: st) sh (I, L, R) mc ms E) : PW mi d pc lv (.int i :: .ref k :: st) sh (I, L, R) mc ms E := by
  subst hv
  obtain ⟨h1, h2⟩ := z_nI hi hb hN
  refine p_lald hd hk h1 hn ?_
  rw [h2]
  exact h
theorem q_aald {mi : z_Mi} {d pc n : Nat} {lv : List (Nat × Value)} {st : List Value} {sh : z_Sh} {I : Nat → Nat → Int32} {L : Nat → Nat → Int64} {R : Nat → Nat → Option Nat} {mc ms : Nat} {E : Option Value → z_Sh → z_M → Prop} {k N a : Nat} {i : Int32} (hd : decode mi.2.1 pc = .ok (.aaload, 1)) (hk : sh[k]? = some (2, N)) (hN : N < 2000) (j : Nat) (hi : i = nI j) (hb : j < N) (ha : R k j = some a) (hn : pc + 1 = n) (h : PW mi d n lv (.ref a :: st) sh (I, L, R) mc ms E) : PW mi d pc lv (.int i :: .ref k :: st) sh (I, L, R) mc ms E := by
  obtain ⟨h1, h2⟩ := z_nI hi hb hN
  exact p_aald hd hk h1 (by rw [h2]; exact ha) hn h
theorem q_iast {mi : z_Mi} {d pc n : Nat} {lv : List (Nat × Value)} {st : List Value} {sh : z_Sh} {I : Nat → Nat → Int32} {L : Nat → Nat → Int64} {R : Nat → Nat → Option Nat} {mc ms : Nat} {E : Option Value → z_Sh → z_M → Prop} {k N : Nat} {i x : Int32} (hd : decode mi.2.1 pc = .ok (.iastore, 1)) (hk : sh[k]? = some (0, N)) (hN : N < 2000) (j : Nat) (hi : i = nI j) (hb : j < N) (hn : pc + 1 = n) (h : PW mi d n lv st sh (z_up I k j x, L, R) mc ms E) : PW mi d pc lv (.int x :: .int i :: .ref k :: st) sh (I, L, R) mc ms E := by
  obtain ⟨h1, h2⟩ := z_nI hi hb hN
  refine p_iast hd hk h1 hn ?_
  rw [h2]
  exact h
theorem q_last {mi : z_Mi} {d pc n : Nat} {lv : List (Nat × Value)} {st : List Value} {sh : z_Sh} {I : Nat → Nat → Int32} {L : Nat → Nat → Int64} {R : Nat → Nat → Option Nat} {mc ms : Nat} {E : Option Value → z_Sh → z_M → Prop} {k N : Nat} {i : Int32} {x : Int64} (hd : decode mi.2.1 pc = .ok (.lastore, 1)) (hk : sh[k]? = some (1, N)) (hN : N < 2000) (j : Nat) (hi : i = nI j) (hb : j < N) (hn : pc + 1 = n) (h : PW mi d n lv st sh (I, z_up L k j x, R) mc ms E) : PW mi d pc lv (.long x :: .int i :: .ref k :: st) sh (I, L, R) mc ms E := by
  obtain ⟨h1, h2⟩ := z_nI hi hb hN
  refine p_last hd hk h1 hn ?_
  rw [h2]
  exact h
theorem q_copyI {mi : z_Mi} {d pc n : Nat} {lv : List (Nat × Value)} {st : List Value} {sh : z_Sh} {I : Nat → Nat → Int32} {L : Nat → Nat → Int64} {R : Nat → Nat → Option Nat} {mc ms : Nat} {E : Option Value → z_Sh → z_M → Prop} {idx k0 k1 n0 n1 : Nat} {sp dp q : Int32} (hd : decode mi.2.1 pc = .ok (.invokestatic idx, 3)) (hlk : Cond.methodLink mi.1.cls idx arraycopyName ∈ z_tbl) (hk : Cond.native arraycopyName ∈ z_tbl ∧ Cond.static arraycopyName ∈ z_tbl ∧ Cond.initialized "java/lang/System" ∈ z_tbl) (h0 : sh[k0]? = some (0, n0)) (h1 : sh[k1]? = some (0, n1)) (hN0 : n0 < 2000) (hN1 : n1 < 2000) (a b c : Nat) (ha : sp = nI a) (hb : dp = nI b) (hc : q = nI c) (g4 : a + c ≤ n0) (g5 : b + c ≤ n1) (hdd : 1 ≤ d) (hrest : (st.map fun v => v.category).sum ≤ 8) (hn : pc + 3 = n) (h : PW mi d n lv st sh (z_ro I k1 (va_cpy (I k0) (I k1) a b c), L, R) mc ms E) : PW mi d pc lv (.int q :: .int dp :: .ref k1 :: .int sp :: .ref k0 :: st) sh (I, L, R) mc ms E := by
  subst ha; subst hb; subst hc
  refine p_copyI hd hlk hk h0 h1 (nI_pos (by omega)) (nI_pos (by omega)) (nI_pos (by omega)) (by rw [nI_clamp (by omega), nI_clamp (by omega)]; exact g4) (by rw [nI_clamp (by omega), nI_clamp (by omega)]; exact g5) hdd hrest hn ?_
  rw [nI_clamp (n := a) (by omega), nI_clamp (n := b) (by omega), nI_clamp (n := c) (by omega)]
  exact h
theorem q_copyL {mi : z_Mi} {d pc n : Nat} {lv : List (Nat × Value)} {st : List Value} {sh : z_Sh} {I : Nat → Nat → Int32} {L : Nat → Nat → Int64} {R : Nat → Nat → Option Nat} {mc ms : Nat} {E : Option Value → z_Sh → z_M → Prop} {idx k0 k1 n0 n1 : Nat} {sp dp q : Int32} (hd : decode mi.2.1 pc = .ok (.invokestatic idx, 3)) (hlk : Cond.methodLink mi.1.cls idx arraycopyName ∈ z_tbl) (hk : Cond.native arraycopyName ∈ z_tbl ∧ Cond.static arraycopyName ∈ z_tbl ∧ Cond.initialized "java/lang/System" ∈ z_tbl) (h0 : sh[k0]? = some (1, n0)) (h1 : sh[k1]? = some (1, n1)) (hN0 : n0 < 2000) (hN1 : n1 < 2000) (a b c : Nat) (ha : sp = nI a) (hb : dp = nI b) (hc : q = nI c) (g4 : a + c ≤ n0) (g5 : b + c ≤ n1) (hdd : 1 ≤ d) (hrest : (st.map fun v => v.category).sum ≤ 8) (hn : pc + 3 = n) (h : PW mi d n lv st sh (I, z_ro L k1 (va_cpy (L k0) (L k1) a b c), R) mc ms E) : PW mi d pc lv (.int q :: .int dp :: .ref k1 :: .int sp :: .ref k0 :: st) sh (I, L, R) mc ms E := by
  subst ha; subst hb; subst hc
  refine p_copyL hd hlk hk h0 h1 (nI_pos (by omega)) (nI_pos (by omega)) (nI_pos (by omega)) (by rw [nI_clamp (by omega), nI_clamp (by omega)]; exact g4) (by rw [nI_clamp (by omega), nI_clamp (by omega)]; exact g5) hdd hrest hn ?_
  rw [nI_clamp (n := a) (by omega), nI_clamp (n := b) (by omega), nI_clamp (n := c) (by omega)]
  exact h
theorem q_callV {mi : z_Mi} {d pc n : Nat} {lv : List (Nat × Value)} {st : List Value} {mc ms : Nat} {E : Option Value → z_Sh → z_M → Prop} {mi2 : z_Mi} {d2 idx nn : Nat} {As rest : List Value} {v : Option Value} {μ μ1 : z_M} {k ci N : Nat} (hd : decode mi.2.1 pc = .ok (.invokevirtual idx, 3)) (hlk : z_lk mi.1.cls idx mi2 nn) (hin : Cond.instanceMethod mi2.1 ∈ z_tbl ∧ Cond.selects mi2.1.cls mi2.1 mi2.1 ∈ z_tbl) (hct : z_CT mi2 d2 (.ref k :: As) SH μ 0 0 (z_ret v μ1)) (hk : SH[k]? = some (ci + 3, N)) (hcc : ∃ (T : u_T) (Nf : Nat), z_cl[ci]? = some (mi2.1.cls, T, Nf)) (hst : st = As.reverse ++ .ref k :: rest) (hnn : As.length = nn) (hrest : (rest.map fun v => v.category).sum ≤ 8) (hdd : d2 + 1 ≤ d) (hn : pc + 3 = n) (h : PW mi d n lv (v.toList ++ rest) SH μ1 mc ms E) : PW mi d pc lv st SH μ mc ms E := p_callV hd hlk hin hct hk hcc hst hnn hrest hdd (Nat.zero_le _) (Nat.zero_le _) (fun r sh' μ' q => by rw [q.2.1]; rfl) hn (fun r sh' μ' q => by obtain ⟨rfl, rfl, rfl⟩ := q; exact h)
theorem q_callS {mi : z_Mi} {d pc n : Nat} {lv : List (Nat × Value)} {st : List Value} {mc ms : Nat} {E : Option Value → z_Sh → z_M → Prop} {mi2 : z_Mi} {d2 idx nn : Nat} {As rest : List Value} {v : Option Value} {μ μ1 : z_M} (hd : decode mi.2.1 pc = .ok (.invokestatic idx, 3)) (hlk : z_lk mi.1.cls idx mi2 nn) (hin : Cond.static mi2.1 ∈ z_tbl) (hct : z_CT mi2 d2 As SH μ 0 0 (z_ret v μ1)) (hst : st = As.reverse ++ rest) (hnn : As.length = nn) (hrest : (rest.map fun v => v.category).sum ≤ 8) (hdd : d2 + 1 ≤ d) (hn : pc + 3 = n) (h : PW mi d n lv (v.toList ++ rest) SH μ1 mc ms E) : PW mi d pc lv st SH μ mc ms E := p_callS hd hlk hin hct hst hnn hrest hdd (Nat.zero_le _) (Nat.zero_le _) (fun r sh' μ' q => by rw [q.2.1]; rfl) hn (fun r sh' μ' q => by obtain ⟨rfl, rfl, rfl⟩ := q; exact h)
theorem p_mmax {mi : z_Mi} {d pc n : Nat} {lv : List (Nat × Value)} {st : List Value} {sh : z_Sh} {μ : z_M} {mc ms : Nat} {E : Option Value → z_Sh → z_M → Prop} {idx : Nat} {x y : Int32} (hd : decode mi.2.1 pc = .ok (.invokestatic idx, 3)) (hlk : z_lk mi.1.cls idx zm_J9_max_7cf53 2) (hdd : 1 ≤ d) (hrest : (st.map fun v => v.category).sum ≤ 8) (hn : pc + 3 = n) (h : PW mi d n lv (.int (if x < y then y else x) :: st) sh μ mc ms E) : PW mi d pc lv (.int y :: .int x :: st) sh μ mc ms E := by
  subst hn
  intro p l e R s m args below meth c Q D base tb cs MC MS H locs cells slots ls hA hR hW hS hc hs hX hl
  obtain ⟨hx, hb, hml, hown, hts, hnm, hfr, hlo, hMC, hMS, hF⟩ := id hA
  exact va_mmax hx hb (hml.trans hl.1.symm) hown (hts _ hlk.1) (hts _ zs_J9_max_7cf53) (hts _ zn_J9) (hts _ zw_J9_max_7cf53) (by omega) (by rw [z_rest]; omega) (by omega) (by omega) hd (h p l e R s m args below meth c Q D base tb cs MC MS H locs cells slots ls hA hR hW hS hc hs hX hl)
theorem p_mmin {mi : z_Mi} {d pc n : Nat} {lv : List (Nat × Value)} {st : List Value} {sh : z_Sh} {μ : z_M} {mc ms : Nat} {E : Option Value → z_Sh → z_M → Prop} {idx : Nat} {x y : Int32} (hd : decode mi.2.1 pc = .ok (.invokestatic idx, 3)) (hlk : z_lk mi.1.cls idx zm_J9_min_7cf53 2) (hdd : 1 ≤ d) (hrest : (st.map fun v => v.category).sum ≤ 8) (hn : pc + 3 = n) (h : PW mi d n lv (.int (if y < x then y else x) :: st) sh μ mc ms E) : PW mi d pc lv (.int y :: .int x :: st) sh μ mc ms E := by
  subst hn
  intro p l e R s m args below meth c Q D base tb cs MC MS H locs cells slots ls hA hR hW hS hc hs hX hl
  obtain ⟨hx, hb, hml, hown, hts, hnm, hfr, hlo, hMC, hMS, hF⟩ := id hA
  exact va_mmin hx hb (hml.trans hl.1.symm) hown (hts _ hlk.1) (hts _ zs_J9_min_7cf53) (hts _ zn_J9) (hts _ zw_J9_min_7cf53) (by omega) (by rw [z_rest]; omega) (by omega) (by omega) hd (h p l e R s m args below meth c Q D base tb cs MC MS H locs cells slots ls hA hR hW hS hc hs hX hl)
theorem q_tld0 {mi : z_Mi} {d pc n : Nat} {lv : List (Nat × Value)} {st : List Value} {sh : z_Sh} {μ : z_M} {mc ms : Nat} {E : Option Value → z_Sh → z_M → Prop} {i : Int32} (hd : decode mi.2.1 pc = .ok (.iaload, 1)) (j : Nat) (hi : i = nI j) (hb : j < 3) (hn : pc + 1 = n) (h : PW mi d n lv (.int (z_t0 j) :: st) sh μ mc ms E) : PW mi d pc lv (.int i :: .ref 1000 :: st) sh μ mc ms E := by
  obtain ⟨h1, h2⟩ := z_nI hi hb (by decide)
  refine p_tld0 hd h1 hn ?_
  rw [h2]
  exact h
theorem q_tld1 {mi : z_Mi} {d pc n : Nat} {lv : List (Nat × Value)} {st : List Value} {sh : z_Sh} {μ : z_M} {mc ms : Nat} {E : Option Value → z_Sh → z_M → Prop} {i : Int32} (hd : decode mi.2.1 pc = .ok (.iaload, 1)) (j : Nat) (hi : i = nI j) (hb : j < 8) (hn : pc + 1 = n) (h : PW mi d n lv (.int (z_t1 j) :: st) sh μ mc ms E) : PW mi d pc lv (.int i :: .ref 1001 :: st) sh μ mc ms E := by
  obtain ⟨h1, h2⟩ := z_nI hi hb (by decide)
  refine p_tld1 hd h1 hn ?_
  rw [h2]
  exact h
theorem q_tld2 {mi : z_Mi} {d pc n : Nat} {lv : List (Nat × Value)} {st : List Value} {sh : z_Sh} {μ : z_M} {mc ms : Nat} {E : Option Value → z_Sh → z_M → Prop} {i : Int32} (hd : decode mi.2.1 pc = .ok (.iaload, 1)) (j : Nat) (hi : i = nI j) (hb : j < 32) (hn : pc + 1 = n) (h : PW mi d n lv (.int (z_t2 j) :: st) sh μ mc ms E) : PW mi d pc lv (.int i :: .ref 1002 :: st) sh μ mc ms E := by
  obtain ⟨h1, h2⟩ := z_nI hi hb (by decide)
  refine p_tld2 hd h1 hn ?_
  rw [h2]
  exact h
theorem z_ge {a b : Nat} (h : nI a ≤ nI b) (ha : a < 2000000000 := by omega) (hb : b < 2000000000 := by omega) : a ≤ b := (nI_leI (by omega) (by omega)).mp h
theorem z_3 {I I2 : Nat → Nat → Int32} {L L2 : Nat → Nat → Int64} {R : Nat → Nat → Option Nat} (h1 : I = I2) (h2 : L = L2) : ((I, L, R) : z_M) = (I2, L2, R) := by subst h1; subst h2; rfl
theorem z_pred {n : Nat} (h : 0 < n) : nI n - 1 = nI (n - 1) := by
  obtain ⟨k, rfl⟩ : ∃ k, n = k + 1 := ⟨n - 1, by omega⟩
  exact nI_pred k
theorem z_lt {a b : Nat} (h : nI a < nI b) (ha : a < 2000000000 := by omega) (hb : b < 2000000000 := by omega) : a < b := (nI_ltI (by omega) (by omega)).mp h
theorem z_nlt {a b : Nat} (h : ¬ nI a < nI b) (ha : a < 2000000000 := by omega) (hb : b < 2000000000 := by omega) : b ≤ a := by
  rcases Nat.lt_or_ge a b with q | q
  · exact absurd ((nI_ltI (by omega) (by omega)).mpr q) h
  · exact q
theorem z_inN {x : Int32} {N : Nat} (h1 : ¬ x < 0) (h2 : ¬ nI N ≤ x) (hN : N < 2000000000) : x = nI x.toNatClampNeg ∧ x.toNatClampNeg < N := by
  obtain ⟨j, hj, rfl⟩ := nI_of h1
  rw [nI_clamp hj]
  refine ⟨rfl, ?_⟩
  rcases Nat.lt_or_ge j N with q | q
  · exact q
  · exact absurd (nI_le q hj) h2
theorem z_in24 {x : Int32} (h1 : ¬ x < 0) (h2 : ¬ 24 ≤ x) : x = nI x.toNatClampNeg ∧ x.toNatClampNeg < 24 := z_inN (N := 24) h1 h2 (by omega)
theorem z_addE {x y : Int32} {a b : Nat} (h1 : x = nI a) (h2 : y = nI b) : x + y = nI (a + b) := by rw [h1, h2, nI_add]
theorem z_mulE {x y : Int32} {a b : Nat} (h1 : x = nI a) (h2 : y = nI b) : x * y = nI (a * b) := by rw [h1, h2, pk_mul]
theorem z_subE {x y : Int32} {a b : Nat} (h1 : x = nI a) (h2 : y = nI b) (h : b ≤ a) : x - y = nI (a - b) := by rw [h1, h2, pk_sub h]
theorem z_neN {a N : Nat} (h : a ≤ N) (hN : N < 2000000000) (h2 : ¬ nI a = nI N) : a < N := by
  rcases Nat.lt_or_ge a N with q | q
  · exact q
  · exact absurd (by rw [show a = N by omega]) h2
theorem z_ne120 {a : Nat} (h : a ≤ 120) (h2 : ¬ nI a = 120) : a < 120 := z_neN (N := 120) h (by omega) h2
theorem z_ne50 {a : Nat} (h : a ≤ 50) (h2 : ¬ nI a = 50) : a < 50 := z_neN (N := 50) h (by omega) h2
theorem z_ne0 {a N : Nat} (h : a ≤ N) (h2 : ¬ nI a = 0) : 0 < a := by
  rcases Nat.eq_zero_or_pos a with q | q
  · exact absurd (by rw [q]; rfl) h2
  · exact q
theorem z_min {a b : Nat} (h : a ≤ b) (hb : b < 2000000000) : (if nI a < nI b then nI a else nI b) = nI a := by
  by_cases q : nI a < nI b
  · rw [if_pos q]
  · rw [if_neg q]
    have q2 : ¬ a < b := fun z => q ((nI_ltI (a := a) (b := b) (by omega) (by omega)).mpr z)
    rw [show a = b by omega]
theorem z_nge {a b : Nat} (h : ¬ nI a ≤ nI b) (ha : a < 2000000000 := by omega) (hb : b < 2000000000 := by omega) : b < a := by
  rcases Nat.lt_or_ge b a with q | q
  · exact q
  · exact absurd ((nI_leI (by omega) (by omega)).mpr q) h
/-- a yard at the cell k -/
def z_Yd (b : Bool) (k : Nat) : Prop := SH[k]? = some (10, 8) ∧ (SH[k + 1]? = some (0, 10) ∧ SH[k + 2]? = some (0, 10) ∧ SH[k + 3]? = some (0, 10) ∧ SH[k + 4]? = some (0, 10) ∧ SH[k + 5]? = some (0, 5)) ∧ (z_R b k 1 = some (k + 1) ∧ z_R b k 2 = some (k + 2) ∧ z_R b k 3 = some (k + 3) ∧ z_R b k 4 = some (k + 4) ∧ z_R b k 7 = some (k + 5))
theorem z_Yd1 (b : Bool) : z_Yd b 1 := ⟨rfl, ⟨rfl, rfl, rfl, rfl, rfl⟩, rfl, rfl, rfl, rfl, rfl⟩
theorem z_Yd7 (b : Bool) : z_Yd b 7 := ⟨rfl, ⟨rfl, rfl, rfl, rfl, rfl⟩, rfl, rfl, rfl, rfl, rfl⟩
theorem z_Yd19 (b : Bool) : z_Yd b 19 := ⟨rfl, ⟨rfl, rfl, rfl, rfl, rfl⟩, rfl, rfl, rfl, rfl, rfl⟩
theorem z_Yd79 (b : Bool) : z_Yd b 79 := ⟨rfl, ⟨rfl, rfl, rfl, rfl, rfl⟩, rfl, rfl, rfl, rfl, rfl⟩
/-- a shelf at the cell k -/
def z_Sf (b : Bool) (k : Nat) : Prop := SH[k]? = some (7, 4) ∧ SH[k + 1]? = some (1, 60) ∧ z_R b k 3 = some (k + 1)
theorem z_SfOf (b : Bool) (j : Nat) (h : j < 6) : z_Sf b (42 + 2 * j) := by
  match j, h with
  | 0, _ => exact ⟨rfl, rfl, rfl⟩
  | 1, _ => exact ⟨rfl, rfl, rfl⟩
  | 2, _ => exact ⟨rfl, rfl, rfl⟩
  | 3, _ => exact ⟨rfl, rfl, rfl⟩
  | 4, _ => exact ⟨rfl, rfl, rfl⟩
  | 5, _ => exact ⟨rfl, rfl, rfl⟩
  | k + 6, h => exact absurd h (by omega)
