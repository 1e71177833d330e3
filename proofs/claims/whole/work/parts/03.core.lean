/-! THE ABSTRACT STORE: cells by their numbers (in the order in which they were made), ints, longs and references of each by place -/
def z_tbl : List Cond := lw_tbl.filter goodWord
theorem z_in {w : Cond} (i : Nat) (h : lw_tbl[i]? = some w) (g : goodWord w = true) : w ∈ z_tbl := List.mem_filter.mpr ⟨List.mem_of_getElem? h, g⟩
theorem z_gw : ∀ w ∈ z_tbl, (w.onTables && w.keeps) = true ∨ ∃ ty, w = .arrayClass ty := fun _ h => good_of_word (List.mem_filter.mp h).2
abbrev z_Mi : Type := MethodName × ByteArray × Nat × Option FieldType
def z_w (mi : z_Mi) : List Cond := .code mi.1 mi.2.1 mi.2.2.1 mi.2.2.2 :: z_tbl
abbrev z_Sh : Type := List (Nat × Nat)
abbrev z_M : Type := (Nat → Nat → Int32) × (Nat → Nat → Int64) × (Nat → Nat → Option Nat)
def z_up {α : Type} (f : Nat → Nat → α) (k j : Nat) (v : α) : Nat → Nat → α := fun a b => if a = k then (if b = j then v else f a b) else f a b
def z_ro {α : Type} (f : Nat → Nat → α) (k : Nat) (g : Nat → α) : Nat → Nat → α := fun a b => if a = k then g b else f a b
theorem z_up_s {α : Type} (f : Nat → Nat → α) (k j : Nat) (v : α) : z_up f k j v k j = v := by simp [z_up]
theorem z_up_j {α : Type} (f : Nat → Nat → α) {k j b : Nat} (v : α) (h : b ≠ j) : z_up f k j v k b = f k b := by simp [z_up, h]
theorem z_up_k {α : Type} (f : Nat → Nat → α) {k j a b : Nat} (v : α) (h : a ≠ k) : z_up f k j v a b = f a b := by simp [z_up, h]
theorem z_up_r {α : Type} (f : Nat → Nat → α) {k j a : Nat} (v : α) (h : a ≠ k) : z_up f k j v a = f a := by funext b; simp [z_up, h]
theorem z_ro_s {α : Type} (f : Nat → Nat → α) (k : Nat) (g : Nat → α) : z_ro f k g k = g := by funext b; simp [z_ro]
theorem z_ro_r {α : Type} (f : Nat → Nat → α) {k a : Nat} (g : Nat → α) (h : a ≠ k) : z_ro f k g a = f a := by funext b; simp [z_ro, h]
def z_cl : List vw_C := [(RX0, TX0, 6), (RX1, TX1, 9), (RX2, TX2, 5), (RX3, TX3, 4), (RX4, TX4, 4), (RX5, TX5, 5), (RX6, TX6, 4), (RX7, TX7, 8), (RX8, TX8, 10), (RX9, TX9, 42)]
/-- the kinds of the fields of a class: 0 int, 2 reference, 3 boolean -/
def z_kd : Nat → List Nat
  | 0 => [2, 2, 2, 2, 0, 0]
  | 1 => [2, 0, 0, 2, 0, 2, 0, 2, 0]
  | 2 => [0, 2, 2, 2, 2]
  | 3 => [2, 2, 0, 0]
  | 4 => [0, 0, 0, 2]
  | 5 => [2, 0, 2, 0, 0]
  | 6 => [2, 0, 0, 2]
  | 7 => [0, 2, 2, 2, 2, 0, 0, 2]
  | 8 => [2, 2, 3, 2, 2, 2, 2, 2, 2, 2]
  | 9 => [2, 2, 2, 2, 0, 0, 0, 2, 0, 2, 0, 0, 0, 0, 0, 0, 2, 2, 2, 2, 0, 2, 2, 0, 2, 2, 2, 2, 3, 0, 2, 2, 0, 2, 2, 0, 0, 0, 2, 2, 2, 2]
  | _ => []
/-- 0: the cells stand in the order in which they were made; else: Turns' yard (made behind cell 31) has the numbers 79 to 84 -/
def z_pm : Nat → Nat → Nat
  | 0, k => k
  | _ + 1, k => if k < 32 then k else if k < 79 then k + 6 else if k < 85 then k - 47 else k
theorem z_pm_inj (n : Nat) {i j : Nat} (h : z_pm n i = z_pm n j) : i = j := by
  cases n with
  | zero => exact h
  | succ n =>
    simp only [z_pm] at h
    (repeat' split at h) <;> omega
def z_ad (base : Nat) (tb : Nat → Nat) (k : Nat) : Nat := if k < 1000 then base + z_pm (tb 2000) k else tb k
def z_cv (base : Nat) (tb : Nat → Nat) : Value → Value
  | .ref k => .ref (z_ad base tb k)
  | v => v
def z_cw (base : Nat) (tb : Nat → Nat) (q : Nat × Value) : Nat × Value := (q.1, z_cv base tb q.2)
theorem z_cv_cat (base : Nat) (tb : Nat → Nat) (v : Value) : (z_cv base tb v).category = v.category := by cases v <;> rfl
def z_fv (base : Nat) (tb : Nat → Nat) (μ : z_M) (k j kd : Nat) : Value := match kd with
  | 2 => va_rf ((μ.2.2 k j).map (z_ad base tb))
  | _ => .int (μ.1 k j)
def z_fs (base : Nat) (tb : Nat → Nat) (μ : z_M) (k : Nat) (ks : List Nat) : List Value := ks.mapIdx (fun j kd => z_fv base tb μ k j kd)
def z_ce (base : Nat) (tb : Nat → Nat) (cs : ClassId × ClassId × ClassId) (μ : z_M) (k : Nat) (q : Nat × Nat) : va_E := match q.1 with
  | 0 => .inl (cs.1, q.2, .inl (μ.1 k))
  | 1 => .inl (cs.2.1, q.2, .inr (.inl (μ.2.1 k)))
  | 2 => .inl (cs.2.2, q.2, .inr (.inr (.inr (.inr (fun j => (μ.2.2 k j).map (z_ad base tb))))))
  | t + 3 => .inr (t, z_fs base tb μ k (z_kd t))
def z_ws (base : Nat) (tb : Nat → Nat) (cs : ClassId × ClassId × ClassId) (sh : z_Sh) (μ : z_M) : va_W := sh.mapIdx (fun k q => (z_ad base tb k, z_ce base tb cs μ k q))
def z_A (base : Nat) : Nat → Prop := fun q => base ≤ q
def z_Wd (D : va_G) (base : Nat) (tb : Nat → Nat) (cs : ClassId × ClassId × ClassId) (sh : z_Sh) (μ : z_M) (H : Heap) : Prop := sh.length ≤ 1000 ∧ va_P D z_cl (z_ws base tb cs sh μ) H
theorem z_ws_at {base : Nat} {tb : Nat → Nat} {cs : ClassId × ClassId × ClassId} {sh : z_Sh} {μ : z_M} {k : Nat} {q : Nat × Nat} (h : sh[k]? = some q) : (z_ws base tb cs sh μ)[k]? = some (z_ad base tb k, z_ce base tb cs μ k q) := by
  unfold z_ws
  rw [List.getElem?_mapIdx, h]
  rfl
theorem z_ad_pm {base : Nat} {tb : Nat → Nat} {k : Nat} (h : k < 1000) : z_ad base tb k = base + z_pm (tb 2000) k := by simp [z_ad, h]
theorem z_ad_lt {base : Nat} {tb : Nat → Nat} {k : Nat} (ht : tb 2000 = 0) (h : k < 1000) : z_ad base tb k = base + k := by rw [z_ad_pm h, ht]; rfl
theorem z_D {base : Nat} {tb : Nat → Nat} {cs : ClassId × ClassId × ClassId} {sh : z_Sh} {μ : z_M} (h : sh.length ≤ 1000) : va_D (z_A base) (z_ws base tb cs sh μ) := by
  have key : ∀ (i : Nat) (q : Nat × va_E), (z_ws base tb cs sh μ)[i]? = some q → i < 1000 ∧ q.1 = base + z_pm (tb 2000) i := by
    intro i q hq
    unfold z_ws at hq
    rw [List.getElem?_mapIdx] at hq
    cases hs : sh[i]? with
    | none => rw [hs] at hq; cases hq
    | some x =>
      rw [hs] at hq
      have hlt : i < 1000 := Nat.lt_of_lt_of_le (List.getElem?_eq_some_iff.mp hs).1 h
      refine ⟨hlt, ?_⟩
      rw [← Option.some.inj hq]
      exact z_ad_pm hlt
  refine ⟨fun i j a b ha hb hab => ?_, fun k q hq => ?_⟩
  · have h1 := (key i a ha).2
    have h2 := (key j b hb).2
    exact z_pm_inj (tb 2000) (by omega)
  · have h1 := (key k q hq).2
    show base ≤ q.1
    omega
/-- the static tables -/
def z_t0 (j : Nat) : Int32 := ([2, 0, 1] : List Int32).getD j 0
def z_t1 (j : Nat) : Int32 := ([-1, 0, 0, 2, 1, 3, 0, 4] : List Int32).getD j 0
def z_t2 (j : Nat) : Int32 := ([1, 10, 11, 2, 20, 0, 0, 0, 0, 30, 0, 0, 0, 41, 40, 0, 0, 0, 50, 0, 0, 0, 0, 60, 70, 0, 0, 0, 0, 80, 0, 81] : List Int32).getD j 0
def z_nst : List (String × Nat × MethodName × String) := [(RX8, 9, yX7_init, RX8), (RX8, 25, yX1_init, RX8), (RX8, 32, yX3_init, RX8), (RX3, 11, yX7_init, RX8), (RX8, 39, yX2_init, RX8), (RX8, 46, yX6_init, RX8), (RX6, 11, yX7_init, RX8), (RX8, 53, yX0_init, RX8), (RX8, 60, yX5_init, RX8), (RX8, 71, yX4_init, RX8)]
/-- what holds of a state at which a method begins, its world apart -/
def z_Fx (D : va_G) (base : Nat) (tb : Nat → Nat) (cs : ClassId × ClassId × ClassId) (U : State) : Prop :=
  va_K D z_cl [(cs.1, .int), (cs.2.1, .long), (cs.2.2, .object RX4)] U ∧ base ≤ U.heap.size ∧
  (va_Z RX6 "FIRST_LIKED" "[I" (.ref (tb 1000)) (z_A base) U U.heap ∧ va_T .int (tb 1000) 3 (fun j => .int (z_t0 j)) (z_A base) U U.heap) ∧
  (va_Z RX5 "ABOVE" "[I" (.ref (tb 1001)) (z_A base) U U.heap ∧ va_T .int (tb 1001) 8 (fun j => .int (z_t1 j)) (z_A base) U U.heap) ∧
  (va_Z RX5 "BODIES" "[I" (.ref (tb 1002)) (z_A base) U U.heap ∧ va_T .int (tb 1002) 32 (fun j => .int (z_t2 j)) (z_A base) U U.heap) ∧
  va_AO RX4 U ∧ ∀ q ∈ z_nst, va_Nw (.methodLinkNest q.1 q.2.1 q.2.2.1 q.2.2.2) U
theorem z_Fx.blind {D : va_G} {base : Nat} {tb : Nat → Nat} {cs : ClassId × ClassId × ClassId} {U : State} (h : z_Fx D base tb cs U) (g : JFrame) (mk : MethodId) (a : Array Value) : z_Fx D base tb cs (U.calling g mk a) := by
  obtain ⟨h1, h2, ⟨a1, a2⟩, ⟨b1, b2⟩, ⟨c1, c2⟩, h6, h7⟩ := h
  have r : U.vm.Alike (U.calling g mk a).vm := Vm.Alike.refl U.vm
  exact ⟨va_K.moved (u := U) (U := U.calling g mk a) r h1, h2, ⟨va_Z.moved (u := U) (U := U.calling g mk a) r a1, va_T.moved (u := U) (U := U.calling g mk a) r a2⟩, ⟨va_Z.moved (u := U) (U := U.calling g mk a) r b1, va_T.moved (u := U) (U := U.calling g mk a) r b2⟩, ⟨va_Z.moved (u := U) (U := U.calling g mk a) r c1, va_T.moved (u := U) (U := U.calling g mk a) r c2⟩, va_AO.moved (u := U) (U := U.calling g mk a) r h6, fun q hq => va_Nw.same rfl (u := U) rfl (h7 q hq)⟩
theorem z_Fx.goes {D : va_G} {base : Nat} {tb : Nat → Nat} {cs : ClassId × ClassId × ClassId} {s U : State} {H : Heap} {locs : List Loc} (h : z_Fx D base tb cs s) (hS : va_S (z_A base) s.heap H locs) (hU : U.heap = H) (hW : s.WarmedH U.vm) : z_Fx D base tb cs U := by
  obtain ⟨h1, h2, ⟨a1, a2⟩, ⟨b1, b2⟩, ⟨c1, c2⟩, h6, h7⟩ := h
  subst hU
  have r := hW.alike
  have kz : ∀ {C n d : String} {v : Value}, va_Z C n d v (z_A base) s s.heap → va_Z C n d v (z_A base) U U.heap := fun hz => (va_Z.kept hz hS.2.1).moved r
  have kt : ∀ {t N : Nat} {f : Nat → Value}, va_T .int t N f (z_A base) s s.heap → va_T .int t N f (z_A base) U U.heap := fun hz => (va_T.kept hz hS.2.1).moved r
  exact ⟨h1.moved r, Nat.le_trans h2 hS.1, ⟨kz a1, kt a2⟩, ⟨kz b1, kt b2⟩, ⟨kz c1, kt c2⟩, h6.moved r, fun q hq => va_Nw.warmM hW (h7 q hq)⟩
/-- where a frame stands -/
def z_At (mi : z_Mi) (d : Nat) (p : Program) (R : Room) (s : State) (m : MethodId) (args : Array Value) (meth : Method) (c : Code) (D : va_G) (base : Nat) (tb : Nat → Nat) (cs : ClassId × ClassId × ClassId) (MC MS : Nat) : Prop :=
  p.tables.exec = Jvm.exec ∧ c.code = mi.2.1 ∧ c.maxLocals = mi.2.2.1 ∧ s.vm.findClass mi.1.cls = some m.cls ∧ (∀ w ∈ z_tbl, w.before args s = true) ∧ meth.name = mi.1.name ∧ d ≤ R.frames ∧ 60 * d ≤ R.locals ∧ MC ≤ R.cells ∧ MS ≤ R.slots ∧ z_Fx D base tb cs s
def z_ri (cc : ByteArray) (ret : Option FieldType) (pc : Nat) (r : Option Value) : Prop := match r with
  | none => ret = none ∧ decode cc pc = .ok (.return_, 1)
  | some (.int v) => (∃ ty, ret = some ty ∧ narrow ty (.int v) = .int v) ∧ decode cc pc = .ok (.ireturn, 1)
  | some (.long _) => ret = some .long ∧ decode cc pc = .ok (.lreturn, 1)
  | _ => False
/-- how a frame may end -/
def z_Rt (mi : z_Mi) (E : Option Value → z_Sh → z_M → Prop) (p : Program) (l : Launch) (e : Env) (R : Room) (s : State) (m : MethodId) (args : Array Value) (below : List Frame) (meth : Method) (c : Code) (Q : State → Prop) (D : va_G) (base : Nat) (tb : Nat → Nat) (cs : ClassId × ClassId × ClassId) (MC MS : Nat) : Prop :=
  ∀ (r : Option Value) (sh : z_Sh) (μ : z_M) (H : Heap) (locs : List Loc) (cells slots pc : Nat) (ls : Array Slot), E r sh μ → z_Wd D base tb cs sh μ H → va_S (z_A base) s.heap H locs → cells ≤ MC → slots ≤ MS → z_ri mi.2.1 mi.2.2.2 pc r → W p l e R s m args below meth c H locs cells slots Q (F0 m pc ls (r.toList.map (z_cv base tb)))
/-- from here the machine comes to an end that E says -/
def PW (mi : z_Mi) (d pc : Nat) (lv : List (Nat × Value)) (st : List Value) (sh : z_Sh) (μ : z_M) (mc ms : Nat) (E : Option Value → z_Sh → z_M → Prop) : Prop :=
  ∀ (p : Program) (l : Launch) (e : Env) (R : Room) (s : State) (m : MethodId) (args : Array Value) (below : List Frame) (meth : Method) (c : Code) (Q : State → Prop) (D : va_G) (base : Nat) (tb : Nat → Nat) (cs : ClassId × ClassId × ClassId) (MC MS : Nat) (H : Heap) (locs : List Loc) (cells slots : Nat) (ls : Array Slot), z_At mi d p R s m args meth c D base tb cs MC MS → z_Rt mi E p l e R s m args below meth c Q D base tb cs MC MS → z_Wd D base tb cs sh μ H → va_S (z_A base) s.heap H locs → cells + mc ≤ MC → slots + ms ≤ MS → (mc ≠ 0 → tb 2000 = 0 ∧ cells + s.heap.size = base + sh.length) → lv_has ls mi.2.2.1 (lv.map (z_cw base tb)) →
    W p l e R s m args below meth c H locs cells slots Q (F0 m pc ls (st.map (z_cv base tb)))
/-- the contract of a method: from this store, with these arguments, it ends as E says -/
def z_CT (mi : z_Mi) (d : Nat) (av : List Value) (sh : z_Sh) (μ : z_M) (mc ms : Nat) (E : Option Value → z_Sh → z_M → Prop) : Prop :=
  ∀ (l : Launch) (D : va_G) (base : Nat) (tb : Nat → Nat) (cs : ClassId × ClassId × ClassId), Met l mi.1 (z_w mi) { frames := d, cells := mc, slots := ms, locals := 60 * d } (va_Pc (av.map (z_cv base tb)) (fun U => z_Fx D base tb cs U ∧ (mc ≠ 0 → tb 2000 = 0 ∧ U.heap.size = base + sh.length) ∧ z_Wd D base tb cs sh μ U.heap))
    (fun _ st oc t => (∃ (r : Option Value) (sh' : z_Sh) (μ' : z_M), oc = .returned (r.map (z_cv base tb)) ∧ E r sh' μ' ∧ z_Wd D base tb cs sh' μ' t.heap) ∧ va_F (z_A base) st t) mc ms (z_A base)
theorem z_args (base : Nat) (tb : Nat → Nat) : ∀ (i : Nat) (av : List Value), lv_args i (av.map (z_cv base tb)) = (lv_args i av).map (z_cw base tb) := by
  intro i av
  induction av generalizing i with
  | nil => rfl
  | cons v vs ih =>
    show (i, z_cv base tb v) :: lv_args _ _ = (i, z_cv base tb v) :: _
    rw [z_cv_cat, ih]
theorem z_sl (base : Nat) (tb : Nat → Nat) (av : List Value) : (lg_sl (av.map (z_cv base tb))).length = (lg_sl av).length := by
  induction av with
  | nil => rfl
  | cons v vs ih => cases v <;> simp_all [lg_sl, z_cv, Value.category]
theorem z_enter {mi : z_Mi} {d : Nat} {av : List Value} {sh : z_Sh} {μ : z_M} {mc ms : Nat} {E : Option Value → z_Sh → z_M → Prop} (hy : plainName mi.1.cls = true) (hn : (lg_sl av).length ≤ mi.2.2.1) (h : PW mi d 0 (lv_args 0 av) [] sh μ mc ms E) : z_CT mi d av sh μ mc ms E := by
  intro l D base tb cs
  refine Met.ofW (cc := mi.2.1) (maxL := mi.2.2.1) (ret := mi.2.2.2) hy rfl ?_
  intro p e s m args below meth c s₁ B hml hv
  obtain ⟨rfl, hF, hX, hW⟩ := hv
  have hts := atoms_spec (ws := z_w mi) B.pre
  have hown := findClass_of_methodNamed B.named
  have hin := (name_of_methodNamed B.named B.method).1
  have hlocks := B.notSynchronized
  have hl := lv_entry (av.map (z_cv base tb)) (n := mi.2.2.1) (by rw [z_sl]; exact hn)
  rw [lg_entry_eq]
  generalize (lg_sl (av.map (z_cv base tb)) ++ List.replicate (mi.2.2.1 - (lg_sl (av.map (z_cv base tb))).length) Slot.unset).toArray = ls at hl ⊢
  rw [z_args] at hl
  refine h p l e _ s m _ below meth c _ D base tb cs mc ms s.heap [] 0 0 ls ⟨B.exec, B.bytes, hml, hown, fun w hw => hts w (List.mem_cons_of_mem _ hw), hin, Nat.le_refl _, Nat.le_refl _, Nat.le_refl _, Nat.le_refl _, hF⟩ ?_ hW va_S.rf (by omega) (by omega) (fun q => ⟨(hX q).1, by have := (hX q).2; omega⟩) hl
  intro r sh' μ' H locs cells slots pc ls' hE hW' hS hc hs hri
  refine W.widen hc hs ?_
  match r, hri, hE with
  | none, hri, hE => exact W.vret B.exec B.bytes (B.returns.trans hri.1) (fun t ht hWm => ⟨⟨none, sh', μ', rfl, hE, by rw [ht]; exact hW'⟩, hS.F ht⟩) hS.2.2 hri.2
  | some (.int v), hri, hE =>
    obtain ⟨⟨ty, h1, h2⟩, h3⟩ := hri
    exact W.zret B.exec B.bytes (B.returns.trans h1) h2 (fun t ht hWm => ⟨⟨some (.int v), sh', μ', rfl, hE, by rw [ht]; exact hW'⟩, hS.F ht⟩) hS.2.2 h3
  | some (.long v), hri, hE => exact W.lret B.exec B.bytes (B.returns.trans hri.1) (fun t ht hWm => ⟨⟨some (.long v), sh', μ', rfl, hE, by rw [ht]; exact hW'⟩, hS.F ht⟩) hS.2.2 hri.2
theorem z_at {base : Nat} {tb : Nat → Nat} {lv : List (Nat × Value)} {ls : Array Slot} {nL : Nat} (hl : lv_has ls nL (lv.map (z_cw base tb))) (k : Nat) {i : Nat} {v : Value} (h : lv[k]? = some (i, v)) : ls[i]? = some (.val (z_cv base tb v)) := lv_at hl k (by rw [List.getElem?_map, h]; rfl)
theorem z_fil {base : Nat} {tb : Nat → Nat} {lv lv' : List (Nat × Value)} {i : Nat} {v : Value} (h : (i, v) :: lv.filter (fun q => !(q.1 == i) && !(q.1 + 1 == i && q.2.category == 2)) = lv') : (i, z_cv base tb v) :: (lv.map (z_cw base tb)).filter (fun q => !(q.1 == i) && !(q.1 + 1 == i && q.2.category == 2)) = lv'.map (z_cw base tb) := by
  subst h
  rw [List.filter_map, List.map_cons]
  congr 2
  congr 1
  funext q
  simp [z_cw, z_cv_cat]
theorem z_fil2 {base : Nat} {tb : Nat → Nat} {lv lv' : List (Nat × Value)} {i : Nat} {v : Value} (h : (i, v) :: lv.filter (fun q => !(q.1 == i) && (!(q.1 == i + 1) && !(q.1 + 1 == i && q.2.category == 2))) = lv') : (i, z_cv base tb v) :: (lv.map (z_cw base tb)).filter (fun q => !(q.1 == i) && (!(q.1 == i + 1) && !(q.1 + 1 == i && q.2.category == 2))) = lv'.map (z_cw base tb) := by
  subst h
  rw [List.filter_map, List.map_cons]
  congr 2
  congr 1
  funext q
  simp [z_cw, z_cv_cat]
theorem z_fs_at {base : Nat} {tb : Nat → Nat} {μ : z_M} {k j kd : Nat} {ks : List Nat} (h : ks[j]? = some kd) : (z_fs base tb μ k ks)[j]? = some (z_fv base tb μ k j kd) := by
  unfold z_fs
  rw [List.getElem?_mapIdx, h]
  rfl
theorem z_dec {cc : ByteArray} {L : List (Nat × Instr × Nat)} (h : ∀ q ∈ L, decode cc q.1 = .ok q.2) (i : Nat) {pc n : Nat} {x : Instr} (hi : L[i]? = some (pc, x, n)) : decode cc pc = .ok (x, n) := h (pc, x, n) (List.mem_of_getElem? hi)
theorem p_iconst {mi : z_Mi} {d pc n : Nat} {lv : List (Nat × Value)} {st : List Value} {sh : z_Sh} {μ : z_M} {mc ms : Nat} {E : Option Value → z_Sh → z_M → Prop} {k : Int} {v : Int32} (hd : decode mi.2.1 pc = .ok (.iconst k, 1)) (hv : Int32.ofInt k = v) (hn : pc + 1 = n) (h : PW mi d n lv (.int v :: st) sh μ mc ms E) : PW mi d pc lv (st) sh μ mc ms E := by
  subst hn
  intro p l e R s m args below meth c Q D base tb cs MC MS H locs cells slots ls hA hR hW hS hc hs hX hl
  exact lv_iconst hA.1 hA.2.1 hd hv (h p l e R s m args below meth c Q D base tb cs MC MS H locs cells slots ls hA hR hW hS hc hs hX hl)
theorem p_bipush {mi : z_Mi} {d pc n : Nat} {lv : List (Nat × Value)} {st : List Value} {sh : z_Sh} {μ : z_M} {mc ms : Nat} {E : Option Value → z_Sh → z_M → Prop} {k : Int} {v : Int32} (hd : decode mi.2.1 pc = .ok (.bipush k, 2)) (hv : (Int8.ofInt k).toInt32 = v) (hn : pc + 2 = n) (h : PW mi d n lv (.int v :: st) sh μ mc ms E) : PW mi d pc lv (st) sh μ mc ms E := by
  subst hn
  intro p l e R s m args below meth c Q D base tb cs MC MS H locs cells slots ls hA hR hW hS hc hs hX hl
  exact lv_bipush hA.1 hA.2.1 hd hv (h p l e R s m args below meth c Q D base tb cs MC MS H locs cells slots ls hA hR hW hS hc hs hX hl)
theorem p_sipush {mi : z_Mi} {d pc n : Nat} {lv : List (Nat × Value)} {st : List Value} {sh : z_Sh} {μ : z_M} {mc ms : Nat} {E : Option Value → z_Sh → z_M → Prop} {k : Int} {v : Int32} (hd : decode mi.2.1 pc = .ok (.sipush k, 3)) (hv : (Int16.ofInt k).toInt32 = v) (hn : pc + 3 = n) (h : PW mi d n lv (.int v :: st) sh μ mc ms E) : PW mi d pc lv (st) sh μ mc ms E := by
  subst hn
  intro p l e R s m args below meth c Q D base tb cs MC MS H locs cells slots ls hA hR hW hS hc hs hX hl
  exact lv_sipush hA.1 hA.2.1 hd hv (h p l e R s m args below meth c Q D base tb cs MC MS H locs cells slots ls hA hR hW hS hc hs hX hl)
theorem p_lconst {mi : z_Mi} {d pc n : Nat} {lv : List (Nat × Value)} {st : List Value} {sh : z_Sh} {μ : z_M} {mc ms : Nat} {E : Option Value → z_Sh → z_M → Prop} {k : Fin 2} {v : Int64} (hd : decode mi.2.1 pc = .ok (.lconst k, 1)) (hv : Int64.ofNat (k : Nat) = v) (hn : pc + 1 = n) (h : PW mi d n lv (.long v :: st) sh μ mc ms E) : PW mi d pc lv (st) sh μ mc ms E := by
  subst hn
  intro p l e R s m args below meth c Q D base tb cs MC MS H locs cells slots ls hA hR hW hS hc hs hX hl
  exact lv_lconst hA.1 hA.2.1 hd hv (h p l e R s m args below meth c Q D base tb cs MC MS H locs cells slots ls hA hR hW hS hc hs hX hl)
theorem p_iload_n {mi : z_Mi} {d pc n : Nat} {lv : List (Nat × Value)} {st : List Value} {sh : z_Sh} {μ : z_M} {mc ms : Nat} {E : Option Value → z_Sh → z_M → Prop} {k : Fin 4} {i : Nat} {x : Int32} (hd : decode mi.2.1 pc = .ok (.iload_n k, 1)) (hi : (k : Nat) = i) (j : Nat) (hj : lv[j]? = some (i, .int x)) (hn : pc + 1 = n) (h : PW mi d n lv (.int x :: st) sh μ mc ms E) : PW mi d pc lv (st) sh μ mc ms E := by
  subst hn
  intro p l e R s m args below meth c Q D base tb cs MC MS H locs cells slots ls hA hR hW hS hc hs hX hl
  exact lv_iload_n hA.1 hA.2.1 hd hi (z_at hl j hj) (h p l e R s m args below meth c Q D base tb cs MC MS H locs cells slots ls hA hR hW hS hc hs hX hl)
theorem p_iload {mi : z_Mi} {d pc n : Nat} {lv : List (Nat × Value)} {st : List Value} {sh : z_Sh} {μ : z_M} {mc ms : Nat} {E : Option Value → z_Sh → z_M → Prop} {i : Nat} {x : Int32} (hd : decode mi.2.1 pc = .ok (.iload i, 2)) (j : Nat) (hj : lv[j]? = some (i, .int x)) (hn : pc + 2 = n) (h : PW mi d n lv (.int x :: st) sh μ mc ms E) : PW mi d pc lv (st) sh μ mc ms E := by
  subst hn
  intro p l e R s m args below meth c Q D base tb cs MC MS H locs cells slots ls hA hR hW hS hc hs hX hl
  exact lv_iload hA.1 hA.2.1 hd (z_at hl j hj) (h p l e R s m args below meth c Q D base tb cs MC MS H locs cells slots ls hA hR hW hS hc hs hX hl)
theorem p_lload_n {mi : z_Mi} {d pc n : Nat} {lv : List (Nat × Value)} {st : List Value} {sh : z_Sh} {μ : z_M} {mc ms : Nat} {E : Option Value → z_Sh → z_M → Prop} {k : Fin 4} {i : Nat} {x : Int64} (hd : decode mi.2.1 pc = .ok (.lload_n k, 1)) (hi : (k : Nat) = i) (j : Nat) (hj : lv[j]? = some (i, .long x)) (hn : pc + 1 = n) (h : PW mi d n lv (.long x :: st) sh μ mc ms E) : PW mi d pc lv (st) sh μ mc ms E := by
  subst hn
  intro p l e R s m args below meth c Q D base tb cs MC MS H locs cells slots ls hA hR hW hS hc hs hX hl
  exact lv_lload_n hA.1 hA.2.1 hd hi (z_at hl j hj) (h p l e R s m args below meth c Q D base tb cs MC MS H locs cells slots ls hA hR hW hS hc hs hX hl)
theorem p_lload {mi : z_Mi} {d pc n : Nat} {lv : List (Nat × Value)} {st : List Value} {sh : z_Sh} {μ : z_M} {mc ms : Nat} {E : Option Value → z_Sh → z_M → Prop} {i : Nat} {x : Int64} (hd : decode mi.2.1 pc = .ok (.lload i, 2)) (j : Nat) (hj : lv[j]? = some (i, .long x)) (hn : pc + 2 = n) (h : PW mi d n lv (.long x :: st) sh μ mc ms E) : PW mi d pc lv (st) sh μ mc ms E := by
  subst hn
  intro p l e R s m args below meth c Q D base tb cs MC MS H locs cells slots ls hA hR hW hS hc hs hX hl
  exact lv_lload hA.1 hA.2.1 hd (z_at hl j hj) (h p l e R s m args below meth c Q D base tb cs MC MS H locs cells slots ls hA hR hW hS hc hs hX hl)
theorem p_aload_n {mi : z_Mi} {d pc n : Nat} {lv : List (Nat × Value)} {st : List Value} {sh : z_Sh} {μ : z_M} {mc ms : Nat} {E : Option Value → z_Sh → z_M → Prop} {k : Fin 4} {i : Nat} {x : Nat} (hd : decode mi.2.1 pc = .ok (.aload_n k, 1)) (hi : (k : Nat) = i) (j : Nat) (hj : lv[j]? = some (i, .ref x)) (hn : pc + 1 = n) (h : PW mi d n lv (.ref x :: st) sh μ mc ms E) : PW mi d pc lv (st) sh μ mc ms E := by
  subst hn
  intro p l e R s m args below meth c Q D base tb cs MC MS H locs cells slots ls hA hR hW hS hc hs hX hl
  exact lv_aload_n hA.1 hA.2.1 hd hi (z_at hl j hj) (h p l e R s m args below meth c Q D base tb cs MC MS H locs cells slots ls hA hR hW hS hc hs hX hl)
theorem p_aload {mi : z_Mi} {d pc n : Nat} {lv : List (Nat × Value)} {st : List Value} {sh : z_Sh} {μ : z_M} {mc ms : Nat} {E : Option Value → z_Sh → z_M → Prop} {i : Nat} {x : Nat} (hd : decode mi.2.1 pc = .ok (.aload i, 2)) (j : Nat) (hj : lv[j]? = some (i, .ref x)) (hn : pc + 2 = n) (h : PW mi d n lv (.ref x :: st) sh μ mc ms E) : PW mi d pc lv (st) sh μ mc ms E := by
  subst hn
  intro p l e R s m args below meth c Q D base tb cs MC MS H locs cells slots ls hA hR hW hS hc hs hX hl
  exact lv_aload hA.1 hA.2.1 hd (z_at hl j hj) (h p l e R s m args below meth c Q D base tb cs MC MS H locs cells slots ls hA hR hW hS hc hs hX hl)
theorem p_iadd {mi : z_Mi} {d pc n : Nat} {lv : List (Nat × Value)} {st : List Value} {sh : z_Sh} {μ : z_M} {mc ms : Nat} {E : Option Value → z_Sh → z_M → Prop} {x y : Int32} (hd : decode mi.2.1 pc = .ok (.iadd, 1)) (hn : pc + 1 = n) (h : PW mi d n lv (.int (x + y) :: st) sh μ mc ms E) : PW mi d pc lv (.int y :: .int x :: st) sh μ mc ms E := by
  subst hn
  intro p l e R s m args below meth c Q D base tb cs MC MS H locs cells slots ls hA hR hW hS hc hs hX hl
  exact lv_iadd hA.1 hA.2.1 hd (h p l e R s m args below meth c Q D base tb cs MC MS H locs cells slots ls hA hR hW hS hc hs hX hl)
theorem p_isub {mi : z_Mi} {d pc n : Nat} {lv : List (Nat × Value)} {st : List Value} {sh : z_Sh} {μ : z_M} {mc ms : Nat} {E : Option Value → z_Sh → z_M → Prop} {x y : Int32} (hd : decode mi.2.1 pc = .ok (.isub, 1)) (hn : pc + 1 = n) (h : PW mi d n lv (.int (x - y) :: st) sh μ mc ms E) : PW mi d pc lv (.int y :: .int x :: st) sh μ mc ms E := by
  subst hn
  intro p l e R s m args below meth c Q D base tb cs MC MS H locs cells slots ls hA hR hW hS hc hs hX hl
  exact lv_isub hA.1 hA.2.1 hd (h p l e R s m args below meth c Q D base tb cs MC MS H locs cells slots ls hA hR hW hS hc hs hX hl)
theorem p_imul {mi : z_Mi} {d pc n : Nat} {lv : List (Nat × Value)} {st : List Value} {sh : z_Sh} {μ : z_M} {mc ms : Nat} {E : Option Value → z_Sh → z_M → Prop} {x y : Int32} (hd : decode mi.2.1 pc = .ok (.imul, 1)) (hn : pc + 1 = n) (h : PW mi d n lv (.int (x * y) :: st) sh μ mc ms E) : PW mi d pc lv (.int y :: .int x :: st) sh μ mc ms E := by
  subst hn
  intro p l e R s m args below meth c Q D base tb cs MC MS H locs cells slots ls hA hR hW hS hc hs hX hl
  exact lv_imul hA.1 hA.2.1 hd (h p l e R s m args below meth c Q D base tb cs MC MS H locs cells slots ls hA hR hW hS hc hs hX hl)
theorem p_iand {mi : z_Mi} {d pc n : Nat} {lv : List (Nat × Value)} {st : List Value} {sh : z_Sh} {μ : z_M} {mc ms : Nat} {E : Option Value → z_Sh → z_M → Prop} {x y : Int32} (hd : decode mi.2.1 pc = .ok (.iand, 1)) (hn : pc + 1 = n) (h : PW mi d n lv (.int (x &&& y) :: st) sh μ mc ms E) : PW mi d pc lv (.int y :: .int x :: st) sh μ mc ms E := by
  subst hn
  intro p l e R s m args below meth c Q D base tb cs MC MS H locs cells slots ls hA hR hW hS hc hs hX hl
  exact lv_iand hA.1 hA.2.1 hd (h p l e R s m args below meth c Q D base tb cs MC MS H locs cells slots ls hA hR hW hS hc hs hX hl)
theorem p_ior {mi : z_Mi} {d pc n : Nat} {lv : List (Nat × Value)} {st : List Value} {sh : z_Sh} {μ : z_M} {mc ms : Nat} {E : Option Value → z_Sh → z_M → Prop} {x y : Int32} (hd : decode mi.2.1 pc = .ok (.ior, 1)) (hn : pc + 1 = n) (h : PW mi d n lv (.int (x ||| y) :: st) sh μ mc ms E) : PW mi d pc lv (.int y :: .int x :: st) sh μ mc ms E := by
  subst hn
  intro p l e R s m args below meth c Q D base tb cs MC MS H locs cells slots ls hA hR hW hS hc hs hX hl
  exact lv_ior hA.1 hA.2.1 hd (h p l e R s m args below meth c Q D base tb cs MC MS H locs cells slots ls hA hR hW hS hc hs hX hl)
theorem p_ixor {mi : z_Mi} {d pc n : Nat} {lv : List (Nat × Value)} {st : List Value} {sh : z_Sh} {μ : z_M} {mc ms : Nat} {E : Option Value → z_Sh → z_M → Prop} {x y : Int32} (hd : decode mi.2.1 pc = .ok (.ixor, 1)) (hn : pc + 1 = n) (h : PW mi d n lv (.int (x ^^^ y) :: st) sh μ mc ms E) : PW mi d pc lv (.int y :: .int x :: st) sh μ mc ms E := by
  subst hn
  intro p l e R s m args below meth c Q D base tb cs MC MS H locs cells slots ls hA hR hW hS hc hs hX hl
  exact lv_ixor hA.1 hA.2.1 hd (h p l e R s m args below meth c Q D base tb cs MC MS H locs cells slots ls hA hR hW hS hc hs hX hl)
theorem p_ladd {mi : z_Mi} {d pc n : Nat} {lv : List (Nat × Value)} {st : List Value} {sh : z_Sh} {μ : z_M} {mc ms : Nat} {E : Option Value → z_Sh → z_M → Prop} {x y : Int64} (hd : decode mi.2.1 pc = .ok (.ladd, 1)) (hn : pc + 1 = n) (h : PW mi d n lv (.long (x + y) :: st) sh μ mc ms E) : PW mi d pc lv (.long y :: .long x :: st) sh μ mc ms E := by
  subst hn
  intro p l e R s m args below meth c Q D base tb cs MC MS H locs cells slots ls hA hR hW hS hc hs hX hl
  exact lv_ladd hA.1 hA.2.1 hd (h p l e R s m args below meth c Q D base tb cs MC MS H locs cells slots ls hA hR hW hS hc hs hX hl)
theorem p_lsub {mi : z_Mi} {d pc n : Nat} {lv : List (Nat × Value)} {st : List Value} {sh : z_Sh} {μ : z_M} {mc ms : Nat} {E : Option Value → z_Sh → z_M → Prop} {x y : Int64} (hd : decode mi.2.1 pc = .ok (.lsub, 1)) (hn : pc + 1 = n) (h : PW mi d n lv (.long (x - y) :: st) sh μ mc ms E) : PW mi d pc lv (.long y :: .long x :: st) sh μ mc ms E := by
  subst hn
  intro p l e R s m args below meth c Q D base tb cs MC MS H locs cells slots ls hA hR hW hS hc hs hX hl
  exact lv_lsub hA.1 hA.2.1 hd (h p l e R s m args below meth c Q D base tb cs MC MS H locs cells slots ls hA hR hW hS hc hs hX hl)
theorem p_lmul {mi : z_Mi} {d pc n : Nat} {lv : List (Nat × Value)} {st : List Value} {sh : z_Sh} {μ : z_M} {mc ms : Nat} {E : Option Value → z_Sh → z_M → Prop} {x y : Int64} (hd : decode mi.2.1 pc = .ok (.lmul, 1)) (hn : pc + 1 = n) (h : PW mi d n lv (.long (x * y) :: st) sh μ mc ms E) : PW mi d pc lv (.long y :: .long x :: st) sh μ mc ms E := by
  subst hn
  intro p l e R s m args below meth c Q D base tb cs MC MS H locs cells slots ls hA hR hW hS hc hs hX hl
  exact lv_lmul hA.1 hA.2.1 hd (h p l e R s m args below meth c Q D base tb cs MC MS H locs cells slots ls hA hR hW hS hc hs hX hl)
theorem p_land {mi : z_Mi} {d pc n : Nat} {lv : List (Nat × Value)} {st : List Value} {sh : z_Sh} {μ : z_M} {mc ms : Nat} {E : Option Value → z_Sh → z_M → Prop} {x y : Int64} (hd : decode mi.2.1 pc = .ok (.land, 1)) (hn : pc + 1 = n) (h : PW mi d n lv (.long (x &&& y) :: st) sh μ mc ms E) : PW mi d pc lv (.long y :: .long x :: st) sh μ mc ms E := by
  subst hn
  intro p l e R s m args below meth c Q D base tb cs MC MS H locs cells slots ls hA hR hW hS hc hs hX hl
  exact lv_land hA.1 hA.2.1 hd (h p l e R s m args below meth c Q D base tb cs MC MS H locs cells slots ls hA hR hW hS hc hs hX hl)
theorem p_lor {mi : z_Mi} {d pc n : Nat} {lv : List (Nat × Value)} {st : List Value} {sh : z_Sh} {μ : z_M} {mc ms : Nat} {E : Option Value → z_Sh → z_M → Prop} {x y : Int64} (hd : decode mi.2.1 pc = .ok (.lor, 1)) (hn : pc + 1 = n) (h : PW mi d n lv (.long (x ||| y) :: st) sh μ mc ms E) : PW mi d pc lv (.long y :: .long x :: st) sh μ mc ms E := by
  subst hn
  intro p l e R s m args below meth c Q D base tb cs MC MS H locs cells slots ls hA hR hW hS hc hs hX hl
  exact lv_lor hA.1 hA.2.1 hd (h p l e R s m args below meth c Q D base tb cs MC MS H locs cells slots ls hA hR hW hS hc hs hX hl)
theorem p_lxor {mi : z_Mi} {d pc n : Nat} {lv : List (Nat × Value)} {st : List Value} {sh : z_Sh} {μ : z_M} {mc ms : Nat} {E : Option Value → z_Sh → z_M → Prop} {x y : Int64} (hd : decode mi.2.1 pc = .ok (.lxor, 1)) (hn : pc + 1 = n) (h : PW mi d n lv (.long (x ^^^ y) :: st) sh μ mc ms E) : PW mi d pc lv (.long y :: .long x :: st) sh μ mc ms E := by
  subst hn
  intro p l e R s m args below meth c Q D base tb cs MC MS H locs cells slots ls hA hR hW hS hc hs hX hl
  exact lv_lxor hA.1 hA.2.1 hd (h p l e R s m args below meth c Q D base tb cs MC MS H locs cells slots ls hA hR hW hS hc hs hX hl)
theorem p_idiv {mi : z_Mi} {d pc n : Nat} {lv : List (Nat × Value)} {st : List Value} {sh : z_Sh} {μ : z_M} {mc ms : Nat} {E : Option Value → z_Sh → z_M → Prop} {x y : Int32} (hd : decode mi.2.1 pc = .ok (.idiv, 1)) (h0 : ¬ y = 0) (hn : pc + 1 = n) (h : PW mi d n lv (.int (x / y) :: st) sh μ mc ms E) : PW mi d pc lv (.int y :: .int x :: st) sh μ mc ms E := by
  subst hn
  intro p l e R s m args below meth c Q D base tb cs MC MS H locs cells slots ls hA hR hW hS hc hs hX hl
  exact lv_idiv hA.1 hA.2.1 hd h0 (h p l e R s m args below meth c Q D base tb cs MC MS H locs cells slots ls hA hR hW hS hc hs hX hl)
theorem p_irem {mi : z_Mi} {d pc n : Nat} {lv : List (Nat × Value)} {st : List Value} {sh : z_Sh} {μ : z_M} {mc ms : Nat} {E : Option Value → z_Sh → z_M → Prop} {x y : Int32} (hd : decode mi.2.1 pc = .ok (.irem, 1)) (h0 : ¬ y = 0) (hn : pc + 1 = n) (h : PW mi d n lv (.int (x - x / y * y) :: st) sh μ mc ms E) : PW mi d pc lv (.int y :: .int x :: st) sh μ mc ms E := by
  subst hn
  intro p l e R s m args below meth c Q D base tb cs MC MS H locs cells slots ls hA hR hW hS hc hs hX hl
  exact lv_irem hA.1 hA.2.1 hd h0 (h p l e R s m args below meth c Q D base tb cs MC MS H locs cells slots ls hA hR hW hS hc hs hX hl)
theorem p_ldiv {mi : z_Mi} {d pc n : Nat} {lv : List (Nat × Value)} {st : List Value} {sh : z_Sh} {μ : z_M} {mc ms : Nat} {E : Option Value → z_Sh → z_M → Prop} {x y : Int64} (hd : decode mi.2.1 pc = .ok (.ldiv, 1)) (h0 : ¬ y = 0) (hn : pc + 1 = n) (h : PW mi d n lv (.long (x / y) :: st) sh μ mc ms E) : PW mi d pc lv (.long y :: .long x :: st) sh μ mc ms E := by
  subst hn
  intro p l e R s m args below meth c Q D base tb cs MC MS H locs cells slots ls hA hR hW hS hc hs hX hl
  exact lv_ldiv hA.1 hA.2.1 hd h0 (h p l e R s m args below meth c Q D base tb cs MC MS H locs cells slots ls hA hR hW hS hc hs hX hl)
theorem p_lrem {mi : z_Mi} {d pc n : Nat} {lv : List (Nat × Value)} {st : List Value} {sh : z_Sh} {μ : z_M} {mc ms : Nat} {E : Option Value → z_Sh → z_M → Prop} {x y : Int64} (hd : decode mi.2.1 pc = .ok (.lrem, 1)) (h0 : ¬ y = 0) (hn : pc + 1 = n) (h : PW mi d n lv (.long (x - x / y * y) :: st) sh μ mc ms E) : PW mi d pc lv (.long y :: .long x :: st) sh μ mc ms E := by
  subst hn
  intro p l e R s m args below meth c Q D base tb cs MC MS H locs cells slots ls hA hR hW hS hc hs hX hl
  exact lv_lrem hA.1 hA.2.1 hd h0 (h p l e R s m args below meth c Q D base tb cs MC MS H locs cells slots ls hA hR hW hS hc hs hX hl)
theorem p_ineg {mi : z_Mi} {d pc n : Nat} {lv : List (Nat × Value)} {st : List Value} {sh : z_Sh} {μ : z_M} {mc ms : Nat} {E : Option Value → z_Sh → z_M → Prop} {x : Int32} (hd : decode mi.2.1 pc = .ok (.ineg, 1)) (hn : pc + 1 = n) (h : PW mi d n lv (.int (-x) :: st) sh μ mc ms E) : PW mi d pc lv (.int x :: st) sh μ mc ms E := by
  subst hn
  intro p l e R s m args below meth c Q D base tb cs MC MS H locs cells slots ls hA hR hW hS hc hs hX hl
  exact lv_ineg hA.1 hA.2.1 hd (h p l e R s m args below meth c Q D base tb cs MC MS H locs cells slots ls hA hR hW hS hc hs hX hl)
theorem p_ishl {mi : z_Mi} {d pc n : Nat} {lv : List (Nat × Value)} {st : List Value} {sh : z_Sh} {μ : z_M} {mc ms : Nat} {E : Option Value → z_Sh → z_M → Prop} {x y : Int32} (hd : decode mi.2.1 pc = .ok (.ishl, 1)) (hn : pc + 1 = n) (h : PW mi d n lv (.int (x <<< (y &&& 31)) :: st) sh μ mc ms E) : PW mi d pc lv (.int y :: .int x :: st) sh μ mc ms E := by
  subst hn
  intro p l e R s m args below meth c Q D base tb cs MC MS H locs cells slots ls hA hR hW hS hc hs hX hl
  exact lv_ishl hA.1 hA.2.1 hd (h p l e R s m args below meth c Q D base tb cs MC MS H locs cells slots ls hA hR hW hS hc hs hX hl)
theorem p_ishr {mi : z_Mi} {d pc n : Nat} {lv : List (Nat × Value)} {st : List Value} {sh : z_Sh} {μ : z_M} {mc ms : Nat} {E : Option Value → z_Sh → z_M → Prop} {x y : Int32} (hd : decode mi.2.1 pc = .ok (.ishr, 1)) (hn : pc + 1 = n) (h : PW mi d n lv (.int (x >>> (y &&& 31)) :: st) sh μ mc ms E) : PW mi d pc lv (.int y :: .int x :: st) sh μ mc ms E := by
  subst hn
  intro p l e R s m args below meth c Q D base tb cs MC MS H locs cells slots ls hA hR hW hS hc hs hX hl
  exact lv_ishr hA.1 hA.2.1 hd (h p l e R s m args below meth c Q D base tb cs MC MS H locs cells slots ls hA hR hW hS hc hs hX hl)
theorem p_iushr {mi : z_Mi} {d pc n : Nat} {lv : List (Nat × Value)} {st : List Value} {sh : z_Sh} {μ : z_M} {mc ms : Nat} {E : Option Value → z_Sh → z_M → Prop} {x y : Int32} (hd : decode mi.2.1 pc = .ok (.iushr, 1)) (hn : pc + 1 = n) (h : PW mi d n lv (.int (x.toUInt32 >>> (y.toUInt32 &&& Int32.toUInt32 31)).toInt32 :: st) sh μ mc ms E) : PW mi d pc lv (.int y :: .int x :: st) sh μ mc ms E := by
  subst hn
  intro p l e R s m args below meth c Q D base tb cs MC MS H locs cells slots ls hA hR hW hS hc hs hX hl
  exact lv_iushr hA.1 hA.2.1 hd rfl (h p l e R s m args below meth c Q D base tb cs MC MS H locs cells slots ls hA hR hW hS hc hs hX hl)
theorem p_lshl {mi : z_Mi} {d pc n : Nat} {lv : List (Nat × Value)} {st : List Value} {sh : z_Sh} {μ : z_M} {mc ms : Nat} {E : Option Value → z_Sh → z_M → Prop} {x : Int64} {y : Int32} (hd : decode mi.2.1 pc = .ok (.lshl, 1)) (hn : pc + 1 = n) (h : PW mi d n lv (.long (x <<< (y.toInt64 &&& 63)) :: st) sh μ mc ms E) : PW mi d pc lv (.int y :: .long x :: st) sh μ mc ms E := by
  subst hn
  intro p l e R s m args below meth c Q D base tb cs MC MS H locs cells slots ls hA hR hW hS hc hs hX hl
  exact lv_lshl hA.1 hA.2.1 hd rfl (h p l e R s m args below meth c Q D base tb cs MC MS H locs cells slots ls hA hR hW hS hc hs hX hl)
theorem p_lushr {mi : z_Mi} {d pc n : Nat} {lv : List (Nat × Value)} {st : List Value} {sh : z_Sh} {μ : z_M} {mc ms : Nat} {E : Option Value → z_Sh → z_M → Prop} {x : Int64} {y : Int32} (hd : decode mi.2.1 pc = .ok (.lushr, 1)) (hn : pc + 1 = n) (h : PW mi d n lv (.long (x.toUInt64 >>> (y.toInt64.toUInt64 &&& Int64.toUInt64 63)).toInt64 :: st) sh μ mc ms E) : PW mi d pc lv (.int y :: .long x :: st) sh μ mc ms E := by
  subst hn
  intro p l e R s m args below meth c Q D base tb cs MC MS H locs cells slots ls hA hR hW hS hc hs hX hl
  exact lv_lushr hA.1 hA.2.1 hd rfl (h p l e R s m args below meth c Q D base tb cs MC MS H locs cells slots ls hA hR hW hS hc hs hX hl)
theorem p_i2l {mi : z_Mi} {d pc n : Nat} {lv : List (Nat × Value)} {st : List Value} {sh : z_Sh} {μ : z_M} {mc ms : Nat} {E : Option Value → z_Sh → z_M → Prop} {x : Int32} (hd : decode mi.2.1 pc = .ok (.i2l, 1)) (hn : pc + 1 = n) (h : PW mi d n lv (.long x.toInt64 :: st) sh μ mc ms E) : PW mi d pc lv (.int x :: st) sh μ mc ms E := by
  subst hn
  intro p l e R s m args below meth c Q D base tb cs MC MS H locs cells slots ls hA hR hW hS hc hs hX hl
  exact lv_i2l hA.1 hA.2.1 hd rfl (h p l e R s m args below meth c Q D base tb cs MC MS H locs cells slots ls hA hR hW hS hc hs hX hl)
theorem p_l2i {mi : z_Mi} {d pc n : Nat} {lv : List (Nat × Value)} {st : List Value} {sh : z_Sh} {μ : z_M} {mc ms : Nat} {E : Option Value → z_Sh → z_M → Prop} {x : Int64} (hd : decode mi.2.1 pc = .ok (.l2i, 1)) (hn : pc + 1 = n) (h : PW mi d n lv (.int x.toInt32 :: st) sh μ mc ms E) : PW mi d pc lv (.long x :: st) sh μ mc ms E := by
  subst hn
  intro p l e R s m args below meth c Q D base tb cs MC MS H locs cells slots ls hA hR hW hS hc hs hX hl
  exact lv_l2i hA.1 hA.2.1 hd rfl (h p l e R s m args below meth c Q D base tb cs MC MS H locs cells slots ls hA hR hW hS hc hs hX hl)
theorem p_i2b {mi : z_Mi} {d pc n : Nat} {lv : List (Nat × Value)} {st : List Value} {sh : z_Sh} {μ : z_M} {mc ms : Nat} {E : Option Value → z_Sh → z_M → Prop} {x : Int32} (hd : decode mi.2.1 pc = .ok (.i2b, 1)) (hn : pc + 1 = n) (h : PW mi d n lv (.int x.toInt8.toInt32 :: st) sh μ mc ms E) : PW mi d pc lv (.int x :: st) sh μ mc ms E := by
  subst hn
  intro p l e R s m args below meth c Q D base tb cs MC MS H locs cells slots ls hA hR hW hS hc hs hX hl
  exact lv_i2b hA.1 hA.2.1 hd rfl (h p l e R s m args below meth c Q D base tb cs MC MS H locs cells slots ls hA hR hW hS hc hs hX hl)
theorem p_i2s {mi : z_Mi} {d pc n : Nat} {lv : List (Nat × Value)} {st : List Value} {sh : z_Sh} {μ : z_M} {mc ms : Nat} {E : Option Value → z_Sh → z_M → Prop} {x : Int32} (hd : decode mi.2.1 pc = .ok (.i2s, 1)) (hn : pc + 1 = n) (h : PW mi d n lv (.int x.toInt16.toInt32 :: st) sh μ mc ms E) : PW mi d pc lv (.int x :: st) sh μ mc ms E := by
  subst hn
  intro p l e R s m args below meth c Q D base tb cs MC MS H locs cells slots ls hA hR hW hS hc hs hX hl
  exact lv_i2s hA.1 hA.2.1 hd rfl (h p l e R s m args below meth c Q D base tb cs MC MS H locs cells slots ls hA hR hW hS hc hs hX hl)
theorem p_lcmp {mi : z_Mi} {d pc n : Nat} {lv : List (Nat × Value)} {st : List Value} {sh : z_Sh} {μ : z_M} {mc ms : Nat} {E : Option Value → z_Sh → z_M → Prop} {x y : Int64} (hd : decode mi.2.1 pc = .ok (.lcmp, 1)) (hn : pc + 1 = n) (h : PW mi d n lv (.int (lg_cmp x y) :: st) sh μ mc ms E) : PW mi d pc lv (.long y :: .long x :: st) sh μ mc ms E := by
  subst hn
  intro p l e R s m args below meth c Q D base tb cs MC MS H locs cells slots ls hA hR hW hS hc hs hX hl
  exact W.lcmp hA.1 hA.2.1 hd (h p l e R s m args below meth c Q D base tb cs MC MS H locs cells slots ls hA hR hW hS hc hs hX hl)
theorem p_dup {mi : z_Mi} {d pc n : Nat} {lv : List (Nat × Value)} {st : List Value} {sh : z_Sh} {μ : z_M} {mc ms : Nat} {E : Option Value → z_Sh → z_M → Prop} {v : Value} (hd : decode mi.2.1 pc = .ok (.dup, 1)) (h0 : v.category = 1) (hn : pc + 1 = n) (h : PW mi d n lv (v :: v :: st) sh μ mc ms E) : PW mi d pc lv (v :: st) sh μ mc ms E := by
  subst hn
  intro p l e R s m args below meth c Q D base tb cs MC MS H locs cells slots ls hA hR hW hS hc hs hX hl
  exact lv_dup hA.1 hA.2.1 hd ((z_cv_cat base tb v).trans h0) (h p l e R s m args below meth c Q D base tb cs MC MS H locs cells slots ls hA hR hW hS hc hs hX hl)
theorem p_pop {mi : z_Mi} {d pc n : Nat} {lv : List (Nat × Value)} {st : List Value} {sh : z_Sh} {μ : z_M} {mc ms : Nat} {E : Option Value → z_Sh → z_M → Prop} {v : Value} (hd : decode mi.2.1 pc = .ok (.pop, 1)) (h0 : v.category = 1) (hn : pc + 1 = n) (h : PW mi d n lv (st) sh μ mc ms E) : PW mi d pc lv (v :: st) sh μ mc ms E := by
  subst hn
  intro p l e R s m args below meth c Q D base tb cs MC MS H locs cells slots ls hA hR hW hS hc hs hX hl
  exact lv_pop hA.1 hA.2.1 hd ((z_cv_cat base tb v).trans h0) (h p l e R s m args below meth c Q D base tb cs MC MS H locs cells slots ls hA hR hW hS hc hs hX hl)
theorem p_dup_x1 {mi : z_Mi} {d pc n : Nat} {lv : List (Nat × Value)} {st : List Value} {sh : z_Sh} {μ : z_M} {mc ms : Nat} {E : Option Value → z_Sh → z_M → Prop} {v u : Value} (hd : decode mi.2.1 pc = .ok (.dup_x1, 1)) (h0 : v.category = 1) (h1 : u.category = 1) (hn : pc + 1 = n) (h : PW mi d n lv (v :: u :: v :: st) sh μ mc ms E) : PW mi d pc lv (v :: u :: st) sh μ mc ms E := by
  subst hn
  intro p l e R s m args below meth c Q D base tb cs MC MS H locs cells slots ls hA hR hW hS hc hs hX hl
  exact lv_dup_x1 hA.1 hA.2.1 hd ((z_cv_cat base tb v).trans h0) ((z_cv_cat base tb u).trans h1) (h p l e R s m args below meth c Q D base tb cs MC MS H locs cells slots ls hA hR hW hS hc hs hX hl)
theorem p_dup2 {mi : z_Mi} {d pc n : Nat} {lv : List (Nat × Value)} {st : List Value} {sh : z_Sh} {μ : z_M} {mc ms : Nat} {E : Option Value → z_Sh → z_M → Prop} {v u : Value} (hd : decode mi.2.1 pc = .ok (.dup2, 1)) (h0 : v.category = 1) (h1 : u.category = 1) (hn : pc + 1 = n) (h : PW mi d n lv (v :: u :: v :: u :: st) sh μ mc ms E) : PW mi d pc lv (v :: u :: st) sh μ mc ms E := by
  subst hn
  intro p l e R s m args below meth c Q D base tb cs MC MS H locs cells slots ls hA hR hW hS hc hs hX hl
  exact lv_dup2_11 hA.1 hA.2.1 hd ((z_cv_cat base tb v).trans h0) ((z_cv_cat base tb u).trans h1) (h p l e R s m args below meth c Q D base tb cs MC MS H locs cells slots ls hA hR hW hS hc hs hX hl)
theorem p_dup2L {mi : z_Mi} {d pc n : Nat} {lv : List (Nat × Value)} {st : List Value} {sh : z_Sh} {μ : z_M} {mc ms : Nat} {E : Option Value → z_Sh → z_M → Prop} {v : Value} (hd : decode mi.2.1 pc = .ok (.dup2, 1)) (h0 : v.category = 2) (hn : pc + 1 = n) (h : PW mi d n lv (v :: v :: st) sh μ mc ms E) : PW mi d pc lv (v :: st) sh μ mc ms E := by
  subst hn
  intro p l e R s m args below meth c Q D base tb cs MC MS H locs cells slots ls hA hR hW hS hc hs hX hl
  exact lv_dup2_2 hA.1 hA.2.1 hd ((z_cv_cat base tb v).trans h0) (h p l e R s m args below meth c Q D base tb cs MC MS H locs cells slots ls hA hR hW hS hc hs hX hl)
theorem p_istore_n {mi : z_Mi} {d pc n : Nat} {lv : List (Nat × Value)} {st : List Value} {sh : z_Sh} {μ : z_M} {mc ms : Nat} {E : Option Value → z_Sh → z_M → Prop} {lv2 : List (Nat × Value)} {k : Fin 4} {i : Nat} {x : Int32} (hd : decode mi.2.1 pc = .ok (.istore_n k, 1)) (hi : (k : Nat) = i) (hb : i < mi.2.2.1) (hl2 : (i, .int x) :: lv.filter (fun q => !(q.1 == i) && !(q.1 + 1 == i && q.2.category == 2)) = lv2) (hn : pc + 1 = n) (h : PW mi d n lv2 st sh μ mc ms E) : PW mi d pc lv (.int x :: st) sh μ mc ms E := by
  subst hn
  intro p l e R s m args below meth c Q D base tb cs MC MS H locs cells slots ls hA hR hW hS hc hs hX hl
  exact lv_istore_n hA.1 hA.2.1 hd hi hl hb (z_fil hl2) (fun ls hl => h p l e R s m args below meth c Q D base tb cs MC MS H locs cells slots ls hA hR hW hS hc hs hX hl)
theorem p_istore {mi : z_Mi} {d pc n : Nat} {lv : List (Nat × Value)} {st : List Value} {sh : z_Sh} {μ : z_M} {mc ms : Nat} {E : Option Value → z_Sh → z_M → Prop} {lv2 : List (Nat × Value)} {i : Nat} {x : Int32} (hd : decode mi.2.1 pc = .ok (.istore i, 2)) (hb : i < mi.2.2.1) (hl2 : (i, .int x) :: lv.filter (fun q => !(q.1 == i) && !(q.1 + 1 == i && q.2.category == 2)) = lv2) (hn : pc + 2 = n) (h : PW mi d n lv2 st sh μ mc ms E) : PW mi d pc lv (.int x :: st) sh μ mc ms E := by
  subst hn
  intro p l e R s m args below meth c Q D base tb cs MC MS H locs cells slots ls hA hR hW hS hc hs hX hl
  exact lv_istore hA.1 hA.2.1 hd hl hb (z_fil hl2) (fun ls hl => h p l e R s m args below meth c Q D base tb cs MC MS H locs cells slots ls hA hR hW hS hc hs hX hl)
theorem p_lstore_n {mi : z_Mi} {d pc n : Nat} {lv : List (Nat × Value)} {st : List Value} {sh : z_Sh} {μ : z_M} {mc ms : Nat} {E : Option Value → z_Sh → z_M → Prop} {lv2 : List (Nat × Value)} {k : Fin 4} {i : Nat} {x : Int64} (hd : decode mi.2.1 pc = .ok (.lstore_n k, 1)) (hi : (k : Nat) = i) (hb : i + 1 < mi.2.2.1) (hl2 : (i, .long x) :: lv.filter (fun q => !(q.1 == i) && (!(q.1 == i + 1) && !(q.1 + 1 == i && q.2.category == 2))) = lv2) (hn : pc + 1 = n) (h : PW mi d n lv2 st sh μ mc ms E) : PW mi d pc lv (.long x :: st) sh μ mc ms E := by
  subst hn
  intro p l e R s m args below meth c Q D base tb cs MC MS H locs cells slots ls hA hR hW hS hc hs hX hl
  exact lv_lstore_n hA.1 hA.2.1 hd hi hl hb (z_fil2 hl2) (fun ls hl => h p l e R s m args below meth c Q D base tb cs MC MS H locs cells slots ls hA hR hW hS hc hs hX hl)
theorem p_lstore {mi : z_Mi} {d pc n : Nat} {lv : List (Nat × Value)} {st : List Value} {sh : z_Sh} {μ : z_M} {mc ms : Nat} {E : Option Value → z_Sh → z_M → Prop} {lv2 : List (Nat × Value)} {i : Nat} {x : Int64} (hd : decode mi.2.1 pc = .ok (.lstore i, 2)) (hb : i + 1 < mi.2.2.1) (hl2 : (i, .long x) :: lv.filter (fun q => !(q.1 == i) && (!(q.1 == i + 1) && !(q.1 + 1 == i && q.2.category == 2))) = lv2) (hn : pc + 2 = n) (h : PW mi d n lv2 st sh μ mc ms E) : PW mi d pc lv (.long x :: st) sh μ mc ms E := by
  subst hn
  intro p l e R s m args below meth c Q D base tb cs MC MS H locs cells slots ls hA hR hW hS hc hs hX hl
  exact lv_lstore hA.1 hA.2.1 hd hl hb (z_fil2 hl2) (fun ls hl => h p l e R s m args below meth c Q D base tb cs MC MS H locs cells slots ls hA hR hW hS hc hs hX hl)
theorem p_astore_n {mi : z_Mi} {d pc n : Nat} {lv : List (Nat × Value)} {st : List Value} {sh : z_Sh} {μ : z_M} {mc ms : Nat} {E : Option Value → z_Sh → z_M → Prop} {lv2 : List (Nat × Value)} {k : Fin 4} {i : Nat} {x : Nat} (hd : decode mi.2.1 pc = .ok (.astore_n k, 1)) (hi : (k : Nat) = i) (hb : i < mi.2.2.1) (hl2 : (i, .ref x) :: lv.filter (fun q => !(q.1 == i) && !(q.1 + 1 == i && q.2.category == 2)) = lv2) (hn : pc + 1 = n) (h : PW mi d n lv2 st sh μ mc ms E) : PW mi d pc lv (.ref x :: st) sh μ mc ms E := by
  subst hn
  intro p l e R s m args below meth c Q D base tb cs MC MS H locs cells slots ls hA hR hW hS hc hs hX hl
  exact lv_astore_n hA.1 hA.2.1 hd hi hl hb (z_fil hl2) (fun ls hl => h p l e R s m args below meth c Q D base tb cs MC MS H locs cells slots ls hA hR hW hS hc hs hX hl)
theorem p_astore {mi : z_Mi} {d pc n : Nat} {lv : List (Nat × Value)} {st : List Value} {sh : z_Sh} {μ : z_M} {mc ms : Nat} {E : Option Value → z_Sh → z_M → Prop} {lv2 : List (Nat × Value)} {i : Nat} {x : Nat} (hd : decode mi.2.1 pc = .ok (.astore i, 2)) (hb : i < mi.2.2.1) (hl2 : (i, .ref x) :: lv.filter (fun q => !(q.1 == i) && !(q.1 + 1 == i && q.2.category == 2)) = lv2) (hn : pc + 2 = n) (h : PW mi d n lv2 st sh μ mc ms E) : PW mi d pc lv (.ref x :: st) sh μ mc ms E := by
  subst hn
  intro p l e R s m args below meth c Q D base tb cs MC MS H locs cells slots ls hA hR hW hS hc hs hX hl
  exact lv_astore hA.1 hA.2.1 hd hl hb (z_fil hl2) (fun ls hl => h p l e R s m args below meth c Q D base tb cs MC MS H locs cells slots ls hA hR hW hS hc hs hX hl)
theorem p_iinc {mi : z_Mi} {d pc n : Nat} {lv : List (Nat × Value)} {st : List Value} {sh : z_Sh} {μ : z_M} {mc ms : Nat} {E : Option Value → z_Sh → z_M → Prop} {lv2 : List (Nat × Value)} {i : Nat} {k : Int} {x v : Int32} (hd : decode mi.2.1 pc = .ok (.iinc i k, 3)) (j : Nat) (hj : lv[j]? = some (i, .int x)) (hv : x + Int32.ofInt k = v) (hb : i < mi.2.2.1) (hl2 : (i, Value.int v) :: lv.filter (fun q => !(q.1 == i) && !(q.1 + 1 == i && q.2.category == 2)) = lv2) (hn : pc + 3 = n) (h : PW mi d n lv2 st sh μ mc ms E) : PW mi d pc lv st sh μ mc ms E := by
  subst hn
  intro p l e R s m args below meth c Q D base tb cs MC MS H locs cells slots ls hA hR hW hS hc hs hX hl
  exact lv_iinc hA.1 hA.2.1 hd hl (k := j) (by rw [List.getElem?_map, hj]; rfl) hv hb (z_fil hl2) (fun ls hl => h p l e R s m args below meth c Q D base tb cs MC MS H locs cells slots ls hA hR hW hS hc hs hX hl)
theorem p_if_eq {mi : z_Mi} {d pc n : Nat} {lv : List (Nat × Value)} {st : List Value} {sh : z_Sh} {μ : z_M} {mc ms : Nat} {E : Option Value → z_Sh → z_M → Prop} {x : Int32} {off : Int} {t : Nat} (hd : decode mi.2.1 pc = .ok (.ifCond .eq off, 3)) (ht : (pc : Int) + off = (t : Int)) (hn : pc + 3 = n) (kt : x = 0 → PW mi d t lv st sh μ mc ms E) (kf : ¬ (x = 0) → PW mi d n lv st sh μ mc ms E) : PW mi d pc lv (.int x :: st) sh μ mc ms E := by
  subst hn
  intro p l e R s m args below meth c Q D base tb cs MC MS H locs cells slots ls hA hR hW hS hc hs hX hl
  exact lv_if_eq hA.1 hA.2.1 hd ht (fun q => kt q p l e R s m args below meth c Q D base tb cs MC MS H locs cells slots ls hA hR hW hS hc hs hX hl) (fun q => kf q p l e R s m args below meth c Q D base tb cs MC MS H locs cells slots ls hA hR hW hS hc hs hX hl)
theorem p_icmp_eq {mi : z_Mi} {d pc n : Nat} {lv : List (Nat × Value)} {st : List Value} {sh : z_Sh} {μ : z_M} {mc ms : Nat} {E : Option Value → z_Sh → z_M → Prop} {x y : Int32} {off : Int} {t : Nat} (hd : decode mi.2.1 pc = .ok (.if_icmp .eq off, 3)) (ht : (pc : Int) + off = (t : Int)) (hn : pc + 3 = n) (kt : x = y → PW mi d t lv st sh μ mc ms E) (kf : ¬ (x = y) → PW mi d n lv st sh μ mc ms E) : PW mi d pc lv (.int y :: .int x :: st) sh μ mc ms E := by
  subst hn
  intro p l e R s m args below meth c Q D base tb cs MC MS H locs cells slots ls hA hR hW hS hc hs hX hl
  exact lv_icmp_eq hA.1 hA.2.1 hd ht (fun q => kt q p l e R s m args below meth c Q D base tb cs MC MS H locs cells slots ls hA hR hW hS hc hs hX hl) (fun q => kf q p l e R s m args below meth c Q D base tb cs MC MS H locs cells slots ls hA hR hW hS hc hs hX hl)
theorem p_if_ne {mi : z_Mi} {d pc n : Nat} {lv : List (Nat × Value)} {st : List Value} {sh : z_Sh} {μ : z_M} {mc ms : Nat} {E : Option Value → z_Sh → z_M → Prop} {x : Int32} {off : Int} {t : Nat} (hd : decode mi.2.1 pc = .ok (.ifCond .ne off, 3)) (ht : (pc : Int) + off = (t : Int)) (hn : pc + 3 = n) (kt : ¬ x = 0 → PW mi d t lv st sh μ mc ms E) (kf : x = 0 → PW mi d n lv st sh μ mc ms E) : PW mi d pc lv (.int x :: st) sh μ mc ms E := by
  subst hn
  intro p l e R s m args below meth c Q D base tb cs MC MS H locs cells slots ls hA hR hW hS hc hs hX hl
  exact lv_if_ne hA.1 hA.2.1 hd ht (fun q => kt q p l e R s m args below meth c Q D base tb cs MC MS H locs cells slots ls hA hR hW hS hc hs hX hl) (fun q => kf q p l e R s m args below meth c Q D base tb cs MC MS H locs cells slots ls hA hR hW hS hc hs hX hl)
theorem p_icmp_ne {mi : z_Mi} {d pc n : Nat} {lv : List (Nat × Value)} {st : List Value} {sh : z_Sh} {μ : z_M} {mc ms : Nat} {E : Option Value → z_Sh → z_M → Prop} {x y : Int32} {off : Int} {t : Nat} (hd : decode mi.2.1 pc = .ok (.if_icmp .ne off, 3)) (ht : (pc : Int) + off = (t : Int)) (hn : pc + 3 = n) (kt : ¬ x = y → PW mi d t lv st sh μ mc ms E) (kf : x = y → PW mi d n lv st sh μ mc ms E) : PW mi d pc lv (.int y :: .int x :: st) sh μ mc ms E := by
  subst hn
  intro p l e R s m args below meth c Q D base tb cs MC MS H locs cells slots ls hA hR hW hS hc hs hX hl
  exact lv_icmp_ne hA.1 hA.2.1 hd ht (fun q => kt q p l e R s m args below meth c Q D base tb cs MC MS H locs cells slots ls hA hR hW hS hc hs hX hl) (fun q => kf q p l e R s m args below meth c Q D base tb cs MC MS H locs cells slots ls hA hR hW hS hc hs hX hl)
theorem p_if_lt {mi : z_Mi} {d pc n : Nat} {lv : List (Nat × Value)} {st : List Value} {sh : z_Sh} {μ : z_M} {mc ms : Nat} {E : Option Value → z_Sh → z_M → Prop} {x : Int32} {off : Int} {t : Nat} (hd : decode mi.2.1 pc = .ok (.ifCond .lt off, 3)) (ht : (pc : Int) + off = (t : Int)) (hn : pc + 3 = n) (kt : x < 0 → PW mi d t lv st sh μ mc ms E) (kf : ¬ (x < 0) → PW mi d n lv st sh μ mc ms E) : PW mi d pc lv (.int x :: st) sh μ mc ms E := by
  subst hn
  intro p l e R s m args below meth c Q D base tb cs MC MS H locs cells slots ls hA hR hW hS hc hs hX hl
  exact lv_if_lt hA.1 hA.2.1 hd ht (fun q => kt q p l e R s m args below meth c Q D base tb cs MC MS H locs cells slots ls hA hR hW hS hc hs hX hl) (fun q => kf q p l e R s m args below meth c Q D base tb cs MC MS H locs cells slots ls hA hR hW hS hc hs hX hl)
theorem p_icmp_lt {mi : z_Mi} {d pc n : Nat} {lv : List (Nat × Value)} {st : List Value} {sh : z_Sh} {μ : z_M} {mc ms : Nat} {E : Option Value → z_Sh → z_M → Prop} {x y : Int32} {off : Int} {t : Nat} (hd : decode mi.2.1 pc = .ok (.if_icmp .lt off, 3)) (ht : (pc : Int) + off = (t : Int)) (hn : pc + 3 = n) (kt : x < y → PW mi d t lv st sh μ mc ms E) (kf : ¬ (x < y) → PW mi d n lv st sh μ mc ms E) : PW mi d pc lv (.int y :: .int x :: st) sh μ mc ms E := by
  subst hn
  intro p l e R s m args below meth c Q D base tb cs MC MS H locs cells slots ls hA hR hW hS hc hs hX hl
  exact lv_icmp_lt hA.1 hA.2.1 hd ht (fun q => kt q p l e R s m args below meth c Q D base tb cs MC MS H locs cells slots ls hA hR hW hS hc hs hX hl) (fun q => kf q p l e R s m args below meth c Q D base tb cs MC MS H locs cells slots ls hA hR hW hS hc hs hX hl)
theorem p_if_ge {mi : z_Mi} {d pc n : Nat} {lv : List (Nat × Value)} {st : List Value} {sh : z_Sh} {μ : z_M} {mc ms : Nat} {E : Option Value → z_Sh → z_M → Prop} {x : Int32} {off : Int} {t : Nat} (hd : decode mi.2.1 pc = .ok (.ifCond .ge off, 3)) (ht : (pc : Int) + off = (t : Int)) (hn : pc + 3 = n) (kt : 0 ≤ x → PW mi d t lv st sh μ mc ms E) (kf : ¬ (0 ≤ x) → PW mi d n lv st sh μ mc ms E) : PW mi d pc lv (.int x :: st) sh μ mc ms E := by
  subst hn
  intro p l e R s m args below meth c Q D base tb cs MC MS H locs cells slots ls hA hR hW hS hc hs hX hl
  exact lv_if_ge hA.1 hA.2.1 hd ht (fun q => kt q p l e R s m args below meth c Q D base tb cs MC MS H locs cells slots ls hA hR hW hS hc hs hX hl) (fun q => kf q p l e R s m args below meth c Q D base tb cs MC MS H locs cells slots ls hA hR hW hS hc hs hX hl)
theorem p_icmp_ge {mi : z_Mi} {d pc n : Nat} {lv : List (Nat × Value)} {st : List Value} {sh : z_Sh} {μ : z_M} {mc ms : Nat} {E : Option Value → z_Sh → z_M → Prop} {x y : Int32} {off : Int} {t : Nat} (hd : decode mi.2.1 pc = .ok (.if_icmp .ge off, 3)) (ht : (pc : Int) + off = (t : Int)) (hn : pc + 3 = n) (kt : y ≤ x → PW mi d t lv st sh μ mc ms E) (kf : ¬ (y ≤ x) → PW mi d n lv st sh μ mc ms E) : PW mi d pc lv (.int y :: .int x :: st) sh μ mc ms E := by
  subst hn
  intro p l e R s m args below meth c Q D base tb cs MC MS H locs cells slots ls hA hR hW hS hc hs hX hl
  exact lv_icmp_ge hA.1 hA.2.1 hd ht (fun q => kt q p l e R s m args below meth c Q D base tb cs MC MS H locs cells slots ls hA hR hW hS hc hs hX hl) (fun q => kf q p l e R s m args below meth c Q D base tb cs MC MS H locs cells slots ls hA hR hW hS hc hs hX hl)
theorem p_if_gt {mi : z_Mi} {d pc n : Nat} {lv : List (Nat × Value)} {st : List Value} {sh : z_Sh} {μ : z_M} {mc ms : Nat} {E : Option Value → z_Sh → z_M → Prop} {x : Int32} {off : Int} {t : Nat} (hd : decode mi.2.1 pc = .ok (.ifCond .gt off, 3)) (ht : (pc : Int) + off = (t : Int)) (hn : pc + 3 = n) (kt : 0 < x → PW mi d t lv st sh μ mc ms E) (kf : ¬ (0 < x) → PW mi d n lv st sh μ mc ms E) : PW mi d pc lv (.int x :: st) sh μ mc ms E := by
  subst hn
  intro p l e R s m args below meth c Q D base tb cs MC MS H locs cells slots ls hA hR hW hS hc hs hX hl
  exact lv_if_gt hA.1 hA.2.1 hd ht (fun q => kt q p l e R s m args below meth c Q D base tb cs MC MS H locs cells slots ls hA hR hW hS hc hs hX hl) (fun q => kf q p l e R s m args below meth c Q D base tb cs MC MS H locs cells slots ls hA hR hW hS hc hs hX hl)
theorem p_icmp_gt {mi : z_Mi} {d pc n : Nat} {lv : List (Nat × Value)} {st : List Value} {sh : z_Sh} {μ : z_M} {mc ms : Nat} {E : Option Value → z_Sh → z_M → Prop} {x y : Int32} {off : Int} {t : Nat} (hd : decode mi.2.1 pc = .ok (.if_icmp .gt off, 3)) (ht : (pc : Int) + off = (t : Int)) (hn : pc + 3 = n) (kt : y < x → PW mi d t lv st sh μ mc ms E) (kf : ¬ (y < x) → PW mi d n lv st sh μ mc ms E) : PW mi d pc lv (.int y :: .int x :: st) sh μ mc ms E := by
  subst hn
  intro p l e R s m args below meth c Q D base tb cs MC MS H locs cells slots ls hA hR hW hS hc hs hX hl
  exact lv_icmp_gt hA.1 hA.2.1 hd ht (fun q => kt q p l e R s m args below meth c Q D base tb cs MC MS H locs cells slots ls hA hR hW hS hc hs hX hl) (fun q => kf q p l e R s m args below meth c Q D base tb cs MC MS H locs cells slots ls hA hR hW hS hc hs hX hl)
theorem p_if_le {mi : z_Mi} {d pc n : Nat} {lv : List (Nat × Value)} {st : List Value} {sh : z_Sh} {μ : z_M} {mc ms : Nat} {E : Option Value → z_Sh → z_M → Prop} {x : Int32} {off : Int} {t : Nat} (hd : decode mi.2.1 pc = .ok (.ifCond .le off, 3)) (ht : (pc : Int) + off = (t : Int)) (hn : pc + 3 = n) (kt : x ≤ 0 → PW mi d t lv st sh μ mc ms E) (kf : ¬ (x ≤ 0) → PW mi d n lv st sh μ mc ms E) : PW mi d pc lv (.int x :: st) sh μ mc ms E := by
  subst hn
  intro p l e R s m args below meth c Q D base tb cs MC MS H locs cells slots ls hA hR hW hS hc hs hX hl
  exact lv_if_le hA.1 hA.2.1 hd ht (fun q => kt q p l e R s m args below meth c Q D base tb cs MC MS H locs cells slots ls hA hR hW hS hc hs hX hl) (fun q => kf q p l e R s m args below meth c Q D base tb cs MC MS H locs cells slots ls hA hR hW hS hc hs hX hl)
theorem p_icmp_le {mi : z_Mi} {d pc n : Nat} {lv : List (Nat × Value)} {st : List Value} {sh : z_Sh} {μ : z_M} {mc ms : Nat} {E : Option Value → z_Sh → z_M → Prop} {x y : Int32} {off : Int} {t : Nat} (hd : decode mi.2.1 pc = .ok (.if_icmp .le off, 3)) (ht : (pc : Int) + off = (t : Int)) (hn : pc + 3 = n) (kt : x ≤ y → PW mi d t lv st sh μ mc ms E) (kf : ¬ (x ≤ y) → PW mi d n lv st sh μ mc ms E) : PW mi d pc lv (.int y :: .int x :: st) sh μ mc ms E := by
  subst hn
  intro p l e R s m args below meth c Q D base tb cs MC MS H locs cells slots ls hA hR hW hS hc hs hX hl
  exact lv_icmp_le hA.1 hA.2.1 hd ht (fun q => kt q p l e R s m args below meth c Q D base tb cs MC MS H locs cells slots ls hA hR hW hS hc hs hX hl) (fun q => kf q p l e R s m args below meth c Q D base tb cs MC MS H locs cells slots ls hA hR hW hS hc hs hX hl)
theorem p_goto {mi : z_Mi} {d pc : Nat} {lv : List (Nat × Value)} {st : List Value} {sh : z_Sh} {μ : z_M} {mc ms : Nat} {E : Option Value → z_Sh → z_M → Prop} {off : Int} {t : Nat} (hd : decode mi.2.1 pc = .ok (.goto off, 3)) (ht : (pc : Int) + off = (t : Int)) (h : PW mi d t lv st sh μ mc ms E) : PW mi d pc lv st sh μ mc ms E := by
  intro p l e R s m args below meth c Q D base tb cs MC MS H locs cells slots ls hA hR hW hS hc hs hX hl
  exact lv_goto hA.1 hA.2.1 hd ht (h p l e R s m args below meth c Q D base tb cs MC MS H locs cells slots ls hA hR hW hS hc hs hX hl)
theorem p_topi {mi : z_Mi} {d pc : Nat} {lv : List (Nat × Value)} {st : List Value} {sh : z_Sh} {μ : z_M} {mc ms : Nat} {E : Option Value → z_Sh → z_M → Prop} {x : Int32} (h : ∀ y : Int32, y = x → PW mi d pc lv (.int y :: st) sh μ mc ms E) : PW mi d pc lv (.int x :: st) sh μ mc ms E := h x rfl
theorem p_topl {mi : z_Mi} {d pc : Nat} {lv : List (Nat × Value)} {st : List Value} {sh : z_Sh} {μ : z_M} {mc ms : Nat} {E : Option Value → z_Sh → z_M → Prop} {x : Int64} (h : ∀ y : Int64, y = x → PW mi d pc lv (.long y :: st) sh μ mc ms E) : PW mi d pc lv (.long x :: st) sh μ mc ms E := h x rfl
theorem p_tableOut {mi : z_Mi} {d pc : Nat} {lv : List (Nat × Value)} {st : List Value} {sh : z_Sh} {μ : z_M} {mc ms : Nat} {E : Option Value → z_Sh → z_M → Prop} {x : Int32} {dflt lo hi : Int} {offs : Array Int} {len t : Nat} (hd : decode mi.2.1 pc = .ok (.tableswitch dflt lo hi offs, len)) (hx : x.toInt < lo ∨ hi < x.toInt) (ht : (pc : Int) + dflt = (t : Int)) (h : PW mi d t lv st sh μ mc ms E) : PW mi d pc lv (.int x :: st) sh μ mc ms E := by
  intro p l e R s m args below meth c Q D base tb cs MC MS H locs cells slots ls hA hR hW hS hc hs hX hl
  exact lv_tableOut hA.1 hA.2.1 hd hx ht (h p l e R s m args below meth c Q D base tb cs MC MS H locs cells slots ls hA hR hW hS hc hs hX hl)
theorem p_tableIn {mi : z_Mi} {d pc : Nat} {lv : List (Nat × Value)} {st : List Value} {sh : z_Sh} {μ : z_M} {mc ms : Nat} {E : Option Value → z_Sh → z_M → Prop} {x : Int32} {dflt lo hi : Int} {offs : Array Int} {len t : Nat} {off : Int} (hd : decode mi.2.1 pc = .ok (.tableswitch dflt lo hi offs, len)) (h1 : ¬ x.toInt < lo) (h2 : ¬ hi < x.toInt) (ho : offs[(x.toInt - lo).toNat]? = some off) (ht : (pc : Int) + off = (t : Int)) (h : PW mi d t lv st sh μ mc ms E) : PW mi d pc lv (.int x :: st) sh μ mc ms E := by
  intro p l e R s m args below meth c Q D base tb cs MC MS H locs cells slots ls hA hR hW hS hc hs hX hl
  exact lv_tableIn hA.1 hA.2.1 hd h1 h2 ho ht (h p l e R s m args below meth c Q D base tb cs MC MS H locs cells slots ls hA hR hW hS hc hs hX hl)
theorem p_lookup {mi : z_Mi} {d pc : Nat} {lv : List (Nat × Value)} {st : List Value} {sh : z_Sh} {μ : z_M} {mc ms : Nat} {E : Option Value → z_Sh → z_M → Prop} {x : Int32} {dflt : Int} {ps : Array (Int × Int)} {len t : Nat} {off : Int} (hd : decode mi.2.1 pc = .ok (.lookupswitch dflt ps, len)) (hp : (ps.toList.zip (ps.toList.drop 1)).all (fun (a, next) => a.1 < next.1) = true) (ho : Op.lookupswitch.offset ps.toList dflt x.toInt = off) (ht : (pc : Int) + off = (t : Int)) (h : PW mi d t lv st sh μ mc ms E) : PW mi d pc lv (.int x :: st) sh μ mc ms E := by
  intro p l e R s m args below meth c Q D base tb cs MC MS H locs cells slots ls hA hR hW hS hc hs hX hl
  exact lv_lookup hA.1 hA.2.1 hd hp ho ht (h p l e R s m args below meth c Q D base tb cs MC MS H locs cells slots ls hA hR hW hS hc hs hX hl)
theorem p_ldc {mi : z_Mi} {d pc n : Nat} {lv : List (Nat × Value)} {st : List Value} {sh : z_Sh} {μ : z_M} {mc ms : Nat} {E : Option Value → z_Sh → z_M → Prop} {k : Nat} {v : Int32} (hd : decode mi.2.1 pc = .ok (.ldc k, 2)) (hk : Cond.constant mi.1.cls k v ∈ z_tbl) (hn : pc + 2 = n) (h : PW mi d n lv (.int v :: st) sh μ mc ms E) : PW mi d pc lv st sh μ mc ms E := by
  subst hn
  intro p l e R s m args below meth c Q D base tb cs MC MS H locs cells slots ls hA hR hW hS hc hs hX hl
  exact lv_ldc hA.1 hA.2.1 hA.2.2.2.1 (hA.2.2.2.2.1 _ hk) hd (h p l e R s m args below meth c Q D base tb cs MC MS H locs cells slots ls hA hR hW hS hc hs hX hl)
theorem p_ldc2 {mi : z_Mi} {d pc n : Nat} {lv : List (Nat × Value)} {st : List Value} {sh : z_Sh} {μ : z_M} {mc ms : Nat} {E : Option Value → z_Sh → z_M → Prop} {k : Nat} {v : Int64} (hd : decode mi.2.1 pc = .ok (.ldc2_w k, 3)) (hk : Cond.constantLong mi.1.cls k v ∈ z_tbl) (hn : pc + 3 = n) (h : PW mi d n lv (.long v :: st) sh μ mc ms E) : PW mi d pc lv st sh μ mc ms E := by
  subst hn
  intro p l e R s m args below meth c Q D base tb cs MC MS H locs cells slots ls hA hR hW hS hc hs hX hl
  exact lv_ldc2 hA.1 hA.2.1 hA.2.2.2.1 (hA.2.2.2.2.1 _ hk) hd (h p l e R s m args below meth c Q D base tb cs MC MS H locs cells slots ls hA hR hW hS hc hs hX hl)
theorem p_vret {mi : z_Mi} {d pc : Nat} {lv : List (Nat × Value)} {sh : z_Sh} {μ : z_M} {mc ms : Nat} {E : Option Value → z_Sh → z_M → Prop} (hd : decode mi.2.1 pc = .ok (.return_, 1)) (hr : mi.2.2.2 = none) (hE : E (none) sh μ) : PW mi d pc lv [] sh μ mc ms E := by
  intro p l e R s m args below meth c Q D base tb cs MC MS H locs cells slots ls hA hR hW hS hc hs hX hl
  exact hR (none) sh μ H locs cells slots pc ls hE hW hS (by omega) (by omega) ⟨hr, hd⟩
theorem p_lret {mi : z_Mi} {d pc : Nat} {lv : List (Nat × Value)} {sh : z_Sh} {μ : z_M} {mc ms : Nat} {E : Option Value → z_Sh → z_M → Prop} {x : Int64} (hd : decode mi.2.1 pc = .ok (.lreturn, 1)) (hr : mi.2.2.2 = some .long) (hE : E (some (.long x)) sh μ) : PW mi d pc lv [.long x] sh μ mc ms E := by
  intro p l e R s m args below meth c Q D base tb cs MC MS H locs cells slots ls hA hR hW hS hc hs hX hl
  exact hR (some (.long x)) sh μ H locs cells slots pc ls hE hW hS (by omega) (by omega) ⟨hr, hd⟩
theorem p_iret {mi : z_Mi} {d pc : Nat} {lv : List (Nat × Value)} {sh : z_Sh} {μ : z_M} {mc ms : Nat} {E : Option Value → z_Sh → z_M → Prop} {x : Int32} (hd : decode mi.2.1 pc = .ok (.ireturn, 1)) (hr : mi.2.2.2 = some .int) (hE : E (some (.int x)) sh μ) : PW mi d pc lv [.int x] sh μ mc ms E := by
  intro p l e R s m args below meth c Q D base tb cs MC MS H locs cells slots ls hA hR hW hS hc hs hX hl
  exact hR (some (.int x)) sh μ H locs cells slots pc ls hE hW hS (by omega) (by omega) ⟨⟨.int, hr, rfl⟩, hd⟩
theorem p_zret {mi : z_Mi} {d pc : Nat} {lv : List (Nat × Value)} {sh : z_Sh} {μ : z_M} {mc ms : Nat} {E : Option Value → z_Sh → z_M → Prop} {x : Int32} (hd : decode mi.2.1 pc = .ok (.ireturn, 1)) (hr : mi.2.2.2 = some .boolean) (hx : x = 0 ∨ x = 1) (hE : E (some (.int x)) sh μ) : PW mi d pc lv [.int x] sh μ mc ms E := by
  intro p l e R s m args below meth c Q D base tb cs MC MS H locs cells slots ls hA hR hW hS hc hs hX hl
  exact hR (some (.int x)) sh μ H locs cells slots pc ls hE hW hS (by omega) (by omega) ⟨⟨.boolean, hr, by rcases hx with rfl | rfl <;> rfl⟩, hd⟩
