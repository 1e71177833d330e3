theorem z_wsin {ws : List Cond} (ps : List Nat) (hp : ws = ps.filterMap (fun i => lw_tbl[i]?)) (hg : ws.all goodWord = true) : ∀ w ∈ ws, w ∈ z_tbl := by
  intro w hw
  have h1 := List.all_eq_true.mp hg w hw
  rw [hp] at hw
  obtain ⟨i, -, hi⟩ := List.mem_filterMap.mp hw
  exact z_in i hi h1
set_option maxRecDepth 20000 in
theorem zc_0 : ∀ w ∈ u_ws RX0 TX0 6, w ∈ z_tbl := z_wsin [250, 252, 254, 256, 258, 260] (by decide +kernel) (by decide +kernel)
set_option maxRecDepth 20000 in
theorem zc_1 : ∀ w ∈ u_ws RX1 TX1 9, w ∈ z_tbl := z_wsin [148, 150, 152, 154, 156, 158, 160, 162, 164] (by decide +kernel) (by decide +kernel)
set_option maxRecDepth 20000 in
theorem zc_2 : ∀ w ∈ u_ws RX2 TX2 5, w ∈ z_tbl := z_wsin [203, 205, 207, 209, 211] (by decide +kernel) (by decide +kernel)
set_option maxRecDepth 20000 in
theorem zc_3 : ∀ w ∈ u_ws RX3 TX3 4, w ∈ z_tbl := z_wsin [183, 185, 187, 189] (by decide +kernel) (by decide +kernel)
set_option maxRecDepth 20000 in
theorem zc_4 : ∀ w ∈ u_ws RX4 TX4 4, w ∈ z_tbl := z_wsin [305, 307, 309, 311] (by decide +kernel) (by decide +kernel)
set_option maxRecDepth 20000 in
theorem zc_5 : ∀ w ∈ u_ws RX5 TX5 5, w ∈ z_tbl := z_wsin [277, 279, 281, 283, 285] (by decide +kernel) (by decide +kernel)
set_option maxRecDepth 20000 in
theorem zc_6 : ∀ w ∈ u_ws RX6 TX6 4, w ∈ z_tbl := z_wsin [227, 229, 231, 233] (by decide +kernel) (by decide +kernel)
set_option maxRecDepth 20000 in
theorem zc_7 : ∀ w ∈ u_ws RX7 TX7 8, w ∈ z_tbl := z_wsin [114, 116, 118, 120, 122, 124, 126, 128] (by decide +kernel) (by decide +kernel)
set_option maxRecDepth 20000 in
theorem zc_8 : ∀ w ∈ u_ws RX8 TX8 10, w ∈ z_tbl := z_wsin [324, 326, 328, 330, 332, 334, 336, 338, 340, 342] (by decide +kernel) (by decide +kernel)
set_option maxRecDepth 20000 in
theorem zc_9 : ∀ w ∈ u_ws RX9 TX9 42, w ∈ z_tbl := z_wsin [956, 958, 960, 962, 964, 966, 968, 970, 972, 974, 976, 978, 980, 982, 984, 986, 988, 990, 992, 994, 996, 998, 1000, 1002, 1004, 1006, 1008, 1010, 1012, 1014, 1016, 1018, 1020, 1022, 1024, 1026, 1028, 1030, 1032, 1034, 1036, 1038] (by decide +kernel) (by decide +kernel)
theorem z_cls : ∀ (ci : Nat) (C : String) (T : u_T) (N : Nat), z_cl[ci]? = some (C, T, N) → (∀ w ∈ u_ws C T N, w ∈ z_tbl) ∧ (∀ a, a < N → ∀ b, b < N → a ≠ b → (T a).2.1 ≠ (T b).2.1) ∧ (z_kd ci).length = N ∧ ∃ ty0 : Nat → FieldType, ∀ k, k < N → parseFieldDescriptor (T k).2.2.1 = some (ty0 k)
  | 0, _, _, _, h => by cases h; exact ⟨zc_0, nmX0, rfl, tyX0, tyX0_ok⟩
  | 1, _, _, _, h => by cases h; exact ⟨zc_1, nmX1, rfl, tyX1, tyX1_ok⟩
  | 2, _, _, _, h => by cases h; exact ⟨zc_2, nmX2, rfl, tyX2, tyX2_ok⟩
  | 3, _, _, _, h => by cases h; exact ⟨zc_3, nmX3, rfl, tyX3, tyX3_ok⟩
  | 4, _, _, _, h => by cases h; exact ⟨zc_4, nmX4, rfl, tyX4, tyX4_ok⟩
  | 5, _, _, _, h => by cases h; exact ⟨zc_5, nmX5, rfl, tyX5, tyX5_ok⟩
  | 6, _, _, _, h => by cases h; exact ⟨zc_6, nmX6, rfl, tyX6, tyX6_ok⟩
  | 7, _, _, _, h => by cases h; exact ⟨zc_7, nmX7, rfl, tyX7, tyX7_ok⟩
  | 8, _, _, _, h => by cases h; exact ⟨zc_8, nmX8, rfl, tyX8, tyX8_ok⟩
  | 9, _, _, _, h => by cases h; exact ⟨zc_9, nmX9, rfl, tyX9, tyX9_ok⟩
  | k + 10, _, _, _, h => by simp [z_cl] at h
/-- a field by its link -/
def z_fl (own : String) (idx ci j kd : Nat) : Prop := ∃ (C : String) (T : u_T) (N : Nat), z_cl[ci]? = some (C, T, N) ∧ j < N ∧ (z_kd ci)[j]? = some kd ∧ Cond.fieldLink own idx (T j).1 (T j).2.1 (T j).2.2.1 ∈ z_tbl
def z_pl (own : String) (idx ci j kd : Nat) (ty : FieldType) (fin : Bool) : Prop := ∃ (C : String) (T : u_T) (N : Nat), z_cl[ci]? = some (C, T, N) ∧ j < N ∧ (z_kd ci)[j]? = some kd ∧ Cond.fieldLink own idx (T j).1 (T j).2.1 (T j).2.2.1 ∈ z_tbl ∧ (T j).2.2.2 = fin ∧ parseFieldDescriptor (T j).2.2.1 = some ty ∧ (fin = true → (T j).1 = own)
theorem z_ws_set {base : Nat} {tb : Nat → Nat} {cs : ClassId × ClassId × ClassId} {sh : z_Sh} {μ μ' : z_M} {k : Nat} {q : Nat × Nat} (h : sh[k]? = some q) (ho : ∀ i, i ≠ k → μ'.1 i = μ.1 i ∧ μ'.2.1 i = μ.2.1 i ∧ μ'.2.2 i = μ.2.2 i) : (z_ws base tb cs sh μ).set k (z_ad base tb k, z_ce base tb cs μ' k q) = z_ws base tb cs sh μ' := by
  apply List.ext_getElem?
  intro i
  rw [List.getElem?_set]
  by_cases hi : k = i
  · subst hi
    have hk : k < (z_ws base tb cs sh μ).length := by unfold z_ws; rw [List.length_mapIdx]; exact (List.getElem?_eq_some_iff.mp h).1
    rw [if_pos rfl, if_pos hk, z_ws_at h]
  · rw [if_neg hi]
    unfold z_ws
    rw [List.getElem?_mapIdx, List.getElem?_mapIdx]
    cases hs : sh[i]? with
    | none => rfl
    | some x =>
      obtain ⟨h1, h2, h3⟩ := ho i (fun e => hi e.symm)
      show some _ = some _
      congr 2
      unfold z_ce z_fs z_fv
      rw [h1, h2, h3]
theorem z_fs_set {base : Nat} {tb : Nat → Nat} {μ μ' : z_M} {k j kd : Nat} {ks : List Nat} {v : Value} (h : ks[j]? = some kd) (hv : z_fv base tb μ' k j kd = v) (ho : ∀ b, b ≠ j → μ'.1 k b = μ.1 k b ∧ μ'.2.2 k b = μ.2.2 k b) : (z_fs base tb μ k ks).set j v = z_fs base tb μ' k ks := by
  apply List.ext_getElem?
  intro i
  rw [List.getElem?_set]
  by_cases hi : j = i
  · subst hi
    have hj : j < (z_fs base tb μ k ks).length := by unfold z_fs; rw [List.length_mapIdx]; exact (List.getElem?_eq_some_iff.mp h).1
    rw [if_pos rfl, if_pos hj, z_fs_at h, hv]
  · rw [if_neg hi]
    unfold z_fs
    rw [List.getElem?_mapIdx, List.getElem?_mapIdx]
    cases hs : ks[i]? with
    | none => rfl
    | some x =>
      obtain ⟨h1, h2⟩ := ho i (fun e => hi e.symm)
      show some (z_fv _ _ _ _ _ _) = some (z_fv _ _ _ _ _ _)
      unfold z_fv
      rw [h1, h2]
theorem z_fv_i {base : Nat} {tb : Nat → Nat} {μ : z_M} {k j kd : Nat} (h : kd ≠ 2) : z_fv base tb μ k j kd = .int (μ.1 k j) := by
  unfold z_fv
  split
  · exact absurd rfl h
  · rfl
theorem p_getI {mi : z_Mi} {d pc n : Nat} {lv : List (Nat × Value)} {st : List Value} {sh : z_Sh} {μ : z_M} {mc ms : Nat} {E : Option Value → z_Sh → z_M → Prop} {k ci N j idx kd : Nat} (hd : decode mi.2.1 pc = .ok (.getfield idx, 3)) (hf : z_fl mi.1.cls idx ci j kd) (hkd : kd ≠ 2) (hk : sh[k]? = some (ci + 3, N)) (hn : pc + 3 = n) (h : PW mi d n lv (.int (μ.1 k j) :: st) sh μ mc ms E) : PW mi d pc lv (.ref k :: st) sh μ mc ms E := by
  subst hn
  intro p l e R s m args below meth c Q D base tb cs MC MS H locs cells slots ls hA hR hW hS hc hs hX hl
  obtain ⟨C, T, Nf, h1, h2, h3, h4⟩ := hf
  exact va_get hA.1 hA.2.1 hA.2.2.2.2.1 (z_cls ci C T Nf h1).1 hA.2.2.2.1 hA.2.2.2.2.2.2.2.2.2.2.1 hW.2 k (z_ws_at hk) h1 j h2 (hA.2.2.2.2.1 _ h4) (fun _ h9 => h9) ((z_fs_at h3).trans (congrArg some (z_fv_i hkd))) hd (h p l e R s m args below meth c Q D base tb cs MC MS H locs cells slots ls hA hR hW hS hc hs hX hl)
theorem p_getR {mi : z_Mi} {d pc n : Nat} {lv : List (Nat × Value)} {st : List Value} {sh : z_Sh} {μ : z_M} {mc ms : Nat} {E : Option Value → z_Sh → z_M → Prop} {k ci N j idx i : Nat} (hd : decode mi.2.1 pc = .ok (.getfield idx, 3)) (hf : z_fl mi.1.cls idx ci j 2) (hr : μ.2.2 k j = some i) (hk : sh[k]? = some (ci + 3, N)) (hn : pc + 3 = n) (h : PW mi d n lv (.ref i :: st) sh μ mc ms E) : PW mi d pc lv (.ref k :: st) sh μ mc ms E := by
  subst hn
  intro p l e R s m args below meth c Q D base tb cs MC MS H locs cells slots ls hA hR hW hS hc hs hX hl
  obtain ⟨C, T, Nf, h1, h2, h3, h4⟩ := hf
  exact va_get hA.1 hA.2.1 hA.2.2.2.2.1 (z_cls ci C T Nf h1).1 hA.2.2.2.1 hA.2.2.2.2.2.2.2.2.2.2.1 hW.2 k (z_ws_at hk) h1 j h2 (hA.2.2.2.2.1 _ h4) (fun _ h9 => h9) (v := .ref (z_ad base tb i)) ((z_fs_at h3).trans (congrArg some (by show va_rf ((μ.2.2 k j).map (z_ad base tb)) = _; rw [hr]; rfl))) hd (h p l e R s m args below meth c Q D base tb cs MC MS H locs cells slots ls hA hR hW hS hc hs hX hl)
theorem z_put {mi : z_Mi} {d pc n : Nat} {lv : List (Nat × Value)} {st : List Value} {sh : z_Sh} {μ : z_M} {mc ms : Nat} {E : Option Value → z_Sh → z_M → Prop} {k ci N j idx kd : Nat} {ty : FieldType} {fin : Bool} {v : Value} {μ' : z_M} (hd : decode mi.2.1 pc = .ok (.putfield idx, 3)) (hf : z_pl mi.1.cls idx ci j kd ty fin) (hfin : fin = true → mi.1.name = "<init>") (hnar : ∀ base tb, narrow ty (z_cv base tb v) = z_cv base tb v) (hfit : ∀ base tb, fits ty (z_cv base tb v) = true) (hv : ∀ base tb, z_fv base tb μ' k j kd = z_cv base tb v) (hoj : ∀ b, b ≠ j → μ'.1 k b = μ.1 k b ∧ μ'.2.2 k b = μ.2.2 k b) (hok : ∀ i, i ≠ k → μ'.1 i = μ.1 i ∧ μ'.2.1 i = μ.2.1 i ∧ μ'.2.2 i = μ.2.2 i) (hk : sh[k]? = some (ci + 3, N)) (hn : pc + 3 = n) (h : PW mi d n lv st sh μ' mc ms E) : PW mi d pc lv (v :: .ref k :: st) sh μ mc ms E := by
  subst hn
  intro p l e R s m args below meth c Q D base tb cs MC MS H locs cells slots ls hA hR hW hS hc hs hX hl
  obtain ⟨C, T, Nf, h1, h2, h3, h4, h5, h6, h7⟩ := hf
  obtain ⟨g1, g2, g3, ty0, g4⟩ := z_cls ci C T Nf h1
  have e1 := z_fs_set (base := base) (tb := tb) (μ := μ) (μ' := μ') (k := k) h3 (hv base tb) hoj
  have e2 := z_ws_set (base := base) (tb := tb) (cs := cs) (sh := sh) (μ := μ) (μ' := μ') hk hok
  have hlen : j < (z_fs base tb μ k (z_kd ci)).length := by unfold z_fs; rw [List.length_mapIdx, g3]; exact h2
  have fin_ : ∀ (H1 : Heap) (locs1 : List Loc), va_P D z_cl ((z_ws base tb cs sh μ).set k (z_ad base tb k, .inr (ci, (z_fs base tb μ k (z_kd ci)).set j (z_cv base tb v)))) H1 → va_S (z_A base) s.heap H1 locs1 → W p l e R s m args below meth c H1 locs1 cells slots Q (F0 m (pc + 3) ls (st.map (z_cv base tb))) := by
    intro H1 locs1 hP1 hS1
    refine h p l e R s m args below meth c Q D base tb cs MC MS H1 locs1 cells slots ls hA hR ⟨hW.1, ?_⟩ hS1 hc hs hX hl
    rw [e1] at hP1
    rw [← e2]
    exact hP1
  cases fin with
  | false => exact va_put hA.1 hA.2.1 hA.2.2.2.2.1 g1 ty0 g4 g2 hA.2.2.2.1 hA.2.2.2.2.2.2.2.2.2.2.1 hW.2 (z_D hW.1) hS k (z_ws_at hk) h1 j h2 (hA.2.2.2.2.1 _ h4) (fun _ h9 => h9) h5 h6 (hnar base tb) (hfit base tb) hlen hd (fun H1 locs1 hP1 _ hS1 => fin_ H1 locs1 hP1 hS1)
  | true => exact va_putF hA.1 hA.2.1 hA.2.2.2.2.1 g1 ty0 g4 g2 hA.2.2.2.1 hA.2.2.2.2.2.2.2.2.2.2.1 hW.2 (z_D hW.1) hS k (z_ws_at hk) h1 j h2 (hA.2.2.2.2.1 _ h4) (fun _ h9 => h9) h5 (hA.2.2.2.2.2.1.trans (hfin rfl)) (h7 rfl) h6 (hnar base tb) (hfit base tb) hlen hd (fun H1 locs1 hP1 _ hS1 => fin_ H1 locs1 hP1 hS1)
theorem z_up_o {α : Type} (f : Nat → Nat → α) {k j : Nat} (v : α) : ∀ i, i ≠ k → z_up f k j v i = f i := fun i h => z_up_r f v h
theorem p_putI {mi : z_Mi} {d pc n : Nat} {lv : List (Nat × Value)} {st : List Value} {sh : z_Sh} {μ : z_M} {mc ms : Nat} {E : Option Value → z_Sh → z_M → Prop} {k ci N j idx : Nat} {fin : Bool} {x : Int32} (hd : decode mi.2.1 pc = .ok (.putfield idx, 3)) (hf : z_pl mi.1.cls idx ci j 0 .int fin) (hfin : fin = true → mi.1.name = "<init>") (hk : sh[k]? = some (ci + 3, N)) (hn : pc + 3 = n) (h : PW mi d n lv st sh (z_up μ.1 k j x, μ.2) mc ms E) : PW mi d pc lv (.int x :: .ref k :: st) sh μ mc ms E :=
  z_put (μ' := (z_up μ.1 k j x, μ.2)) hd hf hfin (fun _ _ => rfl) (fun _ _ => rfl) (fun base tb => by rw [z_fv_i (by decide)]; show Value.int (z_up μ.1 k j x k j) = .int x; rw [z_up_s]) (fun b hb => ⟨z_up_j _ _ hb, rfl⟩) (fun i hi => ⟨z_up_r _ _ hi, rfl, rfl⟩) hk hn h
theorem p_putZ {mi : z_Mi} {d pc n : Nat} {lv : List (Nat × Value)} {st : List Value} {sh : z_Sh} {μ : z_M} {mc ms : Nat} {E : Option Value → z_Sh → z_M → Prop} {k ci N j idx : Nat} {fin : Bool} {x : Int32} (hd : decode mi.2.1 pc = .ok (.putfield idx, 3)) (hf : z_pl mi.1.cls idx ci j 3 .boolean fin) (hfin : fin = true → mi.1.name = "<init>") (hx : x = 0 ∨ x = 1) (hk : sh[k]? = some (ci + 3, N)) (hn : pc + 3 = n) (h : PW mi d n lv st sh (z_up μ.1 k j x, μ.2) mc ms E) : PW mi d pc lv (.int x :: .ref k :: st) sh μ mc ms E :=
  z_put (μ' := (z_up μ.1 k j x, μ.2)) hd hf hfin (fun _ _ => by rcases hx with rfl | rfl <;> rfl) (fun _ _ => by rcases hx with rfl | rfl <;> rfl) (fun base tb => by rw [z_fv_i (by decide)]; show Value.int (z_up μ.1 k j x k j) = .int x; rw [z_up_s]) (fun b hb => ⟨z_up_j _ _ hb, rfl⟩) (fun i hi => ⟨z_up_r _ _ hi, rfl, rfl⟩) hk hn h
theorem p_putR {mi : z_Mi} {d pc n : Nat} {lv : List (Nat × Value)} {st : List Value} {sh : z_Sh} {μ : z_M} {mc ms : Nat} {E : Option Value → z_Sh → z_M → Prop} {k ci N j idx i : Nat} {ty : FieldType} {fin : Bool} (hd : decode mi.2.1 pc = .ok (.putfield idx, 3)) (hf : z_pl mi.1.cls idx ci j 2 ty fin) (hfin : fin = true → mi.1.name = "<init>") (hty : ∀ a : Nat, narrow ty (.ref a) = .ref a ∧ fits ty (.ref a) = true) (hk : sh[k]? = some (ci + 3, N)) (hn : pc + 3 = n) (h : PW mi d n lv st sh (μ.1, μ.2.1, z_up μ.2.2 k j (some i)) mc ms E) : PW mi d pc lv (.ref i :: .ref k :: st) sh μ mc ms E :=
  z_put (μ' := (μ.1, μ.2.1, z_up μ.2.2 k j (some i))) hd hf hfin (fun base tb => (hty (z_ad base tb i)).1) (fun base tb => (hty (z_ad base tb i)).2) (fun base tb => by show va_rf ((z_up μ.2.2 k j (some i) k j).map (z_ad base tb)) = .ref (z_ad base tb i); rw [z_up_s]; rfl) (fun b hb => ⟨rfl, z_up_j _ _ hb⟩) (fun i hi => ⟨rfl, rfl, z_up_r _ _ hi⟩) hk hn h
theorem p_iald {mi : z_Mi} {d pc n : Nat} {lv : List (Nat × Value)} {st : List Value} {sh : z_Sh} {μ : z_M} {mc ms : Nat} {E : Option Value → z_Sh → z_M → Prop} {k N : Nat} {i : Int32} (hd : decode mi.2.1 pc = .ok (.iaload, 1)) (hk : sh[k]? = some (0, N)) (hi : vp_in i N) (hn : pc + 1 = n) (h : PW mi d n lv (.int (μ.1 k i.toNatClampNeg) :: st) sh μ mc ms E) : PW mi d pc lv (.int i :: .ref k :: st) sh μ mc ms E := by
  subst hn
  intro p l e R s m args below meth c Q D base tb cs MC MS H locs cells slots ls hA hR hW hS hc hs hX hl
  exact va_iald hA.1 hA.2.1 hA.2.2.2.2.2.2.2.2.2.2.1 hW.2 k 0 (z_ws_at hk) rfl hi hd (h p l e R s m args below meth c Q D base tb cs MC MS H locs cells slots ls hA hR hW hS hc hs hX hl)
theorem p_lald {mi : z_Mi} {d pc n : Nat} {lv : List (Nat × Value)} {st : List Value} {sh : z_Sh} {μ : z_M} {mc ms : Nat} {E : Option Value → z_Sh → z_M → Prop} {k N : Nat} {i : Int32} (hd : decode mi.2.1 pc = .ok (.laload, 1)) (hk : sh[k]? = some (1, N)) (hi : vp_in i N) (hn : pc + 1 = n) (h : PW mi d n lv (.long (μ.2.1 k i.toNatClampNeg) :: st) sh μ mc ms E) : PW mi d pc lv (.int i :: .ref k :: st) sh μ mc ms E := by
  subst hn
  intro p l e R s m args below meth c Q D base tb cs MC MS H locs cells slots ls hA hR hW hS hc hs hX hl
  exact va_lald hA.1 hA.2.1 hA.2.2.2.2.2.2.2.2.2.2.1 hW.2 k 1 (z_ws_at hk) rfl hi hd (h p l e R s m args below meth c Q D base tb cs MC MS H locs cells slots ls hA hR hW hS hc hs hX hl)
theorem p_aald {mi : z_Mi} {d pc n : Nat} {lv : List (Nat × Value)} {st : List Value} {sh : z_Sh} {μ : z_M} {mc ms : Nat} {E : Option Value → z_Sh → z_M → Prop} {k N a : Nat} {i : Int32} (hd : decode mi.2.1 pc = .ok (.aaload, 1)) (hk : sh[k]? = some (2, N)) (hi : vp_in i N) (ha : μ.2.2 k i.toNatClampNeg = some a) (hn : pc + 1 = n) (h : PW mi d n lv (.ref a :: st) sh μ mc ms E) : PW mi d pc lv (.int i :: .ref k :: st) sh μ mc ms E := by
  subst hn
  intro p l e R s m args below meth c Q D base tb cs MC MS H locs cells slots ls hA hR hW hS hc hs hX hl
  refine va_aldq hA.1 hA.2.1 hA.2.2.2.2.2.2.2.2.2.2.1 hW.2 k 2 (z_ws_at hk) rfl hi hd ?_
  have ee : va_rf ((μ.2.2 k i.toNatClampNeg).map (z_ad base tb)) = .ref (z_ad base tb a) := by rw [ha]; rfl
  rw [ee]
  exact h p l e R s m args below meth c Q D base tb cs MC MS H locs cells slots ls hA hR hW hS hc hs hX hl
theorem p_alen {mi : z_Mi} {d pc n : Nat} {lv : List (Nat × Value)} {st : List Value} {sh : z_Sh} {μ : z_M} {mc ms : Nat} {E : Option Value → z_Sh → z_M → Prop} {k N : Nat} {v : Int32} {t : Nat} (ht : t < 3) (hd : decode mi.2.1 pc = .ok (.arraylength, 1)) (hk : sh[k]? = some (t, N)) (hv : Int32.ofNat N = v) (hn : pc + 1 = n) (h : PW mi d n lv (.int v :: st) sh μ mc ms E) : PW mi d pc lv (.ref k :: st) sh μ mc ms E := by
  subst hn
  intro p l e R s m args below meth c Q D base tb cs MC MS H locs cells slots ls hA hR hW hS hc hs hX hl
  match t, ht, hk with
  | 0, _, hk => exact va_alen hA.1 hA.2.1 hA.2.2.2.2.2.2.2.2.2.2.1 hW.2 k 0 (z_ws_at hk) rfl hv hd (h p l e R s m args below meth c Q D base tb cs MC MS H locs cells slots ls hA hR hW hS hc hs hX hl)
  | 1, _, hk => exact va_alen hA.1 hA.2.1 hA.2.2.2.2.2.2.2.2.2.2.1 hW.2 k 1 (z_ws_at hk) rfl hv hd (h p l e R s m args below meth c Q D base tb cs MC MS H locs cells slots ls hA hR hW hS hc hs hX hl)
  | k3 + 3, ht, _ => exact absurd ht (by omega)
  | 2, _, hk => exact va_alen hA.1 hA.2.1 hA.2.2.2.2.2.2.2.2.2.2.1 hW.2 k 2 (z_ws_at hk) rfl hv hd (h p l e R s m args below meth c Q D base tb cs MC MS H locs cells slots ls hA hR hW hS hc hs hX hl)
theorem z_up_upd (f : Nat → Nat → Int32) (k j : Nat) (x : Int32) : z_up f k j x k = upd (f k) j x := by funext b; simp [z_up, upd]
theorem z_up_updL (f : Nat → Nat → Int64) (k j : Nat) (x : Int64) : z_up f k j x k = vp_updL (f k) j x := by funext b; simp [z_up, vp_updL]
theorem p_iast {mi : z_Mi} {d pc n : Nat} {lv : List (Nat × Value)} {st : List Value} {sh : z_Sh} {μ : z_M} {mc ms : Nat} {E : Option Value → z_Sh → z_M → Prop} {k N : Nat} {i x : Int32} (hd : decode mi.2.1 pc = .ok (.iastore, 1)) (hk : sh[k]? = some (0, N)) (hi : vp_in i N) (hn : pc + 1 = n) (h : PW mi d n lv st sh (z_up μ.1 k i.toNatClampNeg x, μ.2) mc ms E) : PW mi d pc lv (.int x :: .int i :: .ref k :: st) sh μ mc ms E := by
  subst hn
  intro p l e R s m args below meth c Q D base tb cs MC MS H locs cells slots ls hA hR hW hS hc hs hX hl
  refine va_iast hA.1 hA.2.1 hA.2.2.2.2.2.2.2.2.2.2.1 hW.2 (z_D hW.1) hS k 0 (z_ws_at hk) rfl hi hd (fun H1 locs1 hP1 _ hS1 => ?_)
  refine h p l e R s m args below meth c Q D base tb cs MC MS H1 locs1 cells slots ls hA hR ⟨hW.1, ?_⟩ hS1 hc hs hX hl
  rw [← z_ws_set (μ := μ) (μ' := (z_up μ.1 k i.toNatClampNeg x, μ.2)) hk (fun a ha => ⟨z_up_r _ _ ha, rfl, rfl⟩)]
  show va_P D z_cl ((z_ws base tb cs sh μ).set k (z_ad base tb k, .inl (cs.1, N, .inl (z_up μ.1 k i.toNatClampNeg x k)))) H1
  rw [z_up_upd]
  exact hP1
theorem p_last {mi : z_Mi} {d pc n : Nat} {lv : List (Nat × Value)} {st : List Value} {sh : z_Sh} {μ : z_M} {mc ms : Nat} {E : Option Value → z_Sh → z_M → Prop} {k N : Nat} {i : Int32} {x : Int64} (hd : decode mi.2.1 pc = .ok (.lastore, 1)) (hk : sh[k]? = some (1, N)) (hi : vp_in i N) (hn : pc + 1 = n) (h : PW mi d n lv st sh (μ.1, z_up μ.2.1 k i.toNatClampNeg x, μ.2.2) mc ms E) : PW mi d pc lv (.long x :: .int i :: .ref k :: st) sh μ mc ms E := by
  subst hn
  intro p l e R s m args below meth c Q D base tb cs MC MS H locs cells slots ls hA hR hW hS hc hs hX hl
  refine va_last hA.1 hA.2.1 hA.2.2.2.2.2.2.2.2.2.2.1 hW.2 (z_D hW.1) hS k 1 (z_ws_at hk) rfl hi hd (fun H1 locs1 hP1 _ hS1 => ?_)
  refine h p l e R s m args below meth c Q D base tb cs MC MS H1 locs1 cells slots ls hA hR ⟨hW.1, ?_⟩ hS1 hc hs hX hl
  rw [← z_ws_set (μ := μ) (μ' := (μ.1, z_up μ.2.1 k i.toNatClampNeg x, μ.2.2)) hk (fun a ha => ⟨rfl, z_up_r _ _ ha, rfl⟩)]
  show va_P D z_cl ((z_ws base tb cs sh μ).set k (z_ad base tb k, .inl (cs.2.1, N, .inr (.inl (z_up μ.2.1 k i.toNatClampNeg x k))))) H1
  rw [z_up_updL]
  exact hP1
theorem p_gets0 {mi : z_Mi} {d pc n : Nat} {lv : List (Nat × Value)} {st : List Value} {sh : z_Sh} {μ : z_M} {mc ms : Nat} {E : Option Value → z_Sh → z_M → Prop} {idx : Nat} (hd : decode mi.2.1 pc = .ok (.getstatic idx, 3)) (hf : Cond.fieldLink mi.1.cls idx RX6 "FIRST_LIKED" "[I" ∈ z_tbl) (hn : pc + 3 = n) (h : PW mi d n lv (.ref 1000 :: st) sh μ mc ms E) : PW mi d pc lv st sh μ mc ms E := by
  subst hn
  intro p l e R s m args below meth c Q D base tb cs MC MS H locs cells slots ls hA hR hW hS hc hs hX hl
  exact va_gets hA.1 hA.2.1 hA.2.2.2.2.2.2.2.2.2.2.2.2.1.1 hS hA.2.2.2.1 (hA.2.2.2.2.1 _ hf) (fun _ h9 => h9) hd (h p l e R s m args below meth c Q D base tb cs MC MS H locs cells slots ls hA hR hW hS hc hs hX hl)
theorem p_tld0 {mi : z_Mi} {d pc n : Nat} {lv : List (Nat × Value)} {st : List Value} {sh : z_Sh} {μ : z_M} {mc ms : Nat} {E : Option Value → z_Sh → z_M → Prop} {i : Int32} (hd : decode mi.2.1 pc = .ok (.iaload, 1)) (hi : vp_in i 3) (hn : pc + 1 = n) (h : PW mi d n lv (.int (z_t0 i.toNatClampNeg) :: st) sh μ mc ms E) : PW mi d pc lv (.int i :: .ref 1000 :: st) sh μ mc ms E := by
  subst hn
  intro p l e R s m args below meth c Q D base tb cs MC MS H locs cells slots ls hA hR hW hS hc hs hX hl
  exact va_ti hA.1 hA.2.1 hA.2.2.2.2.2.2.2.2.2.2.2.2.1.2 hS hi rfl hd (h p l e R s m args below meth c Q D base tb cs MC MS H locs cells slots ls hA hR hW hS hc hs hX hl)
theorem p_gets1 {mi : z_Mi} {d pc n : Nat} {lv : List (Nat × Value)} {st : List Value} {sh : z_Sh} {μ : z_M} {mc ms : Nat} {E : Option Value → z_Sh → z_M → Prop} {idx : Nat} (hd : decode mi.2.1 pc = .ok (.getstatic idx, 3)) (hf : Cond.fieldLink mi.1.cls idx RX5 "ABOVE" "[I" ∈ z_tbl) (hn : pc + 3 = n) (h : PW mi d n lv (.ref 1001 :: st) sh μ mc ms E) : PW mi d pc lv st sh μ mc ms E := by
  subst hn
  intro p l e R s m args below meth c Q D base tb cs MC MS H locs cells slots ls hA hR hW hS hc hs hX hl
  exact va_gets hA.1 hA.2.1 hA.2.2.2.2.2.2.2.2.2.2.2.2.2.1.1 hS hA.2.2.2.1 (hA.2.2.2.2.1 _ hf) (fun _ h9 => h9) hd (h p l e R s m args below meth c Q D base tb cs MC MS H locs cells slots ls hA hR hW hS hc hs hX hl)
theorem p_tld1 {mi : z_Mi} {d pc n : Nat} {lv : List (Nat × Value)} {st : List Value} {sh : z_Sh} {μ : z_M} {mc ms : Nat} {E : Option Value → z_Sh → z_M → Prop} {i : Int32} (hd : decode mi.2.1 pc = .ok (.iaload, 1)) (hi : vp_in i 8) (hn : pc + 1 = n) (h : PW mi d n lv (.int (z_t1 i.toNatClampNeg) :: st) sh μ mc ms E) : PW mi d pc lv (.int i :: .ref 1001 :: st) sh μ mc ms E := by
  subst hn
  intro p l e R s m args below meth c Q D base tb cs MC MS H locs cells slots ls hA hR hW hS hc hs hX hl
  exact va_ti hA.1 hA.2.1 hA.2.2.2.2.2.2.2.2.2.2.2.2.2.1.2 hS hi rfl hd (h p l e R s m args below meth c Q D base tb cs MC MS H locs cells slots ls hA hR hW hS hc hs hX hl)
theorem p_gets2 {mi : z_Mi} {d pc n : Nat} {lv : List (Nat × Value)} {st : List Value} {sh : z_Sh} {μ : z_M} {mc ms : Nat} {E : Option Value → z_Sh → z_M → Prop} {idx : Nat} (hd : decode mi.2.1 pc = .ok (.getstatic idx, 3)) (hf : Cond.fieldLink mi.1.cls idx RX5 "BODIES" "[I" ∈ z_tbl) (hn : pc + 3 = n) (h : PW mi d n lv (.ref 1002 :: st) sh μ mc ms E) : PW mi d pc lv st sh μ mc ms E := by
  subst hn
  intro p l e R s m args below meth c Q D base tb cs MC MS H locs cells slots ls hA hR hW hS hc hs hX hl
  exact va_gets hA.1 hA.2.1 hA.2.2.2.2.2.2.2.2.2.2.2.2.2.2.1.1 hS hA.2.2.2.1 (hA.2.2.2.2.1 _ hf) (fun _ h9 => h9) hd (h p l e R s m args below meth c Q D base tb cs MC MS H locs cells slots ls hA hR hW hS hc hs hX hl)
theorem p_tld2 {mi : z_Mi} {d pc n : Nat} {lv : List (Nat × Value)} {st : List Value} {sh : z_Sh} {μ : z_M} {mc ms : Nat} {E : Option Value → z_Sh → z_M → Prop} {i : Int32} (hd : decode mi.2.1 pc = .ok (.iaload, 1)) (hi : vp_in i 32) (hn : pc + 1 = n) (h : PW mi d n lv (.int (z_t2 i.toNatClampNeg) :: st) sh μ mc ms E) : PW mi d pc lv (.int i :: .ref 1002 :: st) sh μ mc ms E := by
  subst hn
  intro p l e R s m args below meth c Q D base tb cs MC MS H locs cells slots ls hA hR hW hS hc hs hX hl
  exact va_ti hA.1 hA.2.1 hA.2.2.2.2.2.2.2.2.2.2.2.2.2.2.1.2 hS hi rfl hd (h p l e R s m args below meth c Q D base tb cs MC MS H locs cells slots ls hA hR hW hS hc hs hX hl)
theorem W_sz {p : Program} {l : Launch} {e : Env} {R : Room} {s : State} {m : MethodId} {args : Array Value} {below : List Frame} {meth : Method} {c : Code} {H : Heap} {locs : List Loc} {cells slots : Nat} {Q : State → Prop} {g : JFrame} (k : H.size ≤ s.heap.size + cells → W p l e R s m args below meth c H locs cells slots Q g) : W p l e R s m args below meth c H locs cells slots Q g := by
  intro T hT X
  refine k ?_ T hT X
  rw [← hT]
  exact X.same.2.2.1
theorem z_low {D : va_G} {base : Nat} {tb : Nat → Nat} {cs : ClassId × ClassId × ClassId} {sh : z_Sh} {μ : z_M} {H : Heap} (ht : tb 2000 = 0) (hW : z_Wd D base tb cs sh μ H) (hb : base ≤ H.size) : base + sh.length ≤ H.size := by
  cases hn : sh.length with
  | zero => exact hb
  | succ k =>
    have hk : k < sh.length := by omega
    have h1 : sh[k]? = some sh[k] := List.getElem?_eq_getElem hk
    have h2 := (hW.2 k _ (z_ws_at h1)).lt
    have h3 : z_ad base tb k = base + k := z_ad_lt ht (by have := hW.1; omega)
    have h4 : z_ad base tb k < H.size := h2
    omega
theorem z_call {p : Program} {l : Launch} {e : Env} {R : Room} {s : State} {m : MethodId} {args : Array Value} {below : List Frame} {meth : Method} {c : Code} {H : Heap} {locs : List Loc} {cells slots mc2 ms2 pc : Nat} {Q : State → Prop} {ls : Array Slot} {st0 rest : List Value} {D : va_G} {base : Nat} {tb : Nat → Nat} {cs : ClassId × ClassId × ClassId} {E2 : Option Value → z_Sh → z_M → Prop}
    (hr : va_Run p l e R s m args below meth c H locs cells slots mc2 ms2 (F0 m pc ls st0) rest (fun st oc t => (∃ (r : Option Value) (sh' : z_Sh) (μ' : z_M), oc = .returned (r.map (z_cv base tb)) ∧ E2 r sh' μ' ∧ z_Wd D base tb cs sh' μ' t.heap) ∧ va_F (z_A base) st t) (z_A base)) (hS : va_S (z_A base) s.heap H locs)
    (kk : ∀ (r : Option Value) (sh' : z_Sh) (μ' : z_M) (H1 : Heap) (locs1 : List Loc), E2 r sh' μ' → z_Wd D base tb cs sh' μ' H1 → va_S (z_A base) s.heap H1 locs1 → W p l e R s m args below meth c H1 locs1 (cells + mc2) (slots + ms2) Q (F0 m (pc + 3) ls ((r.map (z_cv base tb)).toList ++ rest))) : W p l e R s m args below meth c H locs cells slots Q (F0 m pc ls st0) := by
  intro T hT X
  obtain ⟨v, st₀, t, T', L, h0, X', hL, e1, e2, ⟨⟨r, sh', μ', hv, hE, hW'⟩, hz, hk⟩, st⟩ := hr T hT X
  cases hv
  rw [h0] at hz hk
  obtain ⟨t2, a1, b1⟩ := kk r sh' μ' T'.heap (locs ++ L) hE (by rw [e1]; exact hW') ⟨Nat.le_trans hS.1 (by rw [e1]; exact hz), fun q h1 h2 => by rw [e1, hk q (Nat.lt_of_lt_of_le h1 hS.1) h2]; exact hS.2.1 q h1 h2, fun q hq => by
      rcases List.mem_append.mp hq with h | h
      · exact hS.2.2 q h
      · exact hL q h⟩ T' rfl X'
  exact ⟨t2, st t2 a1, b1⟩
/-- what the tables say of a call -/
def z_lk (own : String) (idx : Nat) (mi2 : z_Mi) (nn : Nat) : Prop := Cond.methodLink own idx mi2.1 ∈ z_tbl ∧ Cond.initialized mi2.1.cls ∈ z_tbl ∧ Cond.code mi2.1 mi2.2.1 mi2.2.2.1 mi2.2.2.2 ∈ z_tbl ∧ (mi2.1.cls ≠ "java/lang/invoke/MethodHandle" ∧ mi2.1.cls ≠ "java/lang/invoke/VarHandle") ∧ (parseMethodDescriptor mi2.1.desc).map (fun d => d.parameters.length) = some nn ∧ mi2.2.2.1 ≤ 41
theorem z_cb {own : String} {idx : Nat} {mi2 : z_Mi} {nn : Nat} (h : z_lk own idx mi2 nn) {R : Room} {s : State} {args : Array Value} {d d2 mc2 ms2 : Nat} (hts : ∀ w ∈ z_tbl, w.before args s = true) (hdd : d2 + 1 ≤ d) (hf : d ≤ R.frames) (hl : 60 * d ≤ R.locals) : CallB R s args own idx mi2.1 mi2.2.1 mi2.2.2.1 mi2.2.2.2 (z_w mi2) { frames := d2, cells := mc2, slots := ms2, locals := 60 * d2 } mc2 ms2 nn := by
  obtain ⟨h1, h2, h3, h4, h5, h6⟩ := h
  refine ⟨rfl, rfl, ?_, ?_, ?_, List.mem_cons_self, hts _ h3, hts _ h2, h4, ?_, hts _ h1⟩
  · show d2 + 1 ≤ R.frames
    omega
  · show 8 + (mi2.2.2.1 + 11) + 60 * d2 ≤ R.locals
    omega
  · refine pay_in hts (fun w hw => ?_)
    rcases List.mem_cons.mp hw with e | hw
    · rw [e]
      exact ⟨h3, z_gw _ h3⟩
    · exact ⟨hw, z_gw _ hw⟩
  · intro sig hs
    rw [hs] at h5
    exact (Option.some.inj h5).symm
theorem z_pre {D : va_G} {base : Nat} {tb : Nat → Nat} {cs : ClassId × ClassId × ClassId} {sh : z_Sh} {μ : z_M} {mc2 cells mc MC : Nat} {s : State} {H : Heap} {locs : List Loc} (av : List Value) (hF : z_Fx D base tb cs s) (hW : z_Wd D base tb cs sh μ H) (hS : va_S (z_A base) s.heap H locs) (hz : H.size ≤ s.heap.size + cells) (hX : mc ≠ 0 → tb 2000 = 0 ∧ cells + s.heap.size = base + sh.length) (hc : cells + mc ≤ MC) (hmc : mc2 ≤ mc) :
    FrameBlind (va_Pc (av.map (z_cv base tb)) (fun U => z_Fx D base tb cs U ∧ (mc2 ≠ 0 → tb 2000 = 0 ∧ U.heap.size = base + sh.length) ∧ z_Wd D base tb cs sh μ U.heap)) ∧ ∀ U : State, U.heap = H → s.WarmedH U.vm → va_Pc (av.map (z_cv base tb)) (fun U => z_Fx D base tb cs U ∧ (mc2 ≠ 0 → tb 2000 = 0 ∧ U.heap.size = base + sh.length) ∧ z_Wd D base tb cs sh μ U.heap) (av.map (z_cv base tb)).toArray U := by
  refine ⟨fun a U g mk q => ⟨q.1, q.2.1.blind g mk a, q.2.2.1, q.2.2.2⟩, fun U hU hWm => ⟨rfl, hF.goes hS hU hWm, fun h0 => ?_, by rw [hU]; exact hW⟩⟩
  rw [hU]
  have h1 := hX (by omega)
  have h2 := z_low h1.1 hW (Nat.le_trans hF.2.1 hS.1)
  exact ⟨h1.1, by omega⟩
theorem z_rest (base : Nat) (tb : Nat → Nat) (rest : List Value) : ((rest.map (z_cv base tb)).map fun v => v.category).sum = (rest.map fun v => v.category).sum := by
  rw [List.map_map]
  congr 2
  funext v
  exact z_cv_cat base tb v
theorem z_rl (base : Nat) (tb : Nat → Nat) (r : Option Value) (rest : List Value) : (r.map (z_cv base tb)).toList ++ rest.map (z_cv base tb) = (r.toList ++ rest).map (z_cv base tb) := by cases r <;> simp
theorem p_callV {mi : z_Mi} {d pc n : Nat} {lv : List (Nat × Value)} {st : List Value} {sh : z_Sh} {μ : z_M} {mc ms : Nat} {E : Option Value → z_Sh → z_M → Prop} {mi2 : z_Mi} {d2 idx mc2 ms2 nn : Nat} {As rest : List Value} {E2 : Option Value → z_Sh → z_M → Prop} {k ci N : Nat} (hd : decode mi.2.1 pc = .ok (.invokevirtual idx, 3)) (hlk : z_lk mi.1.cls idx mi2 nn) (hin : Cond.instanceMethod mi2.1 ∈ z_tbl ∧ Cond.selects mi2.1.cls mi2.1 mi2.1 ∈ z_tbl) (hct : z_CT mi2 d2 (.ref k :: As) sh μ mc2 ms2 E2) (hk : sh[k]? = some (ci + 3, N)) (hcc : ∃ (T : u_T) (Nf : Nat), z_cl[ci]? = some (mi2.1.cls, T, Nf)) (hst : st = As.reverse ++ .ref k :: rest) (hnn : As.length = nn) (hrest : (rest.map fun v => v.category).sum ≤ 8) (hdd : d2 + 1 ≤ d) (hmc : mc2 ≤ mc) (hms : ms2 ≤ ms) (hlen : ∀ r sh' μ', E2 r sh' μ' → sh'.length = sh.length + mc2) (hn : pc + 3 = n) (h : ∀ r sh' μ', E2 r sh' μ' → PW mi d n lv (r.toList ++ rest) sh' μ' (mc - mc2) (ms - ms2) E) : PW mi d pc lv st sh μ mc ms E := by
  subst hn
  subst hst
  intro p l e R s m args below meth c Q D base tb cs MC MS H locs cells slots ls hA hR hW hS hc hs hX hl
  obtain ⟨hx, hb, hml, hown, hts, hnm, hfr, hlo, hMC, hMS, hF⟩ := id hA
  refine W_sz (fun hz => ?_)
  have hp := z_pre (mc2 := mc2) (.ref k :: As) hF hW hS hz hX hc hmc
  obtain ⟨T0, Nf, hcc⟩ := hcc
  have hr := va_runV (As := As.map (z_cv base tb)) (rest := rest.map (z_cv base tb)) (b := z_ad base tb k) (C := mi2.1.cls) (locs := locs) (cells := cells) (slots := slots) (meth := meth) (e := e) (below := below) (g := F0 m pc ls ((As.reverse ++ .ref k :: rest).map (z_cv base tb))) ⟨hx, hb, hml, hown, hts⟩ (hct l D base tb cs) ⟨z_cb hlk hts hdd hfr hlo, hts _ hin.1, hts _ hin.2⟩ ⟨hp.1, va_recv hF.1 hW.2 hcc (z_ws_at hk), hp.2⟩ rfl (by rw [List.length_map]; exact hnn) hl.1 (by show List.map _ _ = _; rw [List.map_append, List.map_reverse]; rfl) (lv_room (by rw [z_rest]; exact hrest)) hd ⟨by omega, by omega⟩
  exact z_call hr hS (fun r sh' μ' H1 locs1 hE hW1 hS1 => by
    rw [z_rl]
    exact h r sh' μ' hE p l e R s m args below meth c Q D base tb cs MC MS H1 locs1 (cells + mc2) (slots + ms2) ls hA hR hW1 hS1 (by omega) (by omega) (fun q => by have g := hX (by omega); have := hlen r sh' μ' hE; exact ⟨g.1, by omega⟩) hl)
theorem p_callS {mi : z_Mi} {d pc n : Nat} {lv : List (Nat × Value)} {st : List Value} {sh : z_Sh} {μ : z_M} {mc ms : Nat} {E : Option Value → z_Sh → z_M → Prop} {mi2 : z_Mi} {d2 idx mc2 ms2 nn : Nat} {As rest : List Value} {E2 : Option Value → z_Sh → z_M → Prop} (hd : decode mi.2.1 pc = .ok (.invokestatic idx, 3)) (hlk : z_lk mi.1.cls idx mi2 nn) (hin : Cond.static mi2.1 ∈ z_tbl) (hct : z_CT mi2 d2 As sh μ mc2 ms2 E2) (hst : st = As.reverse ++ rest) (hnn : As.length = nn) (hrest : (rest.map fun v => v.category).sum ≤ 8) (hdd : d2 + 1 ≤ d) (hmc : mc2 ≤ mc) (hms : ms2 ≤ ms) (hlen : ∀ r sh' μ', E2 r sh' μ' → sh'.length = sh.length + mc2) (hn : pc + 3 = n) (h : ∀ r sh' μ', E2 r sh' μ' → PW mi d n lv (r.toList ++ rest) sh' μ' (mc - mc2) (ms - ms2) E) : PW mi d pc lv st sh μ mc ms E := by
  subst hn
  subst hst
  intro p l e R s m args below meth c Q D base tb cs MC MS H locs cells slots ls hA hR hW hS hc hs hX hl
  obtain ⟨hx, hb, hml, hown, hts, hnm, hfr, hlo, hMC, hMS, hF⟩ := id hA
  refine W_sz (fun hz => ?_)
  have hp := z_pre (mc2 := mc2) As hF hW hS hz hX hc hmc
  have hr := va_runS (As := As.map (z_cv base tb)) (rest := rest.map (z_cv base tb)) (locs := locs) (cells := cells) (slots := slots) (meth := meth) (e := e) (below := below) (g := F0 m pc ls ((As.reverse ++ rest).map (z_cv base tb))) ⟨hx, hb, hml, hown, hts⟩ (hct l D base tb cs) ⟨z_cb hlk hts hdd hfr hlo, hts _ hin⟩ hp rfl (by rw [List.length_map]; exact hnn) hl.1 (by show List.map _ _ = _; rw [List.map_append, List.map_reverse]) (lv_room (by rw [z_rest]; exact hrest)) hd ⟨by omega, by omega⟩
  exact z_call hr hS (fun r sh' μ' H1 locs1 hE hW1 hS1 => by
    rw [z_rl]
    exact h r sh' μ' hE p l e R s m args below meth c Q D base tb cs MC MS H1 locs1 (cells + mc2) (slots + ms2) ls hA hR hW1 hS1 (by omega) (by omega) (fun q => by have g := hX (by omega); have := hlen r sh' μ' hE; exact ⟨g.1, by omega⟩) hl)
theorem p_callI {mi : z_Mi} {d pc n : Nat} {lv : List (Nat × Value)} {st : List Value} {sh : z_Sh} {μ : z_M} {mc ms : Nat} {E : Option Value → z_Sh → z_M → Prop} {mi2 : z_Mi} {d2 idx mc2 ms2 nn : Nat} {As rest : List Value} {E2 : Option Value → z_Sh → z_M → Prop} {k : Nat} (hd : decode mi.2.1 pc = .ok (.invokespecial idx, 3)) (hlk : z_lk mi.1.cls idx mi2 nn) (hv : mi2.2.2.2 = none) (hin : mi2.1.name = "<init>" ∧ Cond.instanceMethod mi2.1 ∈ z_tbl) (hct : z_CT mi2 d2 (.ref k :: As) sh μ mc2 ms2 E2) (hst : st = As.reverse ++ .ref k :: rest) (hnn : As.length = nn) (hrest : (rest.map fun v => v.category).sum ≤ 8) (hdd : d2 + 1 ≤ d) (hmc : mc2 ≤ mc) (hms : ms2 ≤ ms) (hlen : ∀ r sh' μ', E2 r sh' μ' → sh'.length = sh.length + mc2) (hn : pc + 3 = n) (h : ∀ r sh' μ', E2 r sh' μ' → PW mi d n lv (r.toList ++ rest) sh' μ' (mc - mc2) (ms - ms2) E) : PW mi d pc lv st sh μ mc ms E := by
  subst hn
  subst hst
  intro p l e R s m args below meth c Q D base tb cs MC MS H locs cells slots ls hA hR hW hS hc hs hX hl
  obtain ⟨hx, hb, hml, hown, hts, hnm, hfr, hlo, hMC, hMS, hF⟩ := id hA
  refine W_sz (fun hz => ?_)
  have hp := z_pre (mc2 := mc2) (.ref k :: As) hF hW hS hz hX hc hmc
  have hcb := z_cb (mc2 := mc2) (ms2 := ms2) hlk hts hdd hfr hlo
  rw [hv] at hcb
  have hr := va_runI (As := As.map (z_cv base tb)) (rest := rest.map (z_cv base tb)) (b := z_ad base tb k) (locs := locs) (cells := cells) (slots := slots) (meth := meth) (e := e) (below := below) (g := F0 m pc ls ((As.reverse ++ .ref k :: rest).map (z_cv base tb))) ⟨hx, hb, hml, hown, hts⟩ (hct l D base tb cs) ⟨hcb, hin.1, hts _ hin.2⟩ hp rfl (by rw [List.length_map]; exact hnn) hl.1 (by show List.map _ _ = _; rw [List.map_append, List.map_reverse]; rfl) (lv_room (by rw [z_rest]; exact hrest)) hd ⟨by omega, by omega⟩
  exact z_call hr hS (fun r sh' μ' H1 locs1 hE hW1 hS1 => by
    rw [z_rl]
    exact h r sh' μ' hE p l e R s m args below meth c Q D base tb cs MC MS H1 locs1 (cells + mc2) (slots + ms2) ls hA hR hW1 hS1 (by omega) (by omega) (fun q => by have g := hX (by omega); have := hlen r sh' μ' hE; exact ⟨g.1, by omega⟩) hl)
theorem p_copyI {mi : z_Mi} {d pc n : Nat} {lv : List (Nat × Value)} {st : List Value} {sh : z_Sh} {μ : z_M} {mc ms : Nat} {E : Option Value → z_Sh → z_M → Prop} {idx k0 k1 n0 n1 : Nat} {sp dp q : Int32} (hd : decode mi.2.1 pc = .ok (.invokestatic idx, 3)) (hlk : Cond.methodLink mi.1.cls idx arraycopyName ∈ z_tbl) (hk : Cond.native arraycopyName ∈ z_tbl ∧ Cond.static arraycopyName ∈ z_tbl ∧ Cond.initialized "java/lang/System" ∈ z_tbl) (h0 : sh[k0]? = some (0, n0)) (h1 : sh[k1]? = some (0, n1)) (g1 : ¬ sp < 0) (g2 : ¬ dp < 0) (g3 : ¬ q < 0) (g4 : sp.toNatClampNeg + q.toNatClampNeg ≤ n0) (g5 : dp.toNatClampNeg + q.toNatClampNeg ≤ n1) (hdd : 1 ≤ d) (hrest : (st.map fun v => v.category).sum ≤ 8) (hn : pc + 3 = n) (h : PW mi d n lv st sh (z_ro μ.1 k1 (va_cpy (μ.1 k0) (μ.1 k1) sp.toNatClampNeg dp.toNatClampNeg q.toNatClampNeg), μ.2) mc ms E) : PW mi d pc lv (.int q :: .int dp :: .ref k1 :: .int sp :: .ref k0 :: st) sh μ mc ms E := by
  subst hn
  intro p l e R s m args below meth c Q D base tb cs MC MS H locs cells slots ls hA hR hW hS hc hs hX hl
  obtain ⟨hx, hb, hml, hown, hts, hnm, hfr, hlo, hMC, hMS, hF⟩ := id hA
  refine va_copyi hx hb (hml.trans hl.1.symm) hown (hts _ hlk) (hts _ hk.1) (hts _ hk.2.1) (hts _ hk.2.2) hF.1 hW.2 (z_D hW.1) hS k0 k1 0 0 (z_ws_at h0) (z_ws_at h1) rfl rfl rfl g1 g2 g3 g4 g5 (fun _ _ => rfl) (by omega) (by rw [z_rest]; have : nativeFrameWords "java/lang/System" "arraycopy" 5 + 11 ≤ 52 := (by decide); omega) hd (fun H1 locs1 hP1 _ hS1 => ?_)
  refine h p l e R s m args below meth c Q D base tb cs MC MS H1 locs1 cells slots ls hA hR ⟨hW.1, ?_⟩ hS1 hc hs hX hl
  rw [← z_ws_set (μ := μ) (μ' := (z_ro μ.1 k1 (va_cpy (μ.1 k0) (μ.1 k1) sp.toNatClampNeg dp.toNatClampNeg q.toNatClampNeg), μ.2)) h1 (fun a ha => ⟨z_ro_r _ _ ha, rfl, rfl⟩)]
  show va_P D z_cl ((z_ws base tb cs sh μ).set k1 (z_ad base tb k1, .inl (cs.1, n1, .inl (z_ro μ.1 k1 _ k1)))) H1
  rw [z_ro_s]
  exact hP1
theorem p_copyL {mi : z_Mi} {d pc n : Nat} {lv : List (Nat × Value)} {st : List Value} {sh : z_Sh} {μ : z_M} {mc ms : Nat} {E : Option Value → z_Sh → z_M → Prop} {idx k0 k1 n0 n1 : Nat} {sp dp q : Int32} (hd : decode mi.2.1 pc = .ok (.invokestatic idx, 3)) (hlk : Cond.methodLink mi.1.cls idx arraycopyName ∈ z_tbl) (hk : Cond.native arraycopyName ∈ z_tbl ∧ Cond.static arraycopyName ∈ z_tbl ∧ Cond.initialized "java/lang/System" ∈ z_tbl) (h0 : sh[k0]? = some (1, n0)) (h1 : sh[k1]? = some (1, n1)) (g1 : ¬ sp < 0) (g2 : ¬ dp < 0) (g3 : ¬ q < 0) (g4 : sp.toNatClampNeg + q.toNatClampNeg ≤ n0) (g5 : dp.toNatClampNeg + q.toNatClampNeg ≤ n1) (hdd : 1 ≤ d) (hrest : (st.map fun v => v.category).sum ≤ 8) (hn : pc + 3 = n) (h : PW mi d n lv st sh (μ.1, z_ro μ.2.1 k1 (va_cpy (μ.2.1 k0) (μ.2.1 k1) sp.toNatClampNeg dp.toNatClampNeg q.toNatClampNeg), μ.2.2) mc ms E) : PW mi d pc lv (.int q :: .int dp :: .ref k1 :: .int sp :: .ref k0 :: st) sh μ mc ms E := by
  subst hn
  intro p l e R s m args below meth c Q D base tb cs MC MS H locs cells slots ls hA hR hW hS hc hs hX hl
  obtain ⟨hx, hb, hml, hown, hts, hnm, hfr, hlo, hMC, hMS, hF⟩ := id hA
  refine va_copyl hx hb (hml.trans hl.1.symm) hown (hts _ hlk) (hts _ hk.1) (hts _ hk.2.1) (hts _ hk.2.2) hF.1 hW.2 (z_D hW.1) hS k0 k1 1 1 (z_ws_at h0) (z_ws_at h1) rfl rfl rfl g1 g2 g3 g4 g5 (fun _ _ => rfl) (by omega) (by rw [z_rest]; have : nativeFrameWords "java/lang/System" "arraycopy" 5 + 11 ≤ 52 := (by decide); omega) hd (fun H1 locs1 hP1 _ hS1 => ?_)
  refine h p l e R s m args below meth c Q D base tb cs MC MS H1 locs1 cells slots ls hA hR ⟨hW.1, ?_⟩ hS1 hc hs hX hl
  rw [← z_ws_set (μ := μ) (μ' := (μ.1, z_ro μ.2.1 k1 (va_cpy (μ.2.1 k0) (μ.2.1 k1) sp.toNatClampNeg dp.toNatClampNeg q.toNatClampNeg), μ.2.2)) h1 (fun a ha => ⟨rfl, z_ro_r _ _ ha, rfl⟩)]
  show va_P D z_cl ((z_ws base tb cs sh μ).set k1 (z_ad base tb k1, .inl (cs.2.1, n1, .inr (.inl (z_ro μ.2.1 k1 _ k1))))) H1
  rw [z_ro_s]
  exact hP1
theorem p_ldcw {mi : z_Mi} {d pc n : Nat} {lv : List (Nat × Value)} {st : List Value} {sh : z_Sh} {μ : z_M} {mc ms : Nat} {E : Option Value → z_Sh → z_M → Prop} {k : Nat} {v : Int32} (hd : decode mi.2.1 pc = .ok (.ldc_w k, 3)) (hk : Cond.constant mi.1.cls k v ∈ z_tbl) (hn : pc + 3 = n) (h : PW mi d n lv (.int v :: st) sh μ mc ms E) : PW mi d pc lv st sh μ mc ms E := by
  subst hn
  intro p l e R s m args below meth c Q D base tb cs MC MS H locs cells slots ls hA hR hW hS hc hs hX hl
  exact lv_ldcw hA.1 hA.2.1 hA.2.2.2.1 (hA.2.2.2.2.1 _ hk) hd (h p l e R s m args below meth c Q D base tb cs MC MS H locs cells slots ls hA hR hW hS hc hs hX hl)
