/-! making cells -/
def yq_d0 (kd : Nat) : Value := if kd = 2 then .null else .int 0
theorem yq_df0 : ∀ j, j < 6 → defaultValue (tyX0 j) = yq_d0 ((z_kd 0).getD j 0)
  | 0, _ => rfl
  | 1, _ => rfl
  | 2, _ => rfl
  | 3, _ => rfl
  | 4, _ => rfl
  | 5, _ => rfl
  | j + 6, h => absurd h (by omega)
theorem yq_df1 : ∀ j, j < 9 → defaultValue (tyX1 j) = yq_d0 ((z_kd 1).getD j 0)
  | 0, _ => rfl
  | 1, _ => rfl
  | 2, _ => rfl
  | 3, _ => rfl
  | 4, _ => rfl
  | 5, _ => rfl
  | 6, _ => rfl
  | 7, _ => rfl
  | 8, _ => rfl
  | j + 9, h => absurd h (by omega)
theorem yq_df2 : ∀ j, j < 5 → defaultValue (tyX2 j) = yq_d0 ((z_kd 2).getD j 0)
  | 0, _ => rfl
  | 1, _ => rfl
  | 2, _ => rfl
  | 3, _ => rfl
  | 4, _ => rfl
  | j + 5, h => absurd h (by omega)
theorem yq_df3 : ∀ j, j < 4 → defaultValue (tyX3 j) = yq_d0 ((z_kd 3).getD j 0)
  | 0, _ => rfl
  | 1, _ => rfl
  | 2, _ => rfl
  | 3, _ => rfl
  | j + 4, h => absurd h (by omega)
theorem yq_df4 : ∀ j, j < 4 → defaultValue (tyX4 j) = yq_d0 ((z_kd 4).getD j 0)
  | 0, _ => rfl
  | 1, _ => rfl
  | 2, _ => rfl
  | 3, _ => rfl
  | j + 4, h => absurd h (by omega)
theorem yq_df5 : ∀ j, j < 5 → defaultValue (tyX5 j) = yq_d0 ((z_kd 5).getD j 0)
  | 0, _ => rfl
  | 1, _ => rfl
  | 2, _ => rfl
  | 3, _ => rfl
  | 4, _ => rfl
  | j + 5, h => absurd h (by omega)
theorem yq_df6 : ∀ j, j < 4 → defaultValue (tyX6 j) = yq_d0 ((z_kd 6).getD j 0)
  | 0, _ => rfl
  | 1, _ => rfl
  | 2, _ => rfl
  | 3, _ => rfl
  | j + 4, h => absurd h (by omega)
theorem yq_df7 : ∀ j, j < 8 → defaultValue (tyX7 j) = yq_d0 ((z_kd 7).getD j 0)
  | 0, _ => rfl
  | 1, _ => rfl
  | 2, _ => rfl
  | 3, _ => rfl
  | 4, _ => rfl
  | 5, _ => rfl
  | 6, _ => rfl
  | 7, _ => rfl
  | j + 8, h => absurd h (by omega)
theorem yq_df8 : ∀ j, j < 10 → defaultValue (tyX8 j) = yq_d0 ((z_kd 8).getD j 0)
  | 0, _ => rfl
  | 1, _ => rfl
  | 2, _ => rfl
  | 3, _ => rfl
  | 4, _ => rfl
  | 5, _ => rfl
  | 6, _ => rfl
  | 7, _ => rfl
  | 8, _ => rfl
  | 9, _ => rfl
  | j + 10, h => absurd h (by omega)
theorem yq_df9 : ∀ j, j < 42 → defaultValue (tyX9 j) = yq_d0 ((z_kd 9).getD j 0)
  | 0, _ => rfl
  | 1, _ => rfl
  | 2, _ => rfl
  | 3, _ => rfl
  | 4, _ => rfl
  | 5, _ => rfl
  | 6, _ => rfl
  | 7, _ => rfl
  | 8, _ => rfl
  | 9, _ => rfl
  | 10, _ => rfl
  | 11, _ => rfl
  | 12, _ => rfl
  | 13, _ => rfl
  | 14, _ => rfl
  | 15, _ => rfl
  | 16, _ => rfl
  | 17, _ => rfl
  | 18, _ => rfl
  | 19, _ => rfl
  | 20, _ => rfl
  | 21, _ => rfl
  | 22, _ => rfl
  | 23, _ => rfl
  | 24, _ => rfl
  | 25, _ => rfl
  | 26, _ => rfl
  | 27, _ => rfl
  | 28, _ => rfl
  | 29, _ => rfl
  | 30, _ => rfl
  | 31, _ => rfl
  | 32, _ => rfl
  | 33, _ => rfl
  | 34, _ => rfl
  | 35, _ => rfl
  | 36, _ => rfl
  | 37, _ => rfl
  | 38, _ => rfl
  | 39, _ => rfl
  | 40, _ => rfl
  | 41, _ => rfl
  | j + 42, h => absurd h (by omega)
theorem yq_dflt : ∀ (ci : Nat) (C : String) (T : u_T) (N : Nat), z_cl[ci]? = some (C, T, N) → ∃ ty0 : Nat → FieldType, (∀ k, k < N → parseFieldDescriptor (T k).2.2.1 = some (ty0 k)) ∧ ∀ j, j < N → defaultValue (ty0 j) = yq_d0 ((z_kd ci).getD j 0)
  | 0, _, _, _, h => by cases h; exact ⟨tyX0, tyX0_ok, yq_df0⟩
  | 1, _, _, _, h => by cases h; exact ⟨tyX1, tyX1_ok, yq_df1⟩
  | 2, _, _, _, h => by cases h; exact ⟨tyX2, tyX2_ok, yq_df2⟩
  | 3, _, _, _, h => by cases h; exact ⟨tyX3, tyX3_ok, yq_df3⟩
  | 4, _, _, _, h => by cases h; exact ⟨tyX4, tyX4_ok, yq_df4⟩
  | 5, _, _, _, h => by cases h; exact ⟨tyX5, tyX5_ok, yq_df5⟩
  | 6, _, _, _, h => by cases h; exact ⟨tyX6, tyX6_ok, yq_df6⟩
  | 7, _, _, _, h => by cases h; exact ⟨tyX7, tyX7_ok, yq_df7⟩
  | 8, _, _, _, h => by cases h; exact ⟨tyX8, tyX8_ok, yq_df8⟩
  | 9, _, _, _, h => by cases h; exact ⟨tyX9, tyX9_ok, yq_df9⟩
  | k + 10, _, _, _, h => by simp [z_cl] at h
theorem yq_ws1 (base : Nat) (tb : Nat → Nat) (cs : ClassId × ClassId × ClassId) (sh : z_Sh) (μ : z_M) (q : Nat × Nat) : z_ws base tb cs (sh ++ [q]) μ = z_ws base tb cs sh μ ++ [(z_ad base tb sh.length, z_ce base tb cs μ sh.length q)] := by
  unfold z_ws
  rw [List.mapIdx_concat]
theorem yq_grow {D : va_G} {base : Nat} {tb : Nat → Nat} {cs : ClassId × ClassId × ClassId} {sh : z_Sh} {μ : z_M} {H H1 H0 : Heap} {locs : List Loc} {q : Nat × Nat} (hW : z_Wd D base tb cs sh μ H) (hS : va_S (z_A base) H0 H locs) (ht : tb 2000 = 0) (hl : sh.length < 1000) (hsz : H.size = base + sh.length) (e1 : va_at D z_cl (base + sh.length, z_ce base tb cs μ sh.length q) H1) (z1 : H1.size = base + sh.length + 1) (o1 : ∀ x, x < base + sh.length → H1[x]? = H[x]?) : z_Wd D base tb cs (sh ++ [q]) μ H1 ∧ va_S (z_A base) H0 H1 locs := by
  refine ⟨⟨?_, ?_⟩, ⟨Nat.le_trans hS.1 (by omega), fun x h1 h2 => (o1 x (by have := hS.1; omega)).trans (hS.2.1 x h1 h2), hS.2.2⟩⟩
  · rw [List.length_append]
    show sh.length + 1 ≤ 1000
    omega
  · rw [yq_ws1]
    have hk : ∀ (k : Nat) (x : Nat × va_E), (z_ws base tb cs sh μ)[k]? = some x → H1[x.1]? = H[x.1]? := fun k x hx => o1 x.1 (by have := (hW.2 k x hx).lt; omega)
    refine (hW.2.kept hk).app (fun k x hx => ?_)
    have hz : k < 1 := (List.getElem?_eq_some_iff.mp hx).1
    rw [show k = 0 by omega] at hx
    cases hx
    rw [z_ad_lt ht hl]
    exact e1
theorem yq_size {D : va_G} {base : Nat} {tb : Nat → Nat} {cs : ClassId × ClassId × ClassId} {sh : z_Sh} {μ : z_M} {H H0 : Heap} {locs : List Loc} {cells MC : Nat} (hb : base ≤ H0.size) (hW : z_Wd D base tb cs sh μ H) (hS : va_S (z_A base) H0 H locs) (hz : H.size ≤ H0.size + cells) (hX : MC ≠ 0 → tb 2000 = 0 ∧ cells + H0.size = base + sh.length) (h0 : MC ≠ 0) : H.size = base + sh.length := by
  have h2 := hX h0
  have h1 := z_low h2.1 hW (Nat.le_trans hb hS.1)
  omega
theorem p_newI {mi : z_Mi} {d pc n : Nat} {lv : List (Nat × Value)} {st : List Value} {sh : z_Sh} {μ : z_M} {mc ms : Nat} {E : Option Value → z_Sh → z_M → Prop} {v : Int32} {N : Nat} (hd : decode mi.2.1 pc = .ok (.newarray .int, 2)) (hw : Cond.arrayClass .int ∈ z_tbl) (hv : v = nI N) (hN : N < 2000) (hl0 : sh.length < 1000) (hz0 : ∀ j, μ.1 sh.length j = 0) (hmc : 1 ≤ mc) (hms : N ≤ ms) (hn : pc + 2 = n) (h : PW mi d n lv (.ref sh.length :: st) (sh ++ [(0, N)]) μ (mc - 1) (ms - N) E) : PW mi d pc lv (.int v :: st) sh μ mc ms E := by
  subst hn; subst hv
  intro p l e R s m args below meth c Q D base tb cs MC MS H locs cells slots ls hA hR hW hS hc hs hX hl
  obtain ⟨hx, hb, hml, hown, hts, hnm, hfr, hlo, hMC, hMS, hF⟩ := id hA
  refine W_sz (fun hz => ?_)
  have hsize := yq_size hF.2.1 hW hS hz hX (by omega)
  have ht := (hX (by omega)).1
  refine va_newaK (atype := .int) (N := N) hx hb (hts _ hw) rfl hd rfl (nI_pos (by omega)) (nI_clamp (by omega)) (by show N * _ ≤ _; have : componentBytes (newarray.typeOf (.int : ArrayType)) ≤ 8 := (by decide); have := Nat.mul_le_mul_left N this; omega) (by omega) (by omega) hsize fun H1 cA e1 z1 o1 hAr hNm => ?_
  have hcA : cA = cs.1 := by
    have g := (hF.1.2 0 _ rfl).2
    exact Option.some.inj (hNm.symm.trans g)
  subst hcA
  have hg := yq_grow (q := (0, N)) hW hS ht hl0 hsize (by
    show H1[base + sh.length]? = some (vp_cell _ _)
    rw [e1]
    congr 1
    show _ = vp_cell cs.1 (N, .inl (μ.1 sh.length))
    rw [vp_cell_i]
    congr 1
    funext j
    show defaultValue _ = Value.int (μ.1 sh.length j)
    rw [hz0 j]
    rfl) z1 o1
  have had : z_ad base tb sh.length = base + sh.length := z_ad_lt ht hl0
  have hk := h p l e R s m args below meth c Q D base tb cs MC MS H1 locs (cells + 1) (slots + N) ls hA hR hg.1 hg.2 (by omega) (by omega) (fun q => ⟨ht, by rw [List.length_append]; have := (hX (by omega)).2; show _ = base + (sh.length + 1); omega⟩) hl
  have es : (Value.ref sh.length :: st).map (z_cv base tb) = .ref (base + sh.length) :: st.map (z_cv base tb) := by
    show Value.ref (z_ad base tb sh.length) :: _ = _
    rw [had]
  rw [es] at hk
  exact hk
theorem p_newL {mi : z_Mi} {d pc n : Nat} {lv : List (Nat × Value)} {st : List Value} {sh : z_Sh} {μ : z_M} {mc ms : Nat} {E : Option Value → z_Sh → z_M → Prop} {v : Int32} {N : Nat} (hd : decode mi.2.1 pc = .ok (.newarray .long, 2)) (hw : Cond.arrayClass .long ∈ z_tbl) (hv : v = nI N) (hN : N < 2000) (hl0 : sh.length < 1000) (hz0 : ∀ j, μ.2.1 sh.length j = 0) (hmc : 1 ≤ mc) (hms : N ≤ ms) (hn : pc + 2 = n) (h : PW mi d n lv (.ref sh.length :: st) (sh ++ [(1, N)]) μ (mc - 1) (ms - N) E) : PW mi d pc lv (.int v :: st) sh μ mc ms E := by
  subst hn; subst hv
  intro p l e R s m args below meth c Q D base tb cs MC MS H locs cells slots ls hA hR hW hS hc hs hX hl
  obtain ⟨hx, hb, hml, hown, hts, hnm, hfr, hlo, hMC, hMS, hF⟩ := id hA
  refine W_sz (fun hz => ?_)
  have hsize := yq_size hF.2.1 hW hS hz hX (by omega)
  have ht := (hX (by omega)).1
  refine va_newaK (atype := .long) (N := N) hx hb (hts _ hw) rfl hd rfl (nI_pos (by omega)) (nI_clamp (by omega)) (by show N * _ ≤ _; have : componentBytes (newarray.typeOf (.long : ArrayType)) ≤ 8 := (by decide); have := Nat.mul_le_mul_left N this; omega) (by omega) (by omega) hsize fun H1 cA e1 z1 o1 hAr hNm => ?_
  have hcA : cA = cs.2.1 := by
    have g := (hF.1.2 1 _ rfl).2
    exact Option.some.inj (hNm.symm.trans g)
  subst hcA
  have hg := yq_grow (q := (1, N)) hW hS ht hl0 hsize (by
    show H1[base + sh.length]? = some (vp_cell _ _)
    rw [e1]
    congr 1
    show _ = vp_cell cs.2.1 (N, .inr (.inl (μ.2.1 sh.length)))
    rw [vp_cell_l]
    congr 1
    funext j
    show defaultValue _ = Value.long (μ.2.1 sh.length j)
    rw [hz0 j]
    rfl) z1 o1
  have had : z_ad base tb sh.length = base + sh.length := z_ad_lt ht hl0
  have hk := h p l e R s m args below meth c Q D base tb cs MC MS H1 locs (cells + 1) (slots + N) ls hA hR hg.1 hg.2 (by omega) (by omega) (fun q => ⟨ht, by rw [List.length_append]; have := (hX (by omega)).2; show _ = base + (sh.length + 1); omega⟩) hl
  have es : (Value.ref sh.length :: st).map (z_cv base tb) = .ref (base + sh.length) :: st.map (z_cv base tb) := by
    show Value.ref (z_ad base tb sh.length) :: _ = _
    rw [had]
  rw [es] at hk
  exact hk
theorem p_newA {mi : z_Mi} {d pc n : Nat} {lv : List (Nat × Value)} {st : List Value} {sh : z_Sh} {μ : z_M} {mc ms : Nat} {E : Option Value → z_Sh → z_M → Prop} {v : Int32} {N idx : Nat} (hd : decode mi.2.1 pc = .ok (.anewarray idx, 3)) (hw : Cond.classLink mi.1.cls idx RX4 ∈ z_tbl) (hv : v = nI N) (hN : N < 2000) (hl0 : sh.length < 1000) (hz0 : ∀ j, μ.2.2 sh.length j = none) (hmc : 1 ≤ mc) (hms : N ≤ ms) (hn : pc + 3 = n) (h : PW mi d n lv (.ref sh.length :: st) (sh ++ [(2, N)]) μ (mc - 1) (ms - N) E) : PW mi d pc lv (.int v :: st) sh μ mc ms E := by
  subst hn; subst hv
  intro p l e R s m args below meth c Q D base tb cs MC MS H locs cells slots ls hA hR hW hS hc hs hX hl
  obtain ⟨hx, hb, hml, hown, hts, hnm, hfr, hlo, hMC, hMS, hF⟩ := id hA
  refine W_sz (fun hz => ?_)
  have hsize := yq_size hF.2.1 hW hS hz hX (by omega)
  have ht := (hX (by omega)).1
  have hAO := va_AO.moved (u := s) (U := s) (Vm.Alike.refl s.vm) hF.2.2.2.2.2.1
  refine W.anew hx hb hown (hts _ hw) (va_AO.use hAO) rfl hd rfl (nI_pos (by omega)) (by rw [nI_clamp (by omega)]; omega) (by omega) (by rw [nI_clamp (by omega)]; omega) fun cA kA comp f1 f2 f3 f4 => ?_
  rw [nI_clamp (n := N) (by omega)]
  generalize hH1 : H.push ({ cls := cA, slots := Array.replicate N .null, vm := .none } : Cell) = H1
  have z1 : H1.size = base + sh.length + 1 := by rw [← hH1, Array.size_push, hsize]
  have e1 : H1[base + sh.length]? = some (arrV cA N (fun _ => .null)) := by rw [← hH1, ← hsize, Array.getElem?_push_size, ← arrV_new]
  have o1 : ∀ q : Nat, q < base + sh.length → H1[q]? = H[q]? := fun q hq => by rw [← hH1, Array.getElem?_push, if_neg (by omega)]
  have hcA : cA = cs.2.2 := by
    obtain ⟨kA', comp', g1, g2, g3, g4⟩ := (hF.1.2 2 _ rfl).2
    exact Option.some.inj (f1.symm.trans g4)
  subst hcA
  have hg := yq_grow (q := (2, N)) hW hS ht hl0 hsize (by
    show H1[base + sh.length]? = some (vp_cell _ _)
    rw [e1]
    congr 1
    show _ = vp_cell cs.2.2 (N, .inr (.inr (.inr (.inr (fun j => (μ.2.2 sh.length j).map (z_ad base tb))))))
    rw [vp_cell_q]
    congr 1
    funext j
    show Value.null = va_rf ((μ.2.2 sh.length j).map (z_ad base tb))
    rw [hz0 j]
    rfl) z1 o1
  have had : z_ad base tb sh.length = base + sh.length := z_ad_lt ht hl0
  have hk := h p l e R s m args below meth c Q D base tb cs MC MS H1 locs (cells + 1) (slots + N) ls hA hR hg.1 hg.2 (by omega) (by omega) (fun q => ⟨ht, by rw [List.length_append]; have := (hX (by omega)).2; show _ = base + (sh.length + 1); omega⟩) hl
  have es : (Value.ref sh.length :: st).map (z_cv base tb) = .ref (base + sh.length) :: st.map (z_cv base tb) := by
    show Value.ref (z_ad base tb sh.length) :: _ = _
    rw [had]
  rw [es] at hk
  rw [hsize]
  exact hk
theorem p_new {mi : z_Mi} {d pc n : Nat} {lv : List (Nat × Value)} {st : List Value} {sh : z_Sh} {μ : z_M} {mc ms : Nat} {E : Option Value → z_Sh → z_M → Prop} {ci N idx : Nat} {C : String} {T : u_T} (hd : decode mi.2.1 pc = .ok (.new idx, 3)) (hc0 : z_cl[ci]? = some (C, T, N)) (hw : Cond.classLink mi.1.cls idx C ∈ z_tbl ∧ Cond.instantiable C N ∈ z_tbl ∧ Cond.initialized C ∈ z_tbl) (hl0 : sh.length < 1000) (hzI : ∀ j, μ.1 sh.length j = 0) (hzR : ∀ j, μ.2.2 sh.length j = none) (hmc : 1 ≤ mc) (hms : N ≤ ms) (hn : pc + 3 = n) (h : PW mi d n lv (.ref sh.length :: st) (sh ++ [(ci + 3, N)]) μ (mc - 1) (ms - N) E) : PW mi d pc lv st sh μ mc ms E := by
  subst hn
  intro p l e R s m args below meth c Q D base tb cs MC MS H locs cells slots ls hA hR hW hS hc hs hX hl
  obtain ⟨hx, hb, hml, hown, hts, hnm, hfr, hlo, hMC, hMS, hF⟩ := id hA
  refine W_sz (fun hz => ?_)
  have hsize := yq_size hF.2.1 hW hS hz hX (by omega)
  have ht := (hX (by omega)).1
  obtain ⟨g1, -, g3, -⟩ := z_cls ci C T N hc0
  obtain ⟨ty0, t1, t2⟩ := yq_dflt ci C T N hc0
  have hKn := hF.1.1 ci _ hc0
  refine W.newcK hx hb hown (hts _ hw.1) (hts _ hw.2.1) (hts _ hw.2.2) rfl hd (by omega) (by omega) hKn.2.1 hsize fun H1 kC hkC e1 z1 o1 => ?_
  have hg := yq_grow (q := (ci + 3, N)) hW hS ht hl0 hsize ⟨_, hc0, (u_born ty0 hts g1 hKn hkC e1 t1).to (fun j hj => by
    rw [t2 j hj]
    show _ = (z_fs base tb μ sh.length (z_kd ci)).getD j .null
    have hj2 : j < (z_kd ci).length := by rw [g3]; exact hj
    have e0 : (z_kd ci)[j]? = some ((z_kd ci)[j]) := List.getElem?_eq_getElem hj2
    rw [List.getD_eq_getElem?_getD, List.getD_eq_getElem?_getD, z_fs_at e0, e0]
    show yq_d0 (z_kd ci)[j] = z_fv base tb μ sh.length j (z_kd ci)[j]
    generalize (z_kd ci)[j] = kd
    unfold yq_d0
    by_cases q : kd = 2
    · subst q
      rw [if_pos rfl]
      show Value.null = va_rf ((μ.2.2 sh.length j).map (z_ad base tb))
      rw [hzR j]
      rfl
    · rw [if_neg q, z_fv_i q, hzI j])⟩ z1 o1
  have had : z_ad base tb sh.length = base + sh.length := z_ad_lt ht hl0
  have hk := h p l e R s m args below meth c Q D base tb cs MC MS H1 locs (cells + 1) (slots + N) ls hA hR hg.1 hg.2 (by omega) (by omega) (fun q => ⟨ht, by rw [List.length_append]; have := (hX (by omega)).2; show _ = base + (sh.length + 1); omega⟩) hl
  have es : (Value.ref sh.length :: st).map (z_cv base tb) = .ref (base + sh.length) :: st.map (z_cv base tb) := by
    show Value.ref (z_ad base tb sh.length) :: _ = _
    rw [had]
  rw [es] at hk
  exact hk
