theorem yq_oi : Cond.instanceMethod Lib.objectInit ∈ z_tbl ∧ Cond.code Lib.objectInit ⟨#[0xb1]⟩ 1 none ∈ z_tbl := ⟨z_in 87 (by decide +kernel) (by decide +kernel), z_in 88 (by decide +kernel) (by decide +kernel)⟩
theorem yq_ai : Cond.arrayClass .int ∈ z_tbl := z_in 131 (by decide +kernel) (by decide +kernel)
theorem yq_al : Cond.arrayClass .long ∈ z_tbl := z_in 214 (by decide +kernel) (by decide +kernel)
theorem yq_nw_X8_7 : Cond.classLink RX8 7 RX7 ∈ z_tbl ∧ Cond.instantiable RX7 8 ∈ z_tbl ∧ Cond.initialized RX7 ∈ z_tbl := ⟨z_in 89 (by decide +kernel) (by decide +kernel), z_in 90 (by decide +kernel) (by decide +kernel), z_in 69 (by decide +kernel) (by decide +kernel)⟩
theorem yq_nw_X8_23 : Cond.classLink RX8 23 RX1 ∈ z_tbl ∧ Cond.instantiable RX1 9 ∈ z_tbl ∧ Cond.initialized RX1 ∈ z_tbl := ⟨z_in 132 (by decide +kernel) (by decide +kernel), z_in 133 (by decide +kernel) (by decide +kernel), z_in 70 (by decide +kernel) (by decide +kernel)⟩
theorem yq_nw_X8_30 : Cond.classLink RX8 30 RX3 ∈ z_tbl ∧ Cond.instantiable RX3 4 ∈ z_tbl ∧ Cond.initialized RX3 ∈ z_tbl := ⟨z_in 167 (by decide +kernel) (by decide +kernel), z_in 168 (by decide +kernel) (by decide +kernel), z_in 71 (by decide +kernel) (by decide +kernel)⟩
theorem yq_nw_X3_9 : Cond.classLink RX3 9 RX7 ∈ z_tbl ∧ Cond.instantiable RX7 8 ∈ z_tbl ∧ Cond.initialized RX7 ∈ z_tbl := ⟨z_in 173 (by decide +kernel) (by decide +kernel), z_in 90 (by decide +kernel) (by decide +kernel), z_in 69 (by decide +kernel) (by decide +kernel)⟩
theorem yq_nw_X8_37 : Cond.classLink RX8 37 RX2 ∈ z_tbl ∧ Cond.instantiable RX2 5 ∈ z_tbl ∧ Cond.initialized RX2 ∈ z_tbl := ⟨z_in 192 (by decide +kernel) (by decide +kernel), z_in 193 (by decide +kernel) (by decide +kernel), z_in 72 (by decide +kernel) (by decide +kernel)⟩
theorem yq_nw_X8_44 : Cond.classLink RX8 44 RX6 ∈ z_tbl ∧ Cond.instantiable RX6 4 ∈ z_tbl ∧ Cond.initialized RX6 ∈ z_tbl := ⟨z_in 215 (by decide +kernel) (by decide +kernel), z_in 216 (by decide +kernel) (by decide +kernel), z_in 73 (by decide +kernel) (by decide +kernel)⟩
theorem yq_nw_X6_9 : Cond.classLink RX6 9 RX7 ∈ z_tbl ∧ Cond.instantiable RX7 8 ∈ z_tbl ∧ Cond.initialized RX7 ∈ z_tbl := ⟨z_in 221 (by decide +kernel) (by decide +kernel), z_in 90 (by decide +kernel) (by decide +kernel), z_in 69 (by decide +kernel) (by decide +kernel)⟩
theorem yq_nw_X8_51 : Cond.classLink RX8 51 RX0 ∈ z_tbl ∧ Cond.instantiable RX0 6 ∈ z_tbl ∧ Cond.initialized RX0 ∈ z_tbl := ⟨z_in 236 (by decide +kernel) (by decide +kernel), z_in 237 (by decide +kernel) (by decide +kernel), z_in 74 (by decide +kernel) (by decide +kernel)⟩
theorem yq_nw_X8_58 : Cond.classLink RX8 58 RX5 ∈ z_tbl ∧ Cond.instantiable RX5 5 ∈ z_tbl ∧ Cond.initialized RX5 ∈ z_tbl := ⟨z_in 263 (by decide +kernel) (by decide +kernel), z_in 264 (by decide +kernel) (by decide +kernel), z_in 75 (by decide +kernel) (by decide +kernel)⟩
theorem yq_nw_X8_65 : Cond.classLink RX8 65 RX4 ∈ z_tbl ∧ Cond.instantiable RX4 4 ∈ z_tbl ∧ Cond.initialized RX4 ∈ z_tbl := ⟨z_in 288 (by decide +kernel) (by decide +kernel), z_in 290 (by decide +kernel) (by decide +kernel), z_in 76 (by decide +kernel) (by decide +kernel)⟩
theorem yq_nw_L_7 : Cond.classLink RL 7 RX8 ∈ z_tbl ∧ Cond.instantiable RX8 10 ∈ z_tbl ∧ Cond.initialized RX8 ∈ z_tbl := ⟨z_in 81 (by decide +kernel) (by decide +kernel), z_in 82 (by decide +kernel) (by decide +kernel), z_in 68 (by decide +kernel) (by decide +kernel)⟩
theorem yq_nw_L_10 : Cond.classLink RL 10 RX9 ∈ z_tbl ∧ Cond.instantiable RX9 42 ∈ z_tbl ∧ Cond.initialized RX9 ∈ z_tbl := ⟨z_in 908 (by decide +kernel) (by decide +kernel), z_in 909 (by decide +kernel) (by decide +kernel), z_in 77 (by decide +kernel) (by decide +kernel)⟩
theorem p_objI {mi : z_Mi} {d pc n : Nat} {lv : List (Nat × Value)} {st : List Value} {sh : z_Sh} {μ : z_M} {mc ms : Nat} {E : Option Value → z_Sh → z_M → Prop} {k idx : Nat} (hd : decode mi.2.1 pc = .ok (.invokespecial idx, 3)) (hlk : Cond.methodLink mi.1.cls idx Lib.objectInit ∈ z_tbl) (hdd : 1 ≤ d) (hrest : (st.map fun v => v.category).sum ≤ 8) (hn : pc + 3 = n) (h : PW mi d n lv st sh μ mc ms E) : PW mi d pc lv (.ref k :: st) sh μ mc ms E := by
  subst hn
  intro p l e R s m args below meth c Q D base tb cs MC MS H locs cells slots ls hA hR hW hS hc hs hX hl
  obtain ⟨hx, hb, hml, hown, hts, hnm, hfr, hlo, hMC, hMS, hF⟩ := id hA
  refine W.objInit hx hb hown (hts _ hlk) (hts _ yq_oi.1) (hts _ yq_oi.2) rfl (hl.1.trans hml.symm) rfl hd (by omega) ?_ (h p l e R s m args below meth c Q D base tb cs MC MS H locs cells slots ls hA hR hW hS hc hs hX hl)
  show 2 * 0 + _ + 12 ≤ _
  rw [z_rest]
  omega
/-- what the tables say of a nest mate's constructor -/
def yq_lN (own : String) (idx : Nat) (mi2 : z_Mi) (nn : Nat) : Prop := (own, idx, mi2.1, RX8) ∈ z_nst ∧ Cond.initialized mi2.1.cls ∈ z_tbl ∧ Cond.code mi2.1 mi2.2.1 mi2.2.2.1 mi2.2.2.2 ∈ z_tbl ∧ (mi2.1.cls ≠ "java/lang/invoke/MethodHandle" ∧ mi2.1.cls ≠ "java/lang/invoke/VarHandle") ∧ (parseMethodDescriptor mi2.1.desc).map (fun d => d.parameters.length) = some nn ∧ mi2.2.2.1 ≤ 41
theorem p_callIN {mi : z_Mi} {d pc n : Nat} {lv : List (Nat × Value)} {st : List Value} {sh : z_Sh} {μ : z_M} {mc ms : Nat} {E : Option Value → z_Sh → z_M → Prop} {mi2 : z_Mi} {d2 idx mc2 ms2 nn : Nat} {As rest : List Value} {E2 : Option Value → z_Sh → z_M → Prop} {k : Nat} (hd : decode mi.2.1 pc = .ok (.invokespecial idx, 3)) (hlk : yq_lN mi.1.cls idx mi2 nn) (hv : mi2.2.2.2 = none) (hin : mi2.1.name = "<init>" ∧ Cond.instanceMethod mi2.1 ∈ z_tbl) (hct : z_CT mi2 d2 (.ref k :: As) sh μ mc2 ms2 E2) (hst : st = As.reverse ++ .ref k :: rest) (hnn : As.length = nn) (hrest : (rest.map fun v => v.category).sum ≤ 8) (hdd : d2 + 1 ≤ d) (hmc : mc2 ≤ mc) (hms : ms2 ≤ ms) (hlen : ∀ r sh' μ', E2 r sh' μ' → sh'.length = sh.length + mc2) (hn : pc + 3 = n) (h : ∀ r sh' μ', E2 r sh' μ' → PW mi d n lv (r.toList ++ rest) sh' μ' (mc - mc2) (ms - ms2) E) : PW mi d pc lv st sh μ mc ms E := by
  subst hn
  subst hst
  intro p l e R s m args below meth c Q D base tb cs MC MS H locs cells slots ls hA hR hW hS hc hs hX hl
  obtain ⟨hx, hb, hml, hown, hts, hnm, hfr, hlo, hMC, hMS, hF⟩ := id hA
  refine W_sz (fun hz => ?_)
  have hp := z_pre (mc2 := mc2) (.ref k :: As) hF hW hS hz hX hc hmc
  obtain ⟨g1, g2, g3, g4, g5, g6⟩ := hlk
  rw [hv] at g3
  have hcb : va_CN R s args mi.1.cls idx mi2.1 RX8 mi2.2.1 mi2.2.2.1 none (z_w (mi2.1, mi2.2.1, mi2.2.2.1, none)) { frames := d2, cells := mc2, slots := ms2, locals := 60 * d2 } mc2 ms2 nn := by
    refine va_cnB (ws' := z_tbl) nn hts (fun w hw => ?_) rfl rfl rfl (hF.2.2.2.2.2.2 _ g1) (hts _ g2) ⟨g4.1, g4.2, g5⟩ ⟨by show d2 + 1 ≤ _; omega, by show 8 + (mi2.2.2.1 + 11) + 60 * d2 ≤ _; omega⟩
    rcases List.mem_cons.mp hw with e | hw
    · rw [e]; exact ⟨g3, z_gw _ g3⟩
    · exact ⟨hw, z_gw _ hw⟩
  have hmi : (mi2.1, mi2.2.1, mi2.2.2.1, (none : Option FieldType)) = mi2 := by rw [← hv]
  have hct2 := hct l D base tb cs
  rw [← hmi] at hct2
  have hr := va_runIN (As := As.map (z_cv base tb)) (rest := rest.map (z_cv base tb)) (b := z_ad base tb k) (locs := locs) (cells := cells) (slots := slots) (meth := meth) (e := e) (below := below) (g := F0 m pc ls ((As.reverse ++ .ref k :: rest).map (z_cv base tb))) ⟨hx, hb, hml, hown, hts⟩ hct2 ⟨hcb, hin.1, hts _ hin.2⟩ hp rfl (by rw [List.length_map]; exact hnn) hl.1 (by show List.map _ _ = _; rw [List.map_append, List.map_reverse]; rfl) (lv_room (by rw [z_rest]; exact hrest)) hd ⟨by omega, by omega⟩
  exact z_call hr hS (fun r sh' μ' H1 locs1 hE hW1 hS1 => by
    rw [z_rl]
    exact h r sh' μ' hE p l e R s m args below meth c Q D base tb cs MC MS H1 locs1 (cells + mc2) (slots + ms2) ls hA hR hW1 hS1 (by omega) (by omega) (fun q => by have g := hX (by omega); have := hlen r sh' μ' hE; exact ⟨g.1, by omega⟩) hl)
theorem p_aast {mi : z_Mi} {d pc n : Nat} {lv : List (Nat × Value)} {st : List Value} {sh : z_Sh} {μ : z_M} {mc ms : Nat} {E : Option Value → z_Sh → z_M → Prop} {k N v ci M : Nat} {i : Int32} {T : u_T} {Nf : Nat} (hd : decode mi.2.1 pc = .ok (.aastore, 1)) (hk : sh[k]? = some (2, N)) (hv : sh[v]? = some (ci + 3, M)) (hc4 : z_cl[ci]? = some (RX4, T, Nf)) (hN : N < 2000) (j : Nat) (hi : i = nI j) (hj : j < N) (hn : pc + 1 = n) (h : PW mi d n lv st sh (μ.1, μ.2.1, z_up μ.2.2 k j (some v)) mc ms E) : PW mi d pc lv (.ref v :: .int i :: .ref k :: st) sh μ mc ms E := by
  subst hn
  obtain ⟨hi1, hi2⟩ := z_nI hi hj hN
  intro p l e R s m args below meth c Q D base tb cs MC MS H locs cells slots ls hA hR hW hS hc hs hX hl
  refine va_astq hA.1 hA.2.1 hA.2.2.2.2.2.2.2.2.2.2.1 hW.2 (z_D hW.1) hS k 2 v ci (z_ws_at hk) rfl (z_ws_at hv) hc4 hi1 hd (fun H1 locs1 hP1 _ hS1 => ?_)
  refine h p l e R s m args below meth c Q D base tb cs MC MS H1 locs1 cells slots ls hA hR ⟨hW.1, ?_⟩ hS1 hc hs hX hl
  rw [← z_ws_set (μ := μ) (μ' := (μ.1, μ.2.1, z_up μ.2.2 k j (some v))) hk (fun a ha => ⟨rfl, rfl, z_up_r _ _ ha⟩)]
  have e : (fun x => ((z_up μ.2.2 k j (some v)) k x).map (z_ad base tb)) = va_up (fun x => (μ.2.2 k x).map (z_ad base tb)) i.toNatClampNeg (some (z_ad base tb v)) := by
    funext x
    rw [hi2]
    unfold va_up
    by_cases q : x = j
    · subst q; rw [z_up_s, if_pos rfl]; rfl
    · rw [z_up_j _ _ q, if_neg q]
  show va_P D z_cl ((z_ws base tb cs sh μ).set k (z_ad base tb k, .inl (cs.2.2, N, .inr (.inr (.inr (.inr (fun x => ((z_up μ.2.2 k j (some v)) k x).map (z_ad base tb)))))))) H1
  rw [e]
  exact hP1
