/-! THE LAW'S ENTRY -/
/-- behind the constructors the cells get the numbers of the walks -/
theorem yj_perm {N d : Nat} {xs : Nat → Int32} {x : Int32} (h : PS (yq_G N xs) yq_law d 18 [(3, .int x), (2, .ref 54), (1, .ref 0), (0, .ref 1003)] [] SH (yj_I0, yj_L0, z_R false) 0 0 (fun r _ _ => r = some (.int 1))) : PS (yq_G N xs) yq_law d 18 [(3, .int x), (2, .ref 60), (1, .ref 0), (0, .ref 1003)] [] SN (yn_I0, yj_L0, yq_R0) 1 0 (fun r _ _ => r = some (.int 1)) := by
  intro p l e R s m args below meth c Q D base tb cs MC MS H locs cells slots ls hA hG hR hW hS hc hs hX hl
  have ht : tb 2000 = 0 := (hX (by decide)).1
  obtain ⟨tb', h1, h2⟩ : ∃ tb' : Nat → Nat, tb' 2000 = 1 ∧ ∀ k, k ≠ 2000 → tb' k = tb k := ⟨fun k => if k = 2000 then 1 else tb k, if_pos rfl, fun k q => if_neg q⟩
  have hA' : z_At yq_law d p R s m args meth c D base tb' cs MC MS := by
    unfold z_At z_Fx at hA ⊢
    rw [h2 1000 (by decide), h2 1001 (by decide), h2 1002 (by decide)]
    exact hA
  have hG' : yq_G N xs s base tb' := by
    unfold yq_G at hG ⊢
    rw [h2 1003 (by decide)]
    exact hG
  have hR' : z_Rt yq_law (fun r _ _ => r = some (.int 1)) p l e R s m args below meth c Q D base tb' cs MC MS := by
    intro r sh μ H locs cells slots pc ls hE hW hS hc hs hri
    have hE : r = some (.int 1) := hE
    subst hE
    exact hR (some (.int 1)) [] (fun _ _ => 0, fun _ _ => 0, fun _ _ => none) H locs cells slots pc ls rfl ⟨Nat.zero_le _, fun k q h => by simp [z_ws] at h⟩ hS hc hs hri
  have pb : ∀ k, k < 85 → z_pm 1 k < 1000 := by
    intro k hk
    simp only [z_pm]
    (repeat' split) <;> omega
  have ad : ∀ k, k < 85 → z_ad base tb' k = z_ad base tb (z_pm 1 k) := by
    intro k hk
    rw [z_ad_pm (show k < 1000 by omega), z_ad_pm (pb k hk), h1, ht]
    rfl
  have hl' : lv_has ls yq_law.2.2.1 (([(3, .int x), (2, .ref 54), (1, .ref 0), (0, .ref 1003)] : List (Nat × Value)).map (z_cw base tb')) := by
    have e3 : z_ad base tb' 1003 = z_ad base tb 1003 := h2 1003 (by decide)
    have el : ([(3, .int x), (2, .ref 54), (1, .ref 0), (0, .ref 1003)] : List (Nat × Value)).map (z_cw base tb') = ([(3, .int x), (2, .ref 60), (1, .ref 0), (0, .ref 1003)] : List (Nat × Value)).map (z_cw base tb) := by
      show [(3, Value.int x), (2, .ref (z_ad base tb' 54)), (1, .ref (z_ad base tb' 0)), (0, .ref (z_ad base tb' 1003))] = [(3, Value.int x), (2, .ref (z_ad base tb 60)), (1, .ref (z_ad base tb 0)), (0, .ref (z_ad base tb 1003))]
      rw [ad 54 (by decide), ad 0 (by decide), e3]
      rfl
    rw [el]
    exact hl
  have hW' : z_Wd D base tb' cs SH (yj_I0, yj_L0, z_R false) H := by
    refine ⟨by decide, fun k q hq => ?_⟩
    unfold z_ws at hq
    rw [List.getElem?_mapIdx] at hq
    cases hs : SH[k]? with
    | none => rw [hs] at hq; cases hq
    | some y =>
      rw [hs] at hq
      have hk : k < 85 := (List.getElem?_eq_some_iff.mp hs).1
      have hsn : SN[z_pm 1 k]? = some y := by rw [← yq_SHN k hk]; exact hs
      have g := hW.2 (z_pm 1 k) _ (z_ws_at hsn)
      have rr : ∀ j, (z_R false k j).map (z_ad base tb') = (yq_R0 (z_pm 1 k) j).map (z_ad base tb) := by
        intro j
        rw [yq_R0a k hk j]
        cases hr : z_R false k j with
        | none => rfl
        | some v => exact congrArg some (ad v (yq_Rlt k hk j v hr))
      have ce : z_ce base tb' cs (yj_I0, yj_L0, z_R false) k y = z_ce base tb cs (yn_I0, yj_L0, yq_R0) (z_pm 1 k) y := by
        obtain ⟨t, n⟩ := y
        match t with
        | 0 => rfl
        | 1 => rfl
        | 2 =>
          show Sum.inl (cs.2.2, n, _) = Sum.inl (cs.2.2, n, _)
          have f : (fun j => (z_R false k j).map (z_ad base tb')) = (fun j => (yq_R0 (z_pm 1 k) j).map (z_ad base tb)) := funext rr
          exact congrArg (fun f => (Sum.inl (cs.2.2, n, Sum.inr (Sum.inr (Sum.inr (Sum.inr f)))) : va_E)) f
        | t + 3 =>
          have f : ∀ j kd, z_fv base tb' (yj_I0, yj_L0, z_R false) k j kd = z_fv base tb (yn_I0, yj_L0, yq_R0) (z_pm 1 k) j kd := by
            intro j kd
            by_cases q2 : kd = 2
            · subst q2
              exact congrArg va_rf (rr j)
            · rw [z_fv_i q2, z_fv_i q2]
              rfl
          have f2 : z_fs base tb' (yj_I0, yj_L0, z_R false) k (z_kd t) = z_fs base tb (yn_I0, yj_L0, yq_R0) (z_pm 1 k) (z_kd t) := by
            unfold z_fs
            exact congrArg (fun g => List.mapIdx g (z_kd t)) (funext fun j => funext fun kd => f j kd)
          exact congrArg (fun v => Sum.inr (t, v)) f2
      have hq' : q = (z_ad base tb' k, z_ce base tb' cs (yj_I0, yj_L0, z_R false) k y) := (Option.some.inj hq).symm
      have e2 : (z_ad base tb' k, z_ce base tb' cs (yj_I0, yj_L0, z_R false) k y) = (z_ad base tb (z_pm 1 k), z_ce base tb cs (yn_I0, yj_L0, yq_R0) (z_pm 1 k) y) := congr (congrArg Prod.mk (ad k hk)) ce
      rw [hq', e2]
      exact g
  exact h p l e R s m args below meth c Q D base tb' cs MC MS H locs cells slots ls hA' hG' hR' hW' hS (by omega) hs (fun q => absurd rfl q) hl'
theorem yj_entry {N d : Nat} {xs : Nat → Int32} (hd : 75 ≤ d) (hN : N < 2000000000) : PS (yq_G N xs) yq_law d 0 [(0, .ref 1003)] [] (SN.take 0) (fun _ _ => 0, yj_L0, fun _ _ => none) 86 5808 (fun r _ _ => r = some (.int 1)) := by
  have hZ0 : yq_Z 0 (fun _ _ => (0 : Int32)) yj_L0 (fun _ _ => (none : Option Nat)) := fun _ _ _ => ⟨rfl, rfl, rfl⟩
  have hZ1 : yq_Z 1 (fun _ _ => (0 : Int32)) yj_L0 (fun _ _ => (none : Option Nat)) := fun _ _ _ => ⟨rfl, rfl, rfl⟩
  have hZ60 := c_X8_init_0Z hZ1
  have hZ61 : yq_Z 61 (yq_IX8_init_0 (fun _ _ => 0)) yj_L0 (yq_RX8_init_0 (fun _ _ => none)) := fun a h => hZ60 a (by omega)
  refine ys_q_new (ci := 8) (N := 10) (mc := 85) (ms := 5798) 0 (z_dec yq_ld0 0 rfl) rfl yq_nw_L_7 yq_tl_0 (by decide) hZ0 (by decide +kernel) (n := 3) rfl ?_
  refine ys_p_dup (z_dec yq_ld0 1 rfl) rfl (n := 4) rfl ?_
  refine ys_q_callI (d2 := d - 1) (n0 := 1) (n1 := 60) (mc2 := 59) (ms2 := 3530) (mc := 26) (ms := 2268) (As := []) (z_dec yq_ld0 2 rfl) zk_L_9 rfl ⟨rfl, zi_X8_init⟩ (c_X8_init_0 (d - 1) (by omega) _ _ _ hZ1) [.ref 0] rfl rfl (by decide) (by omega) (by decide +kernel) (n := 7) rfl ?_
  refine ys_p_astore_n (z_dec yq_ld0 3 rfl) rfl (lv2 := [(1, .ref 0), (0, .ref 1003)]) (by decide) rfl (n := 8) rfl ?_
  refine ys_q_new (ci := 9) (N := 42) (mc := 25) (ms := 2226) 60 (z_dec yq_ld0 4 rfl) rfl yq_nw_L_10 yq_tl_60 (by decide) hZ60 yq_ta_60 (n := 11) rfl ?_
  refine ys_p_dup (z_dec yq_ld0 5 rfl) rfl (n := 12) rfl ?_
  refine ys_q_callI (d2 := d - 1) (n0 := 61) (n1 := 85) (mc2 := 24) (ms2 := 2226) (mc := 1) (ms := 0) (As := []) (z_dec yq_ld0 6 rfl) zk_L_12 rfl ⟨rfl, zi_X9_init⟩ (c_X9_init_60 (d - 1) (by omega) _ _ _ hZ61) [.ref 60] rfl rfl (by decide) (by omega) (by decide +kernel) (n := 15) rfl ?_
  refine ys_p_astore_n (z_dec yq_ld0 7 rfl) rfl (lv2 := [(2, .ref 60), (1, .ref 0), (0, .ref 1003)]) (by decide) rfl (n := 16) rfl ?_
  refine ys_p_iconst (z_dec yq_ld0 8 rfl) (v := 0) rfl (n := 17) rfl ?_
  refine ys_p_istore_n (z_dec yq_ld0 9 rfl) rfl (lv2 := [(3, .int 0), (2, .ref 60), (1, .ref 0), (0, .ref 1003)]) (by decide) rfl (n := 18) rfl ?_
  have e : SN.take 85 = SN := by decide +kernel
  have g := yj_head (N := N) (d := d) (xs := xs) (E := fun r _ _ => r = some (.int 1)) (by omega) hN (fun _ _ => rfl) N 0 false yj_I0 yj_L0 (by omega) (Nat.zero_le _) yj_B0
  rw [e]
  exact yj_perm g
