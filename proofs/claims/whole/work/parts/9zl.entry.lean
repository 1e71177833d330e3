/-! THE LAW'S ENTRY -/
theorem yj_entry {N d : Nat} {xs : Nat → Int32} {E : Option Value → z_Sh → z_M → Prop} (hd : 75 ≤ d) (hN : N < 2000000000) (hE : ∀ sh μ, E (some (.int 1)) sh μ) : PS (yq_G N xs) yq_law d 0 [(0, .ref 1003)] [] (SH.take 0) (fun _ _ => 0, yj_L0, fun _ _ => none) 79 5757 E := by
  have hZ0 : yq_Z 0 (fun _ _ => (0 : Int32)) yj_L0 (fun _ _ => (none : Option Nat)) := fun _ _ _ => ⟨rfl, rfl, rfl⟩
  have hZ1 : yq_Z 1 (fun _ _ => (0 : Int32)) yj_L0 (fun _ _ => (none : Option Nat)) := fun _ _ _ => ⟨rfl, rfl, rfl⟩
  have hZ54 := c_X8_init_0Z hZ1
  have hZ55 : yq_Z 55 (yq_IX8_init_0 (fun _ _ => 0)) yj_L0 (yq_RX8_init_0 (fun _ _ => none)) := fun a h => hZ54 a (by omega)
  refine ys_q_new (ci := 8) (N := 10) (mc := 78) (ms := 5747) 0 (z_dec yq_ld0 0 rfl) rfl yq_nw_L_7 yq_tl_0 (by decide) hZ0 (by decide +kernel) (n := 3) rfl ?_
  refine ys_p_dup (z_dec yq_ld0 1 rfl) rfl (n := 4) rfl ?_
  refine ys_q_callI (d2 := d - 1) (n0 := 1) (n1 := 54) (mc2 := 53) (ms2 := 3479) (mc := 25) (ms := 2268) (As := []) (z_dec yq_ld0 2 rfl) zk_L_9 rfl ⟨rfl, zi_X8_init⟩ (c_X8_init_0 (d - 1) (by omega) _ _ _ hZ1) [.ref 0] rfl rfl (by decide) (by omega) (by decide +kernel) (n := 7) rfl ?_
  refine ys_p_astore_n (z_dec yq_ld0 3 rfl) rfl (lv2 := [(1, .ref 0), (0, .ref 1003)]) (by decide) rfl (n := 8) rfl ?_
  refine ys_q_new (ci := 9) (N := 42) (mc := 24) (ms := 2226) 54 (z_dec yq_ld0 4 rfl) rfl yq_nw_L_10 yq_tl_54 (by decide) hZ54 yq_ta_54 (n := 11) rfl ?_
  refine ys_p_dup (z_dec yq_ld0 5 rfl) rfl (n := 12) rfl ?_
  refine ys_q_callI (d2 := d - 1) (n0 := 55) (n1 := 79) (mc2 := 24) (ms2 := 2226) (mc := 0) (ms := 0) (As := []) (z_dec yq_ld0 6 rfl) zk_L_12 rfl ⟨rfl, zi_X9_init⟩ (c_X9_init_54 (d - 1) (by omega) _ _ _ hZ55) [.ref 54] rfl rfl (by decide) (by omega) (by decide +kernel) (n := 15) rfl ?_
  refine ys_p_astore_n (z_dec yq_ld0 7 rfl) rfl (lv2 := [(2, .ref 54), (1, .ref 0), (0, .ref 1003)]) (by decide) rfl (n := 16) rfl ?_
  refine ys_p_iconst (z_dec yq_ld0 8 rfl) (v := 0) rfl (n := 17) rfl ?_
  refine ys_p_istore_n (z_dec yq_ld0 9 rfl) rfl (lv2 := [(3, .int 0), (2, .ref 54), (1, .ref 0), (0, .ref 1003)]) (by decide) rfl (n := 18) rfl ?_
  have e : SH.take 79 = SH := by decide +kernel
  have g := yj_head (N := N) (d := d) (xs := xs) (E := E) (by omega) hN hE N 0 false yj_I0 yj_L0 (by omega) (Nat.zero_le _) yj_B0
  rw [e, show yq_RX9_init_54 (yq_RX8_init_0 (fun _ _ => none)) = z_R false from yq_R0e]
  exact g
