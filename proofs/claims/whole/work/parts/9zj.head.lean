/-! THE LAW'S LOOP, its head -/
theorem yj_head {N d : Nat} {xs : Nat → Int32} {E : Option Value → z_Sh → z_M → Prop} (hd : 74 ≤ d) (hN : N < 2000000000) (hE : ∀ sh μ, E (some (.int 1)) sh μ) : ∀ (m k : Nat) (b : Bool) (I : Nat → Nat → Int32) (L : Nat → Nat → Int64), N ≤ k + m → k ≤ N → yj_B b I I L L → PS (yq_G N xs) yq_law d 18 [(3, .int (nI k)), (2, .ref 54), (1, .ref 0), (0, .ref 1003)] [] SH (I, L, z_R b) 0 0 E := by
  intro m
  induction m using Nat.strongRecOn with
  | _ m ih =>
    intro k b I L hm hk hB
    refine ys_p_iload_n (z_dec yq_ld0 10 rfl) rfl 0 rfl (n := 19) rfl ?_
    refine ys_p_aload_n (z_dec yq_ld0 11 rfl) rfl 3 rfl (n := 20) rfl ?_
    refine ys_slen (z_dec yq_ld0 12 rfl) (n := 21) rfl ?_
    refine ys_p_bipush (z_dec yq_ld0 13 rfl) (v := 6) rfl (n := 23) rfl ?_
    refine ys_p_isub (z_dec yq_ld0 14 rfl) (n := 24) rfl ?_
    have e6 : (Int32.ofNat N - 6).toInt = (N : Int) - 6 := by
      show (nI N - 6).toInt = _
      rw [Int32.toInt_sub, nI_toInt (by omega), show (6 : Int32).toInt = 6 from rfl]
      exact Int.bmod_eq_of_le (by omega) (by omega)
    refine ys_p_icmp_gt (z_dec yq_ld0 15 rfl) (t := 1370) rfl (n := 27) rfl (fun hg => ?_) (fun hg => ?_)
    · refine ys_p_iconst (z_dec yq_ld15 44 rfl) (v := 1) rfl (n := 1371) rfl ?_
      exact ys_p_zret (z_dec yq_ld15 45 rfl) rfl (Or.inr rfl) (hE _ _)
    · have lt : k + 5 < N := by
        rw [Int32.lt_iff_toInt_lt, e6, nI_toInt (by omega)] at hg
        omega
      refine ys_p_aload_n (z_dec yq_ld0 16 rfl) rfl 3 rfl (n := 28) rfl ?_
      refine ys_p_iload_n (z_dec yq_ld0 17 rfl) rfl 0 rfl (n := 29) rfl ?_
      have v0 := yj_vp (N := N) (k := k) (j := 0) (by omega) hN
      rw [show nI k + nI 0 = nI k from nI_add k 0] at v0
      refine ys_sld (z_dec yq_ld0 18 rfl) v0 (n := 30) rfl ?_
      refine ys_p_bipush (z_dec yq_ld0 19 rfl) (v := 63) rfl (n := 32) rfl ?_
      refine ys_p_iand (z_dec yq_ld0 20 rfl) (n := 33) rfl ?_
      obtain ⟨c, c1, c2⟩ := yq_63 (xs (nI k).toNatClampNeg)
      rw [c2]
      refine yj_case hd hN lt hB ?_ c c1
      intro b' I' L' hB'
      refine ys_p_iinc (z_dec yq_ld15 42 rfl) 0 rfl (v := nI (k + 6)) (nI_add k 6) (lv2 := [(3, .int (nI (k + 6))), (2, .ref 54), (1, .ref 0), (0, .ref 1003)]) (by decide) rfl (n := 1367) rfl ?_
      refine ys_p_goto (z_dec yq_ld15 43 rfl) (t := 18) rfl ?_
      exact ih (m - 1) (by omega) (k + 6) b' I' L' (by omega) (by omega) hB'
