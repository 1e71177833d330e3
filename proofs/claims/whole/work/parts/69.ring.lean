/-- how many players the reference has -/
def z_N (np : Nat) (I : Nat → Nat → Int32) : Prop := I 54 6 = nI np
theorem z_Nu {np : Nat} {I : Nat → Nat → Int32} (h : z_N np I) {k : Nat} (hk : k ≠ 54) (j : Nat) (v : Int32) : z_N np (z_up I k j v) := (z_up_k _ _ (fun q => hk q.symm)).trans h
theorem z_Nu2 {np : Nat} {I : Nat → Nat → Int32} (h : z_N np I) {j : Nat} (hj : j ≠ 6) (v : Int32) : z_N np (z_up I 54 j v) := (z_up_j _ _ (fun q => hj q.symm)).trans h
def gb_X9_takesResults_2 (I : Nat → Nat → Int32) (i2 : Nat) (s : (Nat → Nat → Int32)) : (Nat → Nat → Int32) := (z_up s 67 i2 0)
def g_X9_takesResults_2 (I : Nat → Nat → Int32) : Nat → (Nat → Nat → Int32)
  | 0 => I
  | i2 + 1 => gb_X9_takesResults_2 I i2 (g_X9_takesResults_2 I i2)
def gx_X9_takesResults_23 (L : Nat → Nat → Int64) (np : Nat) (sh : Nat) : Nat → Nat → (Nat → Nat → Int32) → (Nat → Nat → Int32)
  | 0, t23, Iv => Iv
  | r23 + 1, t23, Iv => if (Iv 76 sh) ≤ ((2 * (nI t23)) + 1) then Iv else if (f_X9_isOne np (L 77 ((60 * sh) + (2 * t23)))) = 0 then gx_X9_takesResults_23 L np sh r23 (t23 + 1) Iv else if (f_X9_isOne np (L 77 (((60 * sh) + (2 * t23)) + 1))) = 0 then gx_X9_takesResults_23 L np sh r23 (t23 + 1) Iv else if (lg_cmp (L 77 ((60 * sh) + (2 * t23))) (L 77 (((60 * sh) + (2 * t23)) + 1))) = 0 then gx_X9_takesResults_23 L np sh r23 (t23 + 1) Iv else gx_X9_takesResults_23 L np sh r23 (t23 + 1) (z_up Iv 67 ((10 * (((L 77 ((60 * sh) + (2 * t23))).toInt32).toNatClampNeg)) + (((L 77 (((60 * sh) + (2 * t23)) + 1)).toInt32).toNatClampNeg)) ((Iv 67 ((10 * (((L 77 ((60 * sh) + (2 * t23))).toInt32).toNatClampNeg)) + (((L 77 (((60 * sh) + (2 * t23)) + 1)).toInt32).toNatClampNeg))) + 1))
def m_X9_takesResults (I : Nat → Nat → Int32) (L : Nat → Nat → Int64) (np : Nat) (sh : Nat) : Nat → Nat → Int32 := (gx_X9_takesResults_23 L np sh 20 0 (g_X9_takesResults_2 I 100))
theorem z_NG2 {np : Nat} {I : Nat → Nat → Int32} (h : z_N np I) : ∀ i, z_N np (g_X9_takesResults_2 I i)
  | 0 => h
  | i + 1 => z_Nu (z_NG2 h i) (by decide) _ _
set_option maxHeartbeats 1000000 in
set_option maxRecDepth 100000 in
theorem c_X9_takesResults (d : Nat) (hd : 2 ≤ d) (b : Bool) (I : Nat → Nat → Int32) (L : Nat → Nat → Int64) (np : Nat) (hn10 : np ≤ 10) (hN : z_N np I) (sh : Nat) (hsh : sh < 6) : z_CT zm_X9_takesResults d [.ref 54, .int (nI sh)] SH (I, L, z_R b) 0 0 (z_ret (none) ((m_X9_takesResults I L np sh), L, z_R b)) := by
  refine z_enter (by decide +kernel) (Nat.le_of_ble_eq_true rfl) ?_
  have hentry : PW zm_X9_takesResults d 0 [(0, .ref 54), (1, .int (nI sh))] [] SH (I, L, z_R b) 0 0 (z_ret (none) ((m_X9_takesResults I L np sh), L, z_R b)) := by
    refine p_iconst (z_dec zd_X9_takesResults 0 rfl) (v := 0) (by decide) (n := 1) rfl ?_
    refine p_istore_n (z_dec zd_X9_takesResults 1 rfl) rfl (lv2 := [(2, .int 0), (0, .ref 54), (1, .int (nI sh))]) (by decide) rfl (n := 2) rfl ?_
    have hL2 : ∀ i2, i2 ≤ 100 → PW zm_X9_takesResults d 2 [(2, .int (nI i2)), (0, .ref 54), (1, .int (nI sh))] [] SH ((g_X9_takesResults_2 I i2), L, z_R b) 0 0 (z_ret (none) ((m_X9_takesResults I L np sh), L, z_R b)) := by
      refine z_down 100 (fun i2 hi2 ih2 => ?_)
      refine p_iload_n (z_dec zd_X9_takesResults 2 rfl) rfl 0 rfl (n := 3) rfl ?_
      refine p_bipush (z_dec zd_X9_takesResults 3 rfl) (v := 100) (by decide) (n := 5) rfl ?_
      refine p_icmp_ge (z_dec zd_X9_takesResults 4 rfl) (t := 21) (by decide) (n := 8) rfl (fun h5 => ?_) (fun h5 => ?_)
      · have hx2 : i2 = 100 := by have := z_ge (a := 100) h5; omega
        rw [hx2]
        refine p_iconst (z_dec zd_X9_takesResults 12 rfl) (v := 0) (by decide) (n := 22) rfl ?_
        refine p_istore_n (z_dec zd_X9_takesResults 13 rfl) rfl (lv2 := [(2, .int 0), (0, .ref 54), (1, .int (nI sh))]) (by decide) rfl (n := 23) rfl ?_
        have hL23 : ∀ (r23 t23 : Nat) (Iv : Nat → Nat → Int32), t23 + r23 = 20 → z_N np Iv → PW zm_X9_takesResults d 23 [(2, .int (nI t23)), (0, .ref 54), (1, .int (nI sh))] [] SH (Iv, L, z_R b) 0 0 (z_ret (none) ((gx_X9_takesResults_23 L np sh r23 t23 Iv), L, z_R b)) := by
          intro r23
          induction r23 with
          | zero =>
            intro t23 Iv ht23 hlo
            skip
            refine p_iload_n (z_dec zd_X9_takesResults 14 rfl) rfl 0 rfl (n := 24) rfl ?_
            refine p_bipush (z_dec zd_X9_takesResults 15 rfl) (v := 20) (by decide) (n := 26) rfl ?_
            refine p_icmp_ge (z_dec zd_X9_takesResults 16 rfl) (t := 122) (by decide) (n := 29) rfl (fun h26 => ?_) (fun h26 => ?_)
            · exact p_vret (z_dec zd_X9_takesResults 79 rfl) rfl ⟨rfl, rfl, (z_3 rfl rfl)⟩
            · exact absurd (z_nge (a := 20) h26) (by omega)
          | succ r23 ih23 =>
            intro t23 Iv ht23 hlo
            skip
            refine p_iload_n (z_dec zd_X9_takesResults 14 rfl) rfl 0 rfl (n := 24) rfl ?_
            refine p_bipush (z_dec zd_X9_takesResults 15 rfl) (v := 20) (by decide) (n := 26) rfl ?_
            refine p_icmp_ge (z_dec zd_X9_takesResults 16 rfl) (t := 122) (by decide) (n := 29) rfl (fun h26 => ?_) (fun h26 => ?_)
            · exact absurd (z_ge (a := 20) h26) (by omega)
            · have hx23 : t23 < 20 := by omega
              refine p_iconst (z_dec zd_X9_takesResults 17 rfl) (v := 2) (by decide) (n := 30) rfl ?_
              refine p_iload_n (z_dec zd_X9_takesResults 18 rfl) rfl 0 rfl (n := 31) rfl ?_
              refine p_imul (z_dec zd_X9_takesResults 19 rfl) (n := 32) rfl ?_
              refine p_iconst (z_dec zd_X9_takesResults 20 rfl) (v := 1) (by decide) (n := 33) rfl ?_
              refine p_iadd (z_dec zd_X9_takesResults 21 rfl) (n := 34) rfl ?_
              refine p_aload_n (z_dec zd_X9_takesResults 22 rfl) rfl 1 rfl (n := 35) rfl ?_
              refine q_getR (z_dec zd_X9_takesResults 23 rfl) zf_X9_73 (i := 76) rfl rfl (n := 38) rfl ?_
              refine p_iload_n (z_dec zd_X9_takesResults 24 rfl) rfl 2 rfl (n := 39) rfl ?_
              refine q_iald (z_dec zd_X9_takesResults 25 rfl) rfl (by decide) (sh) rfl (by omega) (v := (Iv 76 sh)) rfl (n := 40) rfl ?_
              refine p_icmp_ge (z_dec zd_X9_takesResults 26 rfl) (t := 122) (by decide) (n := 43) rfl (fun h40 => ?_) (fun h40 => ?_)
              · exact p_vret (z_dec zd_X9_takesResults 79 rfl) rfl ⟨rfl, rfl, (z_3 (by (conv => rhs; unfold gx_X9_takesResults_23); rw [if_pos h40]) rfl)⟩
              · refine p_aload_n (z_dec zd_X9_takesResults 27 rfl) rfl 1 rfl (n := 44) rfl ?_
                refine q_getR (z_dec zd_X9_takesResults 28 rfl) zf_X9_76 (i := 77) rfl rfl (n := 47) rfl ?_
                refine p_bipush (z_dec zd_X9_takesResults 29 rfl) (v := 60) (by decide) (n := 49) rfl ?_
                refine p_iload_n (z_dec zd_X9_takesResults 30 rfl) rfl 2 rfl (n := 50) rfl ?_
                refine p_imul (z_dec zd_X9_takesResults 31 rfl) (n := 51) rfl ?_
                refine p_iconst (z_dec zd_X9_takesResults 32 rfl) (v := 2) (by decide) (n := 52) rfl ?_
                refine p_iload_n (z_dec zd_X9_takesResults 33 rfl) rfl 0 rfl (n := 53) rfl ?_
                refine p_imul (z_dec zd_X9_takesResults 34 rfl) (n := 54) rfl ?_
                refine p_iadd (z_dec zd_X9_takesResults 35 rfl) (n := 55) rfl ?_
                refine q_lald (z_dec zd_X9_takesResults 36 rfl) rfl (by decide) ((60 * sh) + (2 * t23)) (z_addE (z_mulE rfl rfl) (z_mulE rfl rfl)) (by omega) (v := (L 77 ((60 * sh) + (2 * t23)))) rfl (n := 56) rfl ?_
                refine p_lstore_n (z_dec zd_X9_takesResults 37 rfl) rfl (lv2 := [(3, .long (L 77 ((60 * sh) + (2 * t23)))), (2, .int (nI t23)), (0, .ref 54), (1, .int (nI sh))]) (by decide) rfl (n := 57) rfl ?_
                refine p_aload_n (z_dec zd_X9_takesResults 38 rfl) rfl 2 rfl (n := 58) rfl ?_
                refine q_getR (z_dec zd_X9_takesResults 39 rfl) zf_X9_76 (i := 77) rfl rfl (n := 61) rfl ?_
                refine p_bipush (z_dec zd_X9_takesResults 40 rfl) (v := 60) (by decide) (n := 63) rfl ?_
                refine p_iload_n (z_dec zd_X9_takesResults 41 rfl) rfl 3 rfl (n := 64) rfl ?_
                refine p_imul (z_dec zd_X9_takesResults 42 rfl) (n := 65) rfl ?_
                refine p_iconst (z_dec zd_X9_takesResults 43 rfl) (v := 2) (by decide) (n := 66) rfl ?_
                refine p_iload_n (z_dec zd_X9_takesResults 44 rfl) rfl 1 rfl (n := 67) rfl ?_
                refine p_imul (z_dec zd_X9_takesResults 45 rfl) (n := 68) rfl ?_
                refine p_iadd (z_dec zd_X9_takesResults 46 rfl) (n := 69) rfl ?_
                refine p_iconst (z_dec zd_X9_takesResults 47 rfl) (v := 1) (by decide) (n := 70) rfl ?_
                refine p_iadd (z_dec zd_X9_takesResults 48 rfl) (n := 71) rfl ?_
                refine q_lald (z_dec zd_X9_takesResults 49 rfl) rfl (by decide) (((60 * sh) + (2 * t23)) + 1) (z_addE (z_addE (z_mulE rfl rfl) (z_mulE rfl rfl)) rfl) (by omega) (v := (L 77 (((60 * sh) + (2 * t23)) + 1))) rfl (n := 72) rfl ?_
                refine p_lstore (z_dec zd_X9_takesResults 50 rfl) (lv2 := [(5, .long (L 77 (((60 * sh) + (2 * t23)) + 1))), (3, .long (L 77 ((60 * sh) + (2 * t23)))), (2, .int (nI t23)), (0, .ref 54), (1, .int (nI sh))]) (by decide) rfl (n := 74) rfl ?_
                refine p_aload_n (z_dec zd_X9_takesResults 51 rfl) rfl 3 rfl (n := 75) rfl ?_
                refine p_lload_n (z_dec zd_X9_takesResults 52 rfl) rfl 1 rfl (n := 76) rfl ?_
                refine q_callV (As := [.long (L 77 ((60 * sh) + (2 * t23)))]) (rest := []) (z_dec zd_X9_takesResults 53 rfl) zk_X9_121 zv_X9_isOne (c_X9_isOne (d - 1) (by omega) b Iv L np hlo hn10 (L 77 ((60 * sh) + (2 * t23)))) rfl ⟨_, _, rfl⟩ rfl rfl (Nat.le_of_ble_eq_true rfl) (by omega) (n := 79) rfl ?_
                show PW zm_X9_takesResults d 79 [(5, .long (L 77 (((60 * sh) + (2 * t23)) + 1))), (3, .long (L 77 ((60 * sh) + (2 * t23)))), (2, .int (nI t23)), (0, .ref 54), (1, .int (nI sh))] [.int (f_X9_isOne np (L 77 ((60 * sh) + (2 * t23))))] SH (Iv, L, z_R b) 0 0 _
                refine p_if_eq (z_dec zd_X9_takesResults 54 rfl) (t := 116) (by decide) (n := 82) rfl (fun h79 => ?_) (fun h79 => ?_)
                · refine p_iinc (z_dec zd_X9_takesResults 77 rfl) 2 rfl (v := (nI (t23 + 1))) (nI_1 _) (lv2 := [(2, .int (nI (t23 + 1))), (5, .long (L 77 (((60 * sh) + (2 * t23)) + 1))), (3, .long (L 77 ((60 * sh) + (2 * t23)))), (0, .ref 54), (1, .int (nI sh))]) (by decide) rfl (n := 119) rfl ?_
                  refine p_goto (z_dec zd_X9_takesResults 78 rfl) (t := 23) (by decide) ?_
                  refine z_sub (lv' := [(2, .int (nI (t23 + 1))), (0, .ref 54), (1, .int (nI sh))]) [0, 3, 4] rfl ?_
                  rw [show gx_X9_takesResults_23 L np sh (r23 + 1) t23 Iv = gx_X9_takesResults_23 L np sh r23 (t23 + 1) Iv from by (conv => lhs; unfold gx_X9_takesResults_23); rw [if_neg h40, if_pos h79]]
                  exact ih23 (t23 + 1) Iv (by omega) hlo
                · have hj1 := z_oneL hn10 h79
                  refine p_aload_n (z_dec zd_X9_takesResults 55 rfl) rfl 3 rfl (n := 83) rfl ?_
                  refine p_lload (z_dec zd_X9_takesResults 56 rfl) 0 rfl (n := 85) rfl ?_
                  refine q_callV (As := [.long (L 77 (((60 * sh) + (2 * t23)) + 1))]) (rest := []) (z_dec zd_X9_takesResults 57 rfl) zk_X9_121 zv_X9_isOne (c_X9_isOne (d - 1) (by omega) b Iv L np hlo hn10 (L 77 (((60 * sh) + (2 * t23)) + 1))) rfl ⟨_, _, rfl⟩ rfl rfl (Nat.le_of_ble_eq_true rfl) (by omega) (n := 88) rfl ?_
                  show PW zm_X9_takesResults d 88 [(5, .long (L 77 (((60 * sh) + (2 * t23)) + 1))), (3, .long (L 77 ((60 * sh) + (2 * t23)))), (2, .int (nI t23)), (0, .ref 54), (1, .int (nI sh))] [.int (f_X9_isOne np (L 77 (((60 * sh) + (2 * t23)) + 1)))] SH (Iv, L, z_R b) 0 0 _
                  refine p_if_eq (z_dec zd_X9_takesResults 58 rfl) (t := 116) (by decide) (n := 91) rfl (fun h88 => ?_) (fun h88 => ?_)
                  · refine p_iinc (z_dec zd_X9_takesResults 77 rfl) 2 rfl (v := (nI (t23 + 1))) (nI_1 _) (lv2 := [(2, .int (nI (t23 + 1))), (5, .long (L 77 (((60 * sh) + (2 * t23)) + 1))), (3, .long (L 77 ((60 * sh) + (2 * t23)))), (0, .ref 54), (1, .int (nI sh))]) (by decide) rfl (n := 119) rfl ?_
                    refine p_goto (z_dec zd_X9_takesResults 78 rfl) (t := 23) (by decide) ?_
                    refine z_sub (lv' := [(2, .int (nI (t23 + 1))), (0, .ref 54), (1, .int (nI sh))]) [0, 3, 4] rfl ?_
                    rw [show gx_X9_takesResults_23 L np sh (r23 + 1) t23 Iv = gx_X9_takesResults_23 L np sh r23 (t23 + 1) Iv from by (conv => lhs; unfold gx_X9_takesResults_23); rw [if_neg h40, if_neg h79, if_pos h88]]
                    exact ih23 (t23 + 1) Iv (by omega) hlo
                  · have hj2 := z_oneL hn10 h88
                    refine p_lload_n (z_dec zd_X9_takesResults 59 rfl) rfl 1 rfl (n := 92) rfl ?_
                    refine p_lload (z_dec zd_X9_takesResults 60 rfl) 0 rfl (n := 94) rfl ?_
                    refine p_lcmp (z_dec zd_X9_takesResults 61 rfl) (n := 95) rfl ?_
                    refine p_if_eq (z_dec zd_X9_takesResults 62 rfl) (t := 116) (by decide) (n := 98) rfl (fun h95 => ?_) (fun h95 => ?_)
                    · refine p_iinc (z_dec zd_X9_takesResults 77 rfl) 2 rfl (v := (nI (t23 + 1))) (nI_1 _) (lv2 := [(2, .int (nI (t23 + 1))), (5, .long (L 77 (((60 * sh) + (2 * t23)) + 1))), (3, .long (L 77 ((60 * sh) + (2 * t23)))), (0, .ref 54), (1, .int (nI sh))]) (by decide) rfl (n := 119) rfl ?_
                      refine p_goto (z_dec zd_X9_takesResults 78 rfl) (t := 23) (by decide) ?_
                      refine z_sub (lv' := [(2, .int (nI (t23 + 1))), (0, .ref 54), (1, .int (nI sh))]) [0, 3, 4] rfl ?_
                      rw [show gx_X9_takesResults_23 L np sh (r23 + 1) t23 Iv = gx_X9_takesResults_23 L np sh r23 (t23 + 1) Iv from by (conv => lhs; unfold gx_X9_takesResults_23); rw [if_neg h40, if_neg h79, if_neg h88, if_pos h95]]
                      exact ih23 (t23 + 1) Iv (by omega) hlo
                    · refine p_aload_n (z_dec zd_X9_takesResults 63 rfl) rfl 3 rfl (n := 99) rfl ?_
                      refine q_getR (z_dec zd_X9_takesResults 64 rfl) zf_X9_46 (i := 67) rfl rfl (n := 102) rfl ?_
                      refine p_bipush (z_dec zd_X9_takesResults 65 rfl) (v := 10) (by decide) (n := 104) rfl ?_
                      refine p_lload_n (z_dec zd_X9_takesResults 66 rfl) rfl 1 rfl (n := 105) rfl ?_
                      refine p_l2i (z_dec zd_X9_takesResults 67 rfl) (n := 106) rfl ?_
                      refine p_imul (z_dec zd_X9_takesResults 68 rfl) (n := 107) rfl ?_
                      refine p_lload (z_dec zd_X9_takesResults 69 rfl) 0 rfl (n := 109) rfl ?_
                      refine p_l2i (z_dec zd_X9_takesResults 70 rfl) (n := 110) rfl ?_
                      refine p_iadd (z_dec zd_X9_takesResults 71 rfl) (n := 111) rfl ?_
                      refine p_dup2 (z_dec zd_X9_takesResults 72 rfl) rfl rfl (n := 112) rfl ?_
                      refine q_iald (z_dec zd_X9_takesResults 73 rfl) rfl (by decide) ((10 * (((L 77 ((60 * sh) + (2 * t23))).toInt32).toNatClampNeg)) + (((L 77 (((60 * sh) + (2 * t23)) + 1)).toInt32).toNatClampNeg)) (z_addE (z_mulE rfl hj1.1) hj2.1) (by omega) (v := (Iv 67 ((10 * (((L 77 ((60 * sh) + (2 * t23))).toInt32).toNatClampNeg)) + (((L 77 (((60 * sh) + (2 * t23)) + 1)).toInt32).toNatClampNeg)))) rfl (n := 113) rfl ?_
                      refine p_iconst (z_dec zd_X9_takesResults 74 rfl) (v := 1) (by decide) (n := 114) rfl ?_
                      refine p_iadd (z_dec zd_X9_takesResults 75 rfl) (n := 115) rfl ?_
                      refine q_iast (z_dec zd_X9_takesResults 76 rfl) rfl (by decide) ((10 * (((L 77 ((60 * sh) + (2 * t23))).toInt32).toNatClampNeg)) + (((L 77 (((60 * sh) + (2 * t23)) + 1)).toInt32).toNatClampNeg)) (z_addE (z_mulE rfl hj1.1) hj2.1) (by omega) (n := 116) rfl ?_
                      refine p_iinc (z_dec zd_X9_takesResults 77 rfl) 2 rfl (v := (nI (t23 + 1))) (nI_1 _) (lv2 := [(2, .int (nI (t23 + 1))), (5, .long (L 77 (((60 * sh) + (2 * t23)) + 1))), (3, .long (L 77 ((60 * sh) + (2 * t23)))), (0, .ref 54), (1, .int (nI sh))]) (by decide) rfl (n := 119) rfl ?_
                      refine p_goto (z_dec zd_X9_takesResults 78 rfl) (t := 23) (by decide) ?_
                      refine z_sub (lv' := [(2, .int (nI (t23 + 1))), (0, .ref 54), (1, .int (nI sh))]) [0, 3, 4] rfl ?_
                      rw [show gx_X9_takesResults_23 L np sh (r23 + 1) t23 Iv = gx_X9_takesResults_23 L np sh r23 (t23 + 1) (z_up Iv 67 ((10 * (((L 77 ((60 * sh) + (2 * t23))).toInt32).toNatClampNeg)) + (((L 77 (((60 * sh) + (2 * t23)) + 1)).toInt32).toNatClampNeg)) ((Iv 67 ((10 * (((L 77 ((60 * sh) + (2 * t23))).toInt32).toNatClampNeg)) + (((L 77 (((60 * sh) + (2 * t23)) + 1)).toInt32).toNatClampNeg))) + 1)) from by (conv => lhs; unfold gx_X9_takesResults_23); rw [if_neg h40, if_neg h79, if_neg h88, if_neg h95]]
                      exact ih23 (t23 + 1) (z_up Iv 67 ((10 * (((L 77 ((60 * sh) + (2 * t23))).toInt32).toNatClampNeg)) + (((L 77 (((60 * sh) + (2 * t23)) + 1)).toInt32).toNatClampNeg)) ((Iv 67 ((10 * (((L 77 ((60 * sh) + (2 * t23))).toInt32).toNatClampNeg)) + (((L 77 (((60 * sh) + (2 * t23)) + 1)).toInt32).toNatClampNeg))) + 1)) (by omega) (z_Nu hlo (by decide) _ _)
        exact (by have q := (hL23 20 0 (g_X9_takesResults_2 I 100) (by omega) (z_NG2 hN 100)); (rw [show m_X9_takesResults I L np sh = _ from by unfold m_X9_takesResults; rfl]); exact q)
      · have hx2 : i2 < 100 := by have := z_nge (a := 100) h5; omega
        refine p_aload_n (z_dec zd_X9_takesResults 5 rfl) rfl 1 rfl (n := 9) rfl ?_
        refine q_getR (z_dec zd_X9_takesResults 6 rfl) zf_X9_46 (i := 67) rfl rfl (n := 12) rfl ?_
        refine p_iload_n (z_dec zd_X9_takesResults 7 rfl) rfl 0 rfl (n := 13) rfl ?_
        refine p_iconst (z_dec zd_X9_takesResults 8 rfl) (v := 0) (by decide) (n := 14) rfl ?_
        refine q_iast (z_dec zd_X9_takesResults 9 rfl) rfl (by decide) (i2) rfl (by omega) (n := 15) rfl ?_
        refine p_iinc (z_dec zd_X9_takesResults 10 rfl) 0 rfl (v := (nI (i2 + 1))) (nI_1 _) (lv2 := [(2, .int (nI (i2 + 1))), (0, .ref 54), (1, .int (nI sh))]) (by decide) rfl (n := 18) rfl ?_
        refine p_goto (z_dec zd_X9_takesResults 11 rfl) (t := 2) (by decide) ?_
        have eb : (g_X9_takesResults_2 I) (i2 + 1) = (z_up (g_X9_takesResults_2 I i2) 67 i2 0) := by show gb_X9_takesResults_2 I i2 ((g_X9_takesResults_2 I) i2) = _; unfold gb_X9_takesResults_2; rfl
        refine z_lv (lv' := [(2, .int (nI (i2 + 1))), (0, .ref 54), (1, .int (nI sh))]) rfl rfl (by rw [eb]) (ih2 (by omega))
    refine z_lv (lv' := [(2, .int (nI 0)), (0, .ref 54), (1, .int (nI sh))]) rfl rfl rfl (hL2 0 (Nat.zero_le _))
  exact hentry
theorem z_NtR {np sh : Nat} {L : Nat → Nat → Int64} {I : Nat → Nat → Int32} (h : z_N np I) : z_N np (m_X9_takesResults I L np sh) := by
  have key : ∀ (r t : Nat) (Iv : Nat → Nat → Int32), z_N np Iv → z_N np (gx_X9_takesResults_23 L np sh r t Iv) := by
    intro r
    induction r with
    | zero => intro t Iv h; exact h
    | succ r ih =>
      intro t Iv h
      unfold gx_X9_takesResults_23
      (repeat' split) <;> first | exact h | exact ih _ _ h | exact ih _ _ (z_Nu h (by decide) _ _)
  exact key 20 0 _ (z_NG2 h 100)
def gw_X9_ring_23  : Nat → Nat → (Nat → Nat → Int32) → (Nat → Nat → Int32)
  | 0, t23, Iw23 => Iw23
  | r23 + 1, t23, Iw23 => if (Iw23 67 t23) ≤ 0 then gw_X9_ring_23 r23 (t23 + 1) (z_up Iw23 69 t23 1000000) else gw_X9_ring_23 r23 (t23 + 1) (z_up Iw23 69 t23 1)
theorem gi_gw_X9_ring_23  {np : Nat} : ∀ (r23 t23 : Nat) (Iw23 : (Nat → Nat → Int32)), z_N np Iw23 → z_N np (gw_X9_ring_23 r23 t23 Iw23)
  | 0, t23, Iw23, h => h
  | r23 + 1, t23, Iw23, h => by
    unfold gw_X9_ring_23
    (repeat' split) <;> first | exact h | exact gi_gw_X9_ring_23 r23 (t23 + 1) _ (h) | exact gi_gw_X9_ring_23 r23 (t23 + 1) _ (z_Nu h (by decide) _ _)
def gw_X9_ring_79 (q3 : Nat) (q2 : Nat) : Nat → Nat → (Nat → Nat → Int32) → (Nat → Nat → Int32)
  | 0, t79, Iw79 => Iw79
  | r79 + 1, t79, Iw79 => if (Iw79 69 ((10 * q3) + t79)) ≤ ((Iw79 69 ((10 * q3) + q2)) + (Iw79 69 ((10 * q2) + t79))) then gw_X9_ring_79 q3 q2 r79 (t79 + 1) (z_up Iw79 69 ((10 * q3) + t79) (Iw79 69 ((10 * q3) + t79))) else gw_X9_ring_79 q3 q2 r79 (t79 + 1) (z_up Iw79 69 ((10 * q3) + t79) ((Iw79 69 ((10 * q3) + q2)) + (Iw79 69 ((10 * q2) + t79))))
theorem gi_gw_X9_ring_79 {q3 : Nat} {q2 : Nat} {np : Nat} : ∀ (r79 t79 : Nat) (Iw79 : (Nat → Nat → Int32)), z_N np Iw79 → z_N np (gw_X9_ring_79 q3 q2 r79 t79 Iw79)
  | 0, t79, Iw79, h => h
  | r79 + 1, t79, Iw79, h => by
    unfold gw_X9_ring_79
    (repeat' split) <;> first | exact h | exact gi_gw_X9_ring_79 r79 (t79 + 1) _ (h) | exact gi_gw_X9_ring_79 r79 (t79 + 1) _ (z_Nu h (by decide) _ _)
def gw_X9_ring_68 (np : Nat) (q2 : Nat) : Nat → Nat → (Nat → Nat → Int32) → (Nat → Nat → Int32)
  | 0, t68, Iw68 => Iw68
  | r68 + 1, t68, Iw68 => gw_X9_ring_68 np q2 r68 (t68 + 1) (gw_X9_ring_79 t68 q2 np 0 Iw68)
theorem gi_gw_X9_ring_68 {np : Nat} {q2 : Nat} : ∀ (r68 t68 : Nat) (Iw68 : (Nat → Nat → Int32)), z_N np Iw68 → z_N np (gw_X9_ring_68 np q2 r68 t68 Iw68)
  | 0, t68, Iw68, h => h
  | r68 + 1, t68, Iw68, h => by
    unfold gw_X9_ring_68
    (repeat' split) <;> first | exact h | exact gi_gw_X9_ring_68 r68 (t68 + 1) _ (h) | exact gi_gw_X9_ring_68 r68 (t68 + 1) _ (gi_gw_X9_ring_79 _ _ _ h)
def gw_X9_ring_58 (np : Nat) : Nat → Nat → (Nat → Nat → Int32) → (Nat → Nat → Int32)
  | 0, t58, Iw58 => Iw58
  | r58 + 1, t58, Iw58 => gw_X9_ring_58 np r58 (t58 + 1) (gw_X9_ring_68 np t58 np 0 Iw58)
theorem gi_gw_X9_ring_58 {np : Nat} : ∀ (r58 t58 : Nat) (Iw58 : (Nat → Nat → Int32)), z_N np Iw58 → z_N np (gw_X9_ring_58 np r58 t58 Iw58)
  | 0, t58, Iw58, h => h
  | r58 + 1, t58, Iw58, h => by
    unfold gw_X9_ring_58
    (repeat' split) <;> first | exact h | exact gi_gw_X9_ring_58 r58 (t58 + 1) _ (h) | exact gi_gw_X9_ring_58 r58 (t58 + 1) _ (gi_gw_X9_ring_68 _ _ _ h)
def gx_X9_ring_183 (I : Nat → Nat → Int32) (L : Nat → Nat → Int64) (np : Nat) (sh : Int32) : Nat → Nat → (Int32) → Int32
  | 0, t183, v2 => if v2 = 1000000 then (-2) else v2
  | r183 + 1, t183, v2 => if v2 ≤ ((gw_X9_ring_58 np np 0 (gw_X9_ring_23 100 0 (m_X9_takesResults I L np sh.toNatClampNeg))) 69 ((10 * t183) + t183)) then gx_X9_ring_183 I L np sh r183 (t183 + 1) v2 else gx_X9_ring_183 I L np sh r183 (t183 + 1) ((gw_X9_ring_58 np np 0 (gw_X9_ring_23 100 0 (m_X9_takesResults I L np sh.toNatClampNeg))) 69 ((10 * t183) + t183))
def f_X9_ring (I : Nat → Nat → Int32) (L : Nat → Nat → Int64) (np : Nat) (sh : Int32) : Int32 := if 0 ≤ (f_X9_rowIs I sh 0) then (gx_X9_ring_183 I L np sh np 0 1000000) else (f_X9_rowIs I sh 0)
def m_X9_ring (I : Nat → Nat → Int32) (L : Nat → Nat → Int64) (np : Nat) (sh : Int32) : Nat → Nat → Int32 := if 0 ≤ (f_X9_rowIs I sh 0) then (gw_X9_ring_58 np np 0 (gw_X9_ring_23 100 0 (m_X9_takesResults I L np sh.toNatClampNeg))) else I
set_option maxHeartbeats 1000000 in
set_option maxRecDepth 100000 in
theorem c_X9_ring (d : Nat) (hd : 57 ≤ d) (b : Bool) (I : Nat → Nat → Int32) (L : Nat → Nat → Int64) (np : Nat) (hn10 : np ≤ 10) (hN : z_N np I) (sh : Int32) : z_CT zm_X9_ring d [.ref 54, .int sh] SH (I, L, z_R b) 0 0 (z_ret (some (.int (f_X9_ring I L np sh))) ((m_X9_ring I L np sh), L, z_R b)) := by
  refine z_enter (by decide +kernel) (Nat.le_of_ble_eq_true rfl) ?_
  have hentry : PW zm_X9_ring d 0 [(0, .ref 54), (1, .int sh)] [] SH (I, L, z_R b) 0 0 (z_ret (some (.int (f_X9_ring I L np sh))) ((m_X9_ring I L np sh), L, z_R b)) := by
    refine p_aload_n (z_dec zd_X9_ring 0 rfl) rfl 0 rfl (n := 1) rfl ?_
    refine p_iload_n (z_dec zd_X9_ring 1 rfl) rfl 1 rfl (n := 2) rfl ?_
    refine p_iconst (z_dec zd_X9_ring 2 rfl) (v := 0) (by decide) (n := 3) rfl ?_
    refine q_callV (As := [.int sh, .int 0]) (rest := []) (z_dec zd_X9_ring 3 rfl) zk_X9_233 zv_X9_rowIs (c_X9_rowIs (d - 1) (by omega) b I L sh 0) rfl ⟨_, _, rfl⟩ rfl rfl (Nat.le_of_ble_eq_true rfl) (by omega) (n := 6) rfl ?_
    show PW zm_X9_ring d 6 [(0, .ref 54), (1, .int sh)] [.int (f_X9_rowIs I sh 0)] SH (I, L, z_R b) 0 0 _
    refine p_if_ge (z_dec zd_X9_ring 4 rfl) (t := 16) (by decide) (n := 9) rfl (fun h6 => ?_) (fun h6 => ?_)
    · have hs := z_rwI h6
      refine p_aload_n (z_dec zd_X9_ring 10 rfl) rfl 0 rfl (n := 17) rfl ?_
      refine p_iload_n (z_dec zd_X9_ring 11 rfl) rfl 1 rfl (n := 18) rfl ?_
      refine q_callV (As := [.int (nI sh.toNatClampNeg)]) (rest := []) (z_dec zd_X9_ring 12 rfl) zk_X9_251 zv_X9_takesResults (c_X9_takesResults (d - 1) (by omega) b I L np hn10 hN sh.toNatClampNeg hs.2) rfl ⟨_, _, rfl⟩ (by simp only [← hs.1]; rfl) rfl (Nat.le_of_ble_eq_true rfl) (by omega) (n := 21) rfl ?_
      show PW zm_X9_ring d 21 [(0, .ref 54), (1, .int sh)] [] SH ((m_X9_takesResults I L np sh.toNatClampNeg), L, z_R b) 0 0 _
      have hP21 : z_N np ((m_X9_takesResults I L np sh.toNatClampNeg)) := (z_NtR hN)
      refine p_iconst (z_dec zd_X9_ring 13 rfl) (v := 0) (by decide) (n := 22) rfl ?_
      refine p_istore_n (z_dec zd_X9_ring 14 rfl) rfl (lv2 := [(2, .int 0), (0, .ref 54), (1, .int sh)]) (by decide) rfl (n := 23) rfl ?_
      have hL23 : ∀ (r23 t23 : Nat) (Iw23 : (Nat → Nat → Int32)), t23 + r23 = 100 → z_N np Iw23 → PW zm_X9_ring d 56 [(0, .ref 54), (1, .int sh)] [] SH ((gw_X9_ring_23 r23 t23 Iw23), L, z_R b) 0 0 (z_ret (some (.int (f_X9_ring I L np sh))) ((m_X9_ring I L np sh), L, z_R b)) → PW zm_X9_ring d 23 [(2, .int (nI t23)), (0, .ref 54), (1, .int sh)] [] SH (Iw23, L, z_R b) 0 0 (z_ret (some (.int (f_X9_ring I L np sh))) ((m_X9_ring I L np sh), L, z_R b)) := by
        intro r23
        induction r23 with
        | zero =>
          intro t23 Iw23 ht23 hlo hk23
          refine p_iload_n (z_dec zd_X9_ring 15 rfl) rfl 0 rfl (n := 24) rfl ?_
          refine p_bipush (z_dec zd_X9_ring 16 rfl) (v := 100) (by decide) (n := 26) rfl ?_
          refine p_icmp_ge (z_dec zd_X9_ring 17 rfl) (t := 56) (by decide) (n := 29) rfl (fun h26 => ?_) (fun h26 => ?_)
          · refine z_sub (lv' := [(0, .ref 54), (1, .int sh)]) [1, 2] rfl ?_
            rw [show (gw_X9_ring_23 0 t23 Iw23) = Iw23 from by rfl] at hk23
            exact hk23
          · exact absurd (z_nge (a := 100) h26) (by omega)
        | succ r23 ih23 =>
          intro t23 Iw23 ht23 hlo hk23
          refine p_iload_n (z_dec zd_X9_ring 15 rfl) rfl 0 rfl (n := 24) rfl ?_
          refine p_bipush (z_dec zd_X9_ring 16 rfl) (v := 100) (by decide) (n := 26) rfl ?_
          refine p_icmp_ge (z_dec zd_X9_ring 17 rfl) (t := 56) (by decide) (n := 29) rfl (fun h26 => ?_) (fun h26 => ?_)
          · exact absurd (z_ge (a := 100) h26) (by omega)
          · have hx23 : t23 < 100 := by omega
            refine p_aload_n (z_dec zd_X9_ring 18 rfl) rfl 1 rfl (n := 30) rfl ?_
            refine q_getR (z_dec zd_X9_ring 19 rfl) zf_X9_52 (i := 69) rfl rfl (n := 33) rfl ?_
            refine p_iload_n (z_dec zd_X9_ring 20 rfl) rfl 0 rfl (n := 34) rfl ?_
            refine p_aload_n (z_dec zd_X9_ring 21 rfl) rfl 1 rfl (n := 35) rfl ?_
            refine q_getR (z_dec zd_X9_ring 22 rfl) zf_X9_46 (i := 67) rfl rfl (n := 38) rfl ?_
            refine p_iload_n (z_dec zd_X9_ring 23 rfl) rfl 0 rfl (n := 39) rfl ?_
            refine q_iald (z_dec zd_X9_ring 24 rfl) rfl (by decide) (t23) rfl (by omega) (v := (Iw23 67 t23)) rfl (n := 40) rfl ?_
            refine p_if_le (z_dec zd_X9_ring 25 rfl) (t := 47) (by decide) (n := 43) rfl (fun h40 => ?_) (fun h40 => ?_)
            · refine p_ldc (z_dec zd_X9_ring 28 rfl) zq_X9_250 (n := 49) rfl ?_
              refine q_iast (z_dec zd_X9_ring 29 rfl) rfl (by decide) (t23) rfl (by omega) (n := 50) rfl ?_
              refine p_iinc (z_dec zd_X9_ring 30 rfl) 0 rfl (v := (nI (t23 + 1))) (nI_1 _) (lv2 := [(2, .int (nI (t23 + 1))), (0, .ref 54), (1, .int sh)]) (by decide) rfl (n := 53) rfl ?_
              refine p_goto (z_dec zd_X9_ring 31 rfl) (t := 23) (by decide) ?_
              rw [show gw_X9_ring_23 (r23 + 1) t23 Iw23 = gw_X9_ring_23 r23 (t23 + 1) (z_up Iw23 69 t23 1000000) from by (conv => lhs; unfold gw_X9_ring_23); rw [if_pos h40]] at hk23
              exact ih23 (t23 + 1) (z_up Iw23 69 t23 1000000) (by omega) (z_Nu hlo (by decide) _ _) hk23
            · refine p_iconst (z_dec zd_X9_ring 26 rfl) (v := 1) (by decide) (n := 44) rfl ?_
              refine p_goto (z_dec zd_X9_ring 27 rfl) (t := 49) (by decide) ?_
              refine q_iast (z_dec zd_X9_ring 29 rfl) rfl (by decide) (t23) rfl (by omega) (n := 50) rfl ?_
              refine p_iinc (z_dec zd_X9_ring 30 rfl) 0 rfl (v := (nI (t23 + 1))) (nI_1 _) (lv2 := [(2, .int (nI (t23 + 1))), (0, .ref 54), (1, .int sh)]) (by decide) rfl (n := 53) rfl ?_
              refine p_goto (z_dec zd_X9_ring 31 rfl) (t := 23) (by decide) ?_
              rw [show gw_X9_ring_23 (r23 + 1) t23 Iw23 = gw_X9_ring_23 r23 (t23 + 1) (z_up Iw23 69 t23 1) from by (conv => lhs; unfold gw_X9_ring_23); rw [if_neg h40]] at hk23
              exact ih23 (t23 + 1) (z_up Iw23 69 t23 1) (by omega) (z_Nu hlo (by decide) _ _) hk23
      refine hL23 100 0 (m_X9_takesResults I L np sh.toNatClampNeg) (by omega) hP21 ?_
      refine p_iconst (z_dec zd_X9_ring 32 rfl) (v := 0) (by decide) (n := 57) rfl ?_
      refine p_istore_n (z_dec zd_X9_ring 33 rfl) rfl (lv2 := [(2, .int 0), (0, .ref 54), (1, .int sh)]) (by decide) rfl (n := 58) rfl ?_
      have hL58 : ∀ (r58 t58 : Nat) (Iw58 : (Nat → Nat → Int32)), t58 + r58 = np → z_N np Iw58 → PW zm_X9_ring d 178 [(0, .ref 54), (1, .int sh)] [] SH ((gw_X9_ring_58 np r58 t58 Iw58), L, z_R b) 0 0 (z_ret (some (.int (f_X9_ring I L np sh))) ((m_X9_ring I L np sh), L, z_R b)) → PW zm_X9_ring d 58 [(2, .int (nI t58)), (0, .ref 54), (1, .int sh)] [] SH (Iw58, L, z_R b) 0 0 (z_ret (some (.int (f_X9_ring I L np sh))) ((m_X9_ring I L np sh), L, z_R b)) := by
        intro r58
        induction r58 with
        | zero =>
          intro t58 Iw58 ht58 hlo hk58
          refine p_iload_n (z_dec zd_X9_ring 34 rfl) rfl 0 rfl (n := 59) rfl ?_
          refine p_aload_n (z_dec zd_X9_ring 35 rfl) rfl 1 rfl (n := 60) rfl ?_
          refine q_getI (z_dec zd_X9_ring 36 rfl) zf_X9_93 (by decide) rfl (v := (nI np)) hlo (n := 63) rfl ?_
          refine p_icmp_ge (z_dec zd_X9_ring 37 rfl) (t := 178) (by decide) (n := 66) rfl (fun h63 => ?_) (fun h63 => ?_)
          · refine z_sub (lv' := [(0, .ref 54), (1, .int sh)]) [1, 2] rfl ?_
            rw [show (gw_X9_ring_58 np 0 t58 Iw58) = Iw58 from by rfl] at hk58
            exact hk58
          · exact absurd (z_nge (a := np) h63) (by omega)
        | succ r58 ih58 =>
          intro t58 Iw58 ht58 hlo hk58
          refine p_iload_n (z_dec zd_X9_ring 34 rfl) rfl 0 rfl (n := 59) rfl ?_
          refine p_aload_n (z_dec zd_X9_ring 35 rfl) rfl 1 rfl (n := 60) rfl ?_
          refine q_getI (z_dec zd_X9_ring 36 rfl) zf_X9_93 (by decide) rfl (v := (nI np)) hlo (n := 63) rfl ?_
          refine p_icmp_ge (z_dec zd_X9_ring 37 rfl) (t := 178) (by decide) (n := 66) rfl (fun h63 => ?_) (fun h63 => ?_)
          · exact absurd (z_ge (a := np) h63) (by omega)
          · have hx58 : t58 < np := by omega
            refine p_iconst (z_dec zd_X9_ring 38 rfl) (v := 0) (by decide) (n := 67) rfl ?_
            refine p_istore_n (z_dec zd_X9_ring 39 rfl) rfl (lv2 := [(3, .int 0), (2, .int (nI t58)), (0, .ref 54), (1, .int sh)]) (by decide) rfl (n := 68) rfl ?_
            have hL68 : ∀ (r68 t68 : Nat) (Iw68 : (Nat → Nat → Int32)), t68 + r68 = np → z_N np Iw68 → PW zm_X9_ring d 172 [(2, .int (nI t58)), (0, .ref 54), (1, .int sh)] [] SH ((gw_X9_ring_68 np t58 r68 t68 Iw68), L, z_R b) 0 0 (z_ret (some (.int (f_X9_ring I L np sh))) ((m_X9_ring I L np sh), L, z_R b)) → PW zm_X9_ring d 68 [(3, .int (nI t68)), (2, .int (nI t58)), (0, .ref 54), (1, .int sh)] [] SH (Iw68, L, z_R b) 0 0 (z_ret (some (.int (f_X9_ring I L np sh))) ((m_X9_ring I L np sh), L, z_R b)) := by
              intro r68
              induction r68 with
              | zero =>
                intro t68 Iw68 ht68 hlo hk68
                refine p_iload_n (z_dec zd_X9_ring 40 rfl) rfl 0 rfl (n := 69) rfl ?_
                refine p_aload_n (z_dec zd_X9_ring 41 rfl) rfl 2 rfl (n := 70) rfl ?_
                refine q_getI (z_dec zd_X9_ring 42 rfl) zf_X9_93 (by decide) rfl (v := (nI np)) hlo (n := 73) rfl ?_
                refine p_icmp_ge (z_dec zd_X9_ring 43 rfl) (t := 172) (by decide) (n := 76) rfl (fun h73 => ?_) (fun h73 => ?_)
                · refine z_sub (lv' := [(2, .int (nI t58)), (0, .ref 54), (1, .int sh)]) [1, 2, 3] rfl ?_
                  rw [show (gw_X9_ring_68 np t58 0 t68 Iw68) = Iw68 from by rfl] at hk68
                  exact hk68
                · exact absurd (z_nge (a := np) h73) (by omega)
              | succ r68 ih68 =>
                intro t68 Iw68 ht68 hlo hk68
                refine p_iload_n (z_dec zd_X9_ring 40 rfl) rfl 0 rfl (n := 69) rfl ?_
                refine p_aload_n (z_dec zd_X9_ring 41 rfl) rfl 2 rfl (n := 70) rfl ?_
                refine q_getI (z_dec zd_X9_ring 42 rfl) zf_X9_93 (by decide) rfl (v := (nI np)) hlo (n := 73) rfl ?_
                refine p_icmp_ge (z_dec zd_X9_ring 43 rfl) (t := 172) (by decide) (n := 76) rfl (fun h73 => ?_) (fun h73 => ?_)
                · exact absurd (z_ge (a := np) h73) (by omega)
                · have hx68 : t68 < np := by omega
                  refine p_iconst (z_dec zd_X9_ring 44 rfl) (v := 0) (by decide) (n := 77) rfl ?_
                  refine p_istore (z_dec zd_X9_ring 45 rfl) (lv2 := [(4, .int 0), (3, .int (nI t68)), (2, .int (nI t58)), (0, .ref 54), (1, .int sh)]) (by decide) rfl (n := 79) rfl ?_
                  have hL79 : ∀ (r79 t79 : Nat) (Iw79 : (Nat → Nat → Int32)), t79 + r79 = np → z_N np Iw79 → PW zm_X9_ring d 166 [(3, .int (nI t68)), (2, .int (nI t58)), (0, .ref 54), (1, .int sh)] [] SH ((gw_X9_ring_79 t68 t58 r79 t79 Iw79), L, z_R b) 0 0 (z_ret (some (.int (f_X9_ring I L np sh))) ((m_X9_ring I L np sh), L, z_R b)) → PW zm_X9_ring d 79 [(4, .int (nI t79)), (3, .int (nI t68)), (2, .int (nI t58)), (0, .ref 54), (1, .int sh)] [] SH (Iw79, L, z_R b) 0 0 (z_ret (some (.int (f_X9_ring I L np sh))) ((m_X9_ring I L np sh), L, z_R b)) := by
                    intro r79
                    induction r79 with
                    | zero =>
                      intro t79 Iw79 ht79 hlo hk79
                      refine p_iload (z_dec zd_X9_ring 46 rfl) 0 rfl (n := 81) rfl ?_
                      refine p_aload_n (z_dec zd_X9_ring 47 rfl) rfl 3 rfl (n := 82) rfl ?_
                      refine q_getI (z_dec zd_X9_ring 48 rfl) zf_X9_93 (by decide) rfl (v := (nI np)) hlo (n := 85) rfl ?_
                      refine p_icmp_ge (z_dec zd_X9_ring 49 rfl) (t := 166) (by decide) (n := 88) rfl (fun h85 => ?_) (fun h85 => ?_)
                      · refine z_sub (lv' := [(3, .int (nI t68)), (2, .int (nI t58)), (0, .ref 54), (1, .int sh)]) [1, 2, 3, 4] rfl ?_
                        rw [show (gw_X9_ring_79 t68 t58 0 t79 Iw79) = Iw79 from by rfl] at hk79
                        exact hk79
                      · exact absurd (z_nge (a := np) h85) (by omega)
                    | succ r79 ih79 =>
                      intro t79 Iw79 ht79 hlo hk79
                      refine p_iload (z_dec zd_X9_ring 46 rfl) 0 rfl (n := 81) rfl ?_
                      refine p_aload_n (z_dec zd_X9_ring 47 rfl) rfl 3 rfl (n := 82) rfl ?_
                      refine q_getI (z_dec zd_X9_ring 48 rfl) zf_X9_93 (by decide) rfl (v := (nI np)) hlo (n := 85) rfl ?_
                      refine p_icmp_ge (z_dec zd_X9_ring 49 rfl) (t := 166) (by decide) (n := 88) rfl (fun h85 => ?_) (fun h85 => ?_)
                      · exact absurd (z_ge (a := np) h85) (by omega)
                      · have hx79 : t79 < np := by omega
                        refine p_aload_n (z_dec zd_X9_ring 50 rfl) rfl 3 rfl (n := 89) rfl ?_
                        refine q_getR (z_dec zd_X9_ring 51 rfl) zf_X9_52 (i := 69) rfl rfl (n := 92) rfl ?_
                        refine p_bipush (z_dec zd_X9_ring 52 rfl) (v := 10) (by decide) (n := 94) rfl ?_
                        refine p_iload_n (z_dec zd_X9_ring 53 rfl) rfl 1 rfl (n := 95) rfl ?_
                        refine p_imul (z_dec zd_X9_ring 54 rfl) (n := 96) rfl ?_
                        refine p_iload_n (z_dec zd_X9_ring 55 rfl) rfl 2 rfl (n := 97) rfl ?_
                        refine p_iadd (z_dec zd_X9_ring 56 rfl) (n := 98) rfl ?_
                        refine q_iald (z_dec zd_X9_ring 57 rfl) rfl (by decide) ((10 * t68) + t58) (z_addE (z_mulE rfl rfl) rfl) (by omega) (v := (Iw79 69 ((10 * t68) + t58))) rfl (n := 99) rfl ?_
                        refine p_aload_n (z_dec zd_X9_ring 58 rfl) rfl 3 rfl (n := 100) rfl ?_
                        refine q_getR (z_dec zd_X9_ring 59 rfl) zf_X9_52 (i := 69) rfl rfl (n := 103) rfl ?_
                        refine p_bipush (z_dec zd_X9_ring 60 rfl) (v := 10) (by decide) (n := 105) rfl ?_
                        refine p_iload_n (z_dec zd_X9_ring 61 rfl) rfl 2 rfl (n := 106) rfl ?_
                        refine p_imul (z_dec zd_X9_ring 62 rfl) (n := 107) rfl ?_
                        refine p_iload (z_dec zd_X9_ring 63 rfl) 0 rfl (n := 109) rfl ?_
                        refine p_iadd (z_dec zd_X9_ring 64 rfl) (n := 110) rfl ?_
                        refine q_iald (z_dec zd_X9_ring 65 rfl) rfl (by decide) ((10 * t58) + t79) (z_addE (z_mulE rfl rfl) rfl) (by omega) (v := (Iw79 69 ((10 * t58) + t79))) rfl (n := 111) rfl ?_
                        refine p_iadd (z_dec zd_X9_ring 66 rfl) (n := 112) rfl ?_
                        refine p_istore (z_dec zd_X9_ring 67 rfl) (lv2 := [(5, .int ((Iw79 69 ((10 * t68) + t58)) + (Iw79 69 ((10 * t58) + t79)))), (4, .int (nI t79)), (3, .int (nI t68)), (2, .int (nI t58)), (0, .ref 54), (1, .int sh)]) (by decide) rfl (n := 114) rfl ?_
                        refine p_aload_n (z_dec zd_X9_ring 68 rfl) rfl 4 rfl (n := 115) rfl ?_
                        refine q_getR (z_dec zd_X9_ring 69 rfl) zf_X9_52 (i := 69) rfl rfl (n := 118) rfl ?_
                        refine p_bipush (z_dec zd_X9_ring 70 rfl) (v := 10) (by decide) (n := 120) rfl ?_
                        refine p_iload_n (z_dec zd_X9_ring 71 rfl) rfl 2 rfl (n := 121) rfl ?_
                        refine p_imul (z_dec zd_X9_ring 72 rfl) (n := 122) rfl ?_
                        refine p_iload (z_dec zd_X9_ring 73 rfl) 1 rfl (n := 124) rfl ?_
                        refine p_iadd (z_dec zd_X9_ring 74 rfl) (n := 125) rfl ?_
                        refine p_iload (z_dec zd_X9_ring 75 rfl) 0 rfl (n := 127) rfl ?_
                        refine p_aload_n (z_dec zd_X9_ring 76 rfl) rfl 4 rfl (n := 128) rfl ?_
                        refine q_getR (z_dec zd_X9_ring 77 rfl) zf_X9_52 (i := 69) rfl rfl (n := 131) rfl ?_
                        refine p_bipush (z_dec zd_X9_ring 78 rfl) (v := 10) (by decide) (n := 133) rfl ?_
                        refine p_iload_n (z_dec zd_X9_ring 79 rfl) rfl 2 rfl (n := 134) rfl ?_
                        refine p_imul (z_dec zd_X9_ring 80 rfl) (n := 135) rfl ?_
                        refine p_iload (z_dec zd_X9_ring 81 rfl) 1 rfl (n := 137) rfl ?_
                        refine p_iadd (z_dec zd_X9_ring 82 rfl) (n := 138) rfl ?_
                        refine q_iald (z_dec zd_X9_ring 83 rfl) rfl (by decide) ((10 * t68) + t79) (z_addE (z_mulE rfl rfl) rfl) (by omega) (v := (Iw79 69 ((10 * t68) + t79))) rfl (n := 139) rfl ?_
                        refine p_icmp_ge (z_dec zd_X9_ring 84 rfl) (t := 147) (by decide) (n := 142) rfl (fun h139 => ?_) (fun h139 => ?_)
                        · refine p_aload_n (z_dec zd_X9_ring 87 rfl) rfl 4 rfl (n := 148) rfl ?_
                          refine q_getR (z_dec zd_X9_ring 88 rfl) zf_X9_52 (i := 69) rfl rfl (n := 151) rfl ?_
                          refine p_bipush (z_dec zd_X9_ring 89 rfl) (v := 10) (by decide) (n := 153) rfl ?_
                          refine p_iload_n (z_dec zd_X9_ring 90 rfl) rfl 2 rfl (n := 154) rfl ?_
                          refine p_imul (z_dec zd_X9_ring 91 rfl) (n := 155) rfl ?_
                          refine p_iload (z_dec zd_X9_ring 92 rfl) 1 rfl (n := 157) rfl ?_
                          refine p_iadd (z_dec zd_X9_ring 93 rfl) (n := 158) rfl ?_
                          refine q_iald (z_dec zd_X9_ring 94 rfl) rfl (by decide) ((10 * t68) + t79) (z_addE (z_mulE rfl rfl) rfl) (by omega) (v := (Iw79 69 ((10 * t68) + t79))) rfl (n := 159) rfl ?_
                          refine q_iast (z_dec zd_X9_ring 95 rfl) rfl (by decide) ((10 * t68) + t79) (z_addE (z_mulE rfl rfl) rfl) (by omega) (n := 160) rfl ?_
                          refine p_iinc (z_dec zd_X9_ring 96 rfl) 1 rfl (v := (nI (t79 + 1))) (nI_1 _) (lv2 := [(4, .int (nI (t79 + 1))), (5, .int ((Iw79 69 ((10 * t68) + t58)) + (Iw79 69 ((10 * t58) + t79)))), (3, .int (nI t68)), (2, .int (nI t58)), (0, .ref 54), (1, .int sh)]) (by decide) rfl (n := 163) rfl ?_
                          refine p_goto (z_dec zd_X9_ring 97 rfl) (t := 79) (by decide) ?_
                          refine z_sub (lv' := [(4, .int (nI (t79 + 1))), (3, .int (nI t68)), (2, .int (nI t58)), (0, .ref 54), (1, .int sh)]) [0, 2, 3, 4, 5] rfl ?_
                          rw [show gw_X9_ring_79 t68 t58 (r79 + 1) t79 Iw79 = gw_X9_ring_79 t68 t58 r79 (t79 + 1) (z_up Iw79 69 ((10 * t68) + t79) (Iw79 69 ((10 * t68) + t79))) from by (conv => lhs; unfold gw_X9_ring_79); rw [if_pos h139]] at hk79
                          exact ih79 (t79 + 1) (z_up Iw79 69 ((10 * t68) + t79) (Iw79 69 ((10 * t68) + t79))) (by omega) (z_Nu hlo (by decide) _ _) hk79
                        · refine p_iload (z_dec zd_X9_ring 85 rfl) 0 rfl (n := 144) rfl ?_
                          refine p_goto (z_dec zd_X9_ring 86 rfl) (t := 159) (by decide) ?_
                          refine q_iast (z_dec zd_X9_ring 95 rfl) rfl (by decide) ((10 * t68) + t79) (z_addE (z_mulE rfl rfl) rfl) (by omega) (n := 160) rfl ?_
                          refine p_iinc (z_dec zd_X9_ring 96 rfl) 1 rfl (v := (nI (t79 + 1))) (nI_1 _) (lv2 := [(4, .int (nI (t79 + 1))), (5, .int ((Iw79 69 ((10 * t68) + t58)) + (Iw79 69 ((10 * t58) + t79)))), (3, .int (nI t68)), (2, .int (nI t58)), (0, .ref 54), (1, .int sh)]) (by decide) rfl (n := 163) rfl ?_
                          refine p_goto (z_dec zd_X9_ring 97 rfl) (t := 79) (by decide) ?_
                          refine z_sub (lv' := [(4, .int (nI (t79 + 1))), (3, .int (nI t68)), (2, .int (nI t58)), (0, .ref 54), (1, .int sh)]) [0, 2, 3, 4, 5] rfl ?_
                          rw [show gw_X9_ring_79 t68 t58 (r79 + 1) t79 Iw79 = gw_X9_ring_79 t68 t58 r79 (t79 + 1) (z_up Iw79 69 ((10 * t68) + t79) ((Iw79 69 ((10 * t68) + t58)) + (Iw79 69 ((10 * t58) + t79)))) from by (conv => lhs; unfold gw_X9_ring_79); rw [if_neg h139]] at hk79
                          exact ih79 (t79 + 1) (z_up Iw79 69 ((10 * t68) + t79) ((Iw79 69 ((10 * t68) + t58)) + (Iw79 69 ((10 * t58) + t79)))) (by omega) (z_Nu hlo (by decide) _ _) hk79
                  refine hL79 np 0 Iw68 (by omega) hlo ?_
                  refine p_iinc (z_dec zd_X9_ring 98 rfl) 0 rfl (v := (nI (t68 + 1))) (nI_1 _) (lv2 := [(3, .int (nI (t68 + 1))), (2, .int (nI t58)), (0, .ref 54), (1, .int sh)]) (by decide) rfl (n := 169) rfl ?_
                  refine p_goto (z_dec zd_X9_ring 99 rfl) (t := 68) (by decide) ?_
                  rw [show gw_X9_ring_68 np t58 (r68 + 1) t68 Iw68 = gw_X9_ring_68 np t58 r68 (t68 + 1) (gw_X9_ring_79 t68 t58 np 0 Iw68) from by rfl] at hk68
                  exact ih68 (t68 + 1) (gw_X9_ring_79 t68 t58 np 0 Iw68) (by omega) (gi_gw_X9_ring_79 _ _ _ hlo) hk68
            refine hL68 np 0 Iw58 (by omega) hlo ?_
            refine p_iinc (z_dec zd_X9_ring 100 rfl) 0 rfl (v := (nI (t58 + 1))) (nI_1 _) (lv2 := [(2, .int (nI (t58 + 1))), (0, .ref 54), (1, .int sh)]) (by decide) rfl (n := 175) rfl ?_
            refine p_goto (z_dec zd_X9_ring 101 rfl) (t := 58) (by decide) ?_
            rw [show gw_X9_ring_58 np (r58 + 1) t58 Iw58 = gw_X9_ring_58 np r58 (t58 + 1) (gw_X9_ring_68 np t58 np 0 Iw58) from by rfl] at hk58
            exact ih58 (t58 + 1) (gw_X9_ring_68 np t58 np 0 Iw58) (by omega) (gi_gw_X9_ring_68 _ _ _ hlo) hk58
      refine hL58 np 0 (gw_X9_ring_23 100 0 (m_X9_takesResults I L np sh.toNatClampNeg)) (by omega) (gi_gw_X9_ring_23 _ _ _ hP21) ?_
      refine p_ldc (z_dec zd_X9_ring 102 rfl) zq_X9_250 (n := 180) rfl ?_
      refine p_istore_n (z_dec zd_X9_ring 103 rfl) rfl (lv2 := [(2, .int 1000000), (0, .ref 54), (1, .int sh)]) (by decide) rfl (n := 181) rfl ?_
      refine p_iconst (z_dec zd_X9_ring 104 rfl) (v := 0) (by decide) (n := 182) rfl ?_
      refine p_istore_n (z_dec zd_X9_ring 105 rfl) rfl (lv2 := [(3, .int 0), (2, .int 1000000), (0, .ref 54), (1, .int sh)]) (by decide) rfl (n := 183) rfl ?_
      have hL183 : ∀ (r183 t183 : Nat) (v2 : Int32), t183 + r183 = np → PW zm_X9_ring d 183 [(3, .int (nI t183)), (2, .int v2), (0, .ref 54), (1, .int sh)] [] SH ((gw_X9_ring_58 np np 0 (gw_X9_ring_23 100 0 (m_X9_takesResults I L np sh.toNatClampNeg))), L, z_R b) 0 0 (z_ret (some (.int (gx_X9_ring_183 I L np sh r183 t183 v2))) ((gw_X9_ring_58 np np 0 (gw_X9_ring_23 100 0 (m_X9_takesResults I L np sh.toNatClampNeg))), L, z_R b)) := by
        intro r183
        induction r183 with
        | zero =>
          intro t183 v2 ht183
          refine p_iload_n (z_dec zd_X9_ring 106 rfl) rfl 0 rfl (n := 184) rfl ?_
          refine p_aload_n (z_dec zd_X9_ring 107 rfl) rfl 2 rfl (n := 185) rfl ?_
          refine q_getI (z_dec zd_X9_ring 108 rfl) zf_X9_93 (by decide) rfl (v := (nI np)) (gi_gw_X9_ring_58 _ _ _ (gi_gw_X9_ring_23 _ _ _ hP21)) (n := 188) rfl ?_
          refine p_icmp_ge (z_dec zd_X9_ring 109 rfl) (t := 223) (by decide) (n := 191) rfl (fun h188 => ?_) (fun h188 => ?_)
          · refine p_iload_n (z_dec zd_X9_ring 128 rfl) rfl 1 rfl (n := 224) rfl ?_
            refine p_ldc (z_dec zd_X9_ring 129 rfl) zq_X9_250 (n := 226) rfl ?_
            refine p_icmp_ne (z_dec zd_X9_ring 130 rfl) (t := 234) (by decide) (n := 229) rfl (fun h226 => ?_) (fun h226 => ?_)
            · refine p_iload_n (z_dec zd_X9_ring 133 rfl) rfl 1 rfl (n := 235) rfl ?_
              exact p_iret (z_dec zd_X9_ring 134 rfl) rfl ⟨(by (conv => rhs; unfold gx_X9_ring_183); rw [if_neg h226]), rfl, rfl⟩
            · refine p_bipush (z_dec zd_X9_ring 131 rfl) (v := (-2)) (by decide) (n := 231) rfl ?_
              refine p_goto (z_dec zd_X9_ring 132 rfl) (t := 235) (by decide) ?_
              exact p_iret (z_dec zd_X9_ring 134 rfl) rfl ⟨(by (conv => rhs; unfold gx_X9_ring_183); rw [if_pos h226]), rfl, rfl⟩
          · exact absurd (z_nge (a := np) h188) (by omega)
        | succ r183 ih183 =>
          intro t183 v2 ht183
          refine p_iload_n (z_dec zd_X9_ring 106 rfl) rfl 0 rfl (n := 184) rfl ?_
          refine p_aload_n (z_dec zd_X9_ring 107 rfl) rfl 2 rfl (n := 185) rfl ?_
          refine q_getI (z_dec zd_X9_ring 108 rfl) zf_X9_93 (by decide) rfl (v := (nI np)) (gi_gw_X9_ring_58 _ _ _ (gi_gw_X9_ring_23 _ _ _ hP21)) (n := 188) rfl ?_
          refine p_icmp_ge (z_dec zd_X9_ring 109 rfl) (t := 223) (by decide) (n := 191) rfl (fun h188 => ?_) (fun h188 => ?_)
          · exact absurd (z_ge (a := np) h188) (by omega)
          · have hx183 : t183 < np := by omega
            refine p_aload_n (z_dec zd_X9_ring 110 rfl) rfl 2 rfl (n := 192) rfl ?_
            refine q_getR (z_dec zd_X9_ring 111 rfl) zf_X9_52 (i := 69) rfl rfl (n := 195) rfl ?_
            refine p_bipush (z_dec zd_X9_ring 112 rfl) (v := 10) (by decide) (n := 197) rfl ?_
            refine p_iload_n (z_dec zd_X9_ring 113 rfl) rfl 0 rfl (n := 198) rfl ?_
            refine p_imul (z_dec zd_X9_ring 114 rfl) (n := 199) rfl ?_
            refine p_iload_n (z_dec zd_X9_ring 115 rfl) rfl 0 rfl (n := 200) rfl ?_
            refine p_iadd (z_dec zd_X9_ring 116 rfl) (n := 201) rfl ?_
            refine q_iald (z_dec zd_X9_ring 117 rfl) rfl (by decide) ((10 * t183) + t183) (z_addE (z_mulE rfl rfl) rfl) (by omega) (v := ((gw_X9_ring_58 np np 0 (gw_X9_ring_23 100 0 (m_X9_takesResults I L np sh.toNatClampNeg))) 69 ((10 * t183) + t183))) rfl (n := 202) rfl ?_
            refine p_istore (z_dec zd_X9_ring 118 rfl) (lv2 := [(4, .int ((gw_X9_ring_58 np np 0 (gw_X9_ring_23 100 0 (m_X9_takesResults I L np sh.toNatClampNeg))) 69 ((10 * t183) + t183))), (3, .int (nI t183)), (2, .int v2), (0, .ref 54), (1, .int sh)]) (by decide) rfl (n := 204) rfl ?_
            refine p_iload (z_dec zd_X9_ring 119 rfl) 0 rfl (n := 206) rfl ?_
            refine p_iload_n (z_dec zd_X9_ring 120 rfl) rfl 2 rfl (n := 207) rfl ?_
            refine p_icmp_ge (z_dec zd_X9_ring 121 rfl) (t := 215) (by decide) (n := 210) rfl (fun h207 => ?_) (fun h207 => ?_)
            · refine p_iload_n (z_dec zd_X9_ring 124 rfl) rfl 2 rfl (n := 216) rfl ?_
              refine p_istore_n (z_dec zd_X9_ring 125 rfl) rfl (lv2 := [(2, .int v2), (4, .int ((gw_X9_ring_58 np np 0 (gw_X9_ring_23 100 0 (m_X9_takesResults I L np sh.toNatClampNeg))) 69 ((10 * t183) + t183))), (3, .int (nI t183)), (0, .ref 54), (1, .int sh)]) (by decide) rfl (n := 217) rfl ?_
              refine p_iinc (z_dec zd_X9_ring 126 rfl) 2 rfl (v := (nI (t183 + 1))) (nI_1 _) (lv2 := [(3, .int (nI (t183 + 1))), (2, .int v2), (4, .int ((gw_X9_ring_58 np np 0 (gw_X9_ring_23 100 0 (m_X9_takesResults I L np sh.toNatClampNeg))) 69 ((10 * t183) + t183))), (0, .ref 54), (1, .int sh)]) (by decide) rfl (n := 220) rfl ?_
              refine p_goto (z_dec zd_X9_ring 127 rfl) (t := 183) (by decide) ?_
              refine z_sub (lv' := [(3, .int (nI (t183 + 1))), (2, .int v2), (0, .ref 54), (1, .int sh)]) [0, 1, 3, 4] rfl ?_
              rw [show gx_X9_ring_183 I L np sh (r183 + 1) t183 v2 = gx_X9_ring_183 I L np sh r183 (t183 + 1) v2 from by (conv => lhs; unfold gx_X9_ring_183); rw [if_pos h207]]
              exact ih183 (t183 + 1) v2 (by omega)
            · refine p_iload (z_dec zd_X9_ring 122 rfl) 0 rfl (n := 212) rfl ?_
              refine p_goto (z_dec zd_X9_ring 123 rfl) (t := 216) (by decide) ?_
              refine p_istore_n (z_dec zd_X9_ring 125 rfl) rfl (lv2 := [(2, .int ((gw_X9_ring_58 np np 0 (gw_X9_ring_23 100 0 (m_X9_takesResults I L np sh.toNatClampNeg))) 69 ((10 * t183) + t183))), (4, .int ((gw_X9_ring_58 np np 0 (gw_X9_ring_23 100 0 (m_X9_takesResults I L np sh.toNatClampNeg))) 69 ((10 * t183) + t183))), (3, .int (nI t183)), (0, .ref 54), (1, .int sh)]) (by decide) rfl (n := 217) rfl ?_
              refine p_iinc (z_dec zd_X9_ring 126 rfl) 2 rfl (v := (nI (t183 + 1))) (nI_1 _) (lv2 := [(3, .int (nI (t183 + 1))), (2, .int ((gw_X9_ring_58 np np 0 (gw_X9_ring_23 100 0 (m_X9_takesResults I L np sh.toNatClampNeg))) 69 ((10 * t183) + t183))), (4, .int ((gw_X9_ring_58 np np 0 (gw_X9_ring_23 100 0 (m_X9_takesResults I L np sh.toNatClampNeg))) 69 ((10 * t183) + t183))), (0, .ref 54), (1, .int sh)]) (by decide) rfl (n := 220) rfl ?_
              refine p_goto (z_dec zd_X9_ring 127 rfl) (t := 183) (by decide) ?_
              refine z_sub (lv' := [(3, .int (nI (t183 + 1))), (2, .int ((gw_X9_ring_58 np np 0 (gw_X9_ring_23 100 0 (m_X9_takesResults I L np sh.toNatClampNeg))) 69 ((10 * t183) + t183))), (0, .ref 54), (1, .int sh)]) [0, 1, 3, 4] rfl ?_
              rw [show gx_X9_ring_183 I L np sh (r183 + 1) t183 v2 = gx_X9_ring_183 I L np sh r183 (t183 + 1) ((gw_X9_ring_58 np np 0 (gw_X9_ring_23 100 0 (m_X9_takesResults I L np sh.toNatClampNeg))) 69 ((10 * t183) + t183)) from by (conv => lhs; unfold gx_X9_ring_183); rw [if_neg h207]]
              exact ih183 (t183 + 1) ((gw_X9_ring_58 np np 0 (gw_X9_ring_23 100 0 (m_X9_takesResults I L np sh.toNatClampNeg))) 69 ((10 * t183) + t183)) (by omega)
      exact (by have q := (hL183 np 0 1000000 (by omega)); (rw [show f_X9_ring I L np sh = _ from by unfold f_X9_ring; rw [if_pos h6]]); (rw [show m_X9_ring I L np sh = _ from by unfold m_X9_ring; rw [if_pos h6]]); exact q)
    · refine p_aload_n (z_dec zd_X9_ring 5 rfl) rfl 0 rfl (n := 10) rfl ?_
      refine p_iload_n (z_dec zd_X9_ring 6 rfl) rfl 1 rfl (n := 11) rfl ?_
      refine p_iconst (z_dec zd_X9_ring 7 rfl) (v := 0) (by decide) (n := 12) rfl ?_
      refine q_callV (As := [.int sh, .int 0]) (rest := []) (z_dec zd_X9_ring 8 rfl) zk_X9_233 zv_X9_rowIs (c_X9_rowIs (d - 1) (by omega) b I L sh 0) rfl ⟨_, _, rfl⟩ rfl rfl (Nat.le_of_ble_eq_true rfl) (by omega) (n := 15) rfl ?_
      show PW zm_X9_ring d 15 [(0, .ref 54), (1, .int sh)] [.int (f_X9_rowIs I sh 0)] SH (I, L, z_R b) 0 0 _
      exact p_iret (z_dec zd_X9_ring 9 rfl) rfl ⟨(by unfold f_X9_ring; rw [if_neg h6]), rfl, (z_3 (by unfold m_X9_ring; rw [if_neg h6]) rfl)⟩
  exact hentry
