def yq_IX8_init_0 (I : Nat → Nat → Int32) : Nat → Nat → Int32 := (yq_IX4_init_58 (yq_IX4_init_56 (yq_IX4_init_54 (yq_IX4_init_52 (yq_IX4_init_50 (yq_IX4_init_48 (yq_IX5_init_44 (yq_IX0_init_39 (yq_IX6_init_31 (yq_IX2_init_26 (yq_IX3_init_18 (yq_IX1_init_13 (z_up (yq_IX7_init_7 (yq_IX7_init_1 I)) 0 2 0)))))))))))))
def yq_RX8_init_0 (R : Nat → Nat → Option Nat) : Nat → Nat → Option Nat := (z_up (yq_RX4_init_58 (z_up (yq_RX4_init_56 (z_up (yq_RX4_init_54 (z_up (yq_RX4_init_52 (z_up (yq_RX4_init_50 (z_up (yq_RX4_init_48 (z_up (z_up (yq_RX5_init_44 (z_up (yq_RX0_init_39 (z_up (yq_RX6_init_31 (z_up (yq_RX2_init_26 (z_up (yq_RX3_init_18 (z_up (yq_RX1_init_13 (z_up (yq_RX7_init_7 (z_up (yq_RX7_init_1 R) 0 0 (some 1))) 0 1 (some 7))) 0 3 (some 13))) 0 4 (some 18))) 0 5 (some 26))) 0 6 (some 31))) 0 7 (some 39))) 0 8 (some 44)) 0 9 (some 47))) 47 0 (some 48))) 47 1 (some 50))) 47 2 (some 52))) 47 3 (some 54))) 47 4 (some 56))) 47 5 (some 58))
set_option maxHeartbeats 8000000 in
set_option maxRecDepth 100000 in
theorem c_X8_init_0 (d : Nat) (hd : 3 ≤ d) (I : Nat → Nat → Int32) (L : Nat → Nat → Int64) (R : Nat → Nat → Option Nat) (hZ : yq_Z 1 I L R) : z_CT zm_X8_init d [.ref 0] (SN.take 1) (I, L, R) 59 3530 (yq_ret 60 (yq_IX8_init_0 I, L, yq_RX8_init_0 R)) := by
  refine z_enter (by decide +kernel) (Nat.le_of_ble_eq_true rfl) ?_
  have hentry : PW zm_X8_init d 0 [(0, .ref 0)] [] (SN.take 1) (I, L, R) 59 3530 (yq_ret 60 ((yq_IX4_init_58 (yq_IX4_init_56 (yq_IX4_init_54 (yq_IX4_init_52 (yq_IX4_init_50 (yq_IX4_init_48 (yq_IX5_init_44 (yq_IX0_init_39 (yq_IX6_init_31 (yq_IX2_init_26 (yq_IX3_init_18 (yq_IX1_init_13 (z_up (yq_IX7_init_7 (yq_IX7_init_1 I)) 0 2 0))))))))))))), L, (z_up (yq_RX4_init_58 (z_up (yq_RX4_init_56 (z_up (yq_RX4_init_54 (z_up (yq_RX4_init_52 (z_up (yq_RX4_init_50 (z_up (yq_RX4_init_48 (z_up (z_up (yq_RX5_init_44 (z_up (yq_RX0_init_39 (z_up (yq_RX6_init_31 (z_up (yq_RX2_init_26 (z_up (yq_RX3_init_18 (z_up (yq_RX1_init_13 (z_up (yq_RX7_init_7 (z_up (yq_RX7_init_1 R) 0 0 (some 1))) 0 1 (some 7))) 0 3 (some 13))) 0 4 (some 18))) 0 5 (some 26))) 0 6 (some 31))) 0 7 (some 39))) 0 8 (some 44)) 0 9 (some 47))) 47 0 (some 48))) 47 1 (some 50))) 47 2 (some 52))) 47 3 (some 54))) 47 4 (some 56))) 47 5 (some 58)))) := by
    refine p_aload_n (z_dec zd_X8_init 0 rfl) rfl 0 rfl (n := 1) rfl ?_
    refine p_objI (z_dec zd_X8_init 1 rfl) zk_X8_1 (by omega) (by decide) (n := 4) rfl ?_
    refine p_aload_n (z_dec zd_X8_init 2 rfl) rfl 0 rfl (n := 5) rfl ?_
    refine q_new (ci := 7) (N := 8) (mc := 58) (ms := 3522) 1 (z_dec zd_X8_init 3 rfl) rfl yq_nw_X8_7 yq_tl_1 (by decide) hZ yq_ta_1 (n := 8) rfl ?_
    have hZ1 := yq_Zm hZ (show 1 ≤ 2 by decide)
    refine p_dup (z_dec zd_X8_init 4 rfl) rfl (n := 9) rfl ?_
    refine q_callIN (As := []) (mc := 53) (ms := 3477) (mc2 := 5) (ms2 := 45) (n0 := 2) (n1 := 7) (z_dec zd_X8_init 5 rfl) ⟨List.mem_of_getElem? (i := 0) (by decide +kernel), zn_X7, zw_X7_init, by decide +kernel, by decide +kernel, by decide⟩ rfl ⟨rfl, zi_X7_init⟩ (c_X7_init_1 (d - 1) (by omega) I L R hZ1) [.ref 1, .ref 0] rfl rfl (by decide) (by omega) (by rw [yq_tl_7, yq_tl_2]) (n := 12) rfl ?_
    have hZ2 := c_X7_init_1Z hZ1
    refine q_putR (z_dec zd_X8_init 6 rfl) zp_X8_10 (fun _ => rfl) (fun _ => ⟨rfl, rfl⟩) yq_tg_7_0 (n := 15) rfl ?_
    have hZ3 := yq_ZR hZ2 (show 0 < 7 by decide) 0 (some 1)
    refine p_aload_n (z_dec zd_X8_init 7 rfl) rfl 0 rfl (n := 16) rfl ?_
    refine q_new (ci := 7) (N := 8) (mc := 52) (ms := 3469) 7 (z_dec zd_X8_init 8 rfl) rfl yq_nw_X8_7 yq_tl_7 (by decide) hZ3 yq_ta_7 (n := 19) rfl ?_
    have hZ4 := yq_Zm hZ3 (show 7 ≤ 8 by decide)
    refine p_dup (z_dec zd_X8_init 9 rfl) rfl (n := 20) rfl ?_
    refine q_callIN (As := []) (mc := 47) (ms := 3424) (mc2 := 5) (ms2 := 45) (n0 := 8) (n1 := 13) (z_dec zd_X8_init 10 rfl) ⟨List.mem_of_getElem? (i := 0) (by decide +kernel), zn_X7, zw_X7_init, by decide +kernel, by decide +kernel, by decide⟩ rfl ⟨rfl, zi_X7_init⟩ (c_X7_init_7 (d - 1) (by omega) (yq_IX7_init_1 I) L (z_up (yq_RX7_init_1 R) 0 0 (some 1)) hZ4) [.ref 7, .ref 0] rfl rfl (by decide) (by omega) (by rw [yq_tl_13, yq_tl_8]) (n := 23) rfl ?_
    have hZ5 := c_X7_init_7Z hZ4
    refine q_putR (z_dec zd_X8_init 11 rfl) zp_X8_16 (fun _ => rfl) (fun _ => ⟨rfl, rfl⟩) yq_tg_13_0 (n := 26) rfl ?_
    have hZ6 := yq_ZR hZ5 (show 0 < 13 by decide) 1 (some 7)
    refine p_aload_n (z_dec zd_X8_init 12 rfl) rfl 0 rfl (n := 27) rfl ?_
    refine p_iconst (z_dec zd_X8_init 13 rfl) (v := 0) (by decide) (n := 28) rfl ?_
    refine q_putZ (z_dec zd_X8_init 14 rfl) zp_X8_19 (fun q => by cases q) (Or.inl rfl) yq_tg_13_0 (n := 31) rfl ?_
    have hZ7 := yq_ZI hZ6 (show 0 < 13 by decide) 2 0
    refine p_aload_n (z_dec zd_X8_init 15 rfl) rfl 0 rfl (n := 32) rfl ?_
    refine q_new (ci := 1) (N := 9) (mc := 46) (ms := 3415) 13 (z_dec zd_X8_init 16 rfl) rfl yq_nw_X8_23 yq_tl_13 (by decide) hZ7 yq_ta_13 (n := 35) rfl ?_
    have hZ8 := yq_Zm hZ7 (show 13 ≤ 14 by decide)
    refine p_dup (z_dec zd_X8_init 17 rfl) rfl (n := 36) rfl ?_
    refine q_callIN (As := []) (mc := 42) (ms := 2932) (mc2 := 4) (ms2 := 483) (n0 := 14) (n1 := 18) (z_dec zd_X8_init 18 rfl) ⟨List.mem_of_getElem? (i := 1) (by decide +kernel), zn_X1, zw_X1_init, by decide +kernel, by decide +kernel, by decide⟩ rfl ⟨rfl, zi_X1_init⟩ (c_X1_init_13 (d - 1) (by omega) (z_up (yq_IX7_init_7 (yq_IX7_init_1 I)) 0 2 0) L (z_up (yq_RX7_init_7 (z_up (yq_RX7_init_1 R) 0 0 (some 1))) 0 1 (some 7)) hZ8) [.ref 13, .ref 0] rfl rfl (by decide) (by omega) (by rw [yq_tl_18, yq_tl_14]) (n := 39) rfl ?_
    have hZ9 := c_X1_init_13Z hZ8
    refine q_putR (z_dec zd_X8_init 19 rfl) zp_X8_26 (fun _ => rfl) (fun _ => ⟨rfl, rfl⟩) yq_tg_18_0 (n := 42) rfl ?_
    have hZ10 := yq_ZR hZ9 (show 0 < 18 by decide) 3 (some 13)
    refine p_aload_n (z_dec zd_X8_init 20 rfl) rfl 0 rfl (n := 43) rfl ?_
    refine q_new (ci := 3) (N := 4) (mc := 41) (ms := 2928) 18 (z_dec zd_X8_init 21 rfl) rfl yq_nw_X8_30 yq_tl_18 (by decide) hZ10 yq_ta_18 (n := 46) rfl ?_
    have hZ11 := yq_Zm hZ10 (show 18 ≤ 19 by decide)
    refine p_dup (z_dec zd_X8_init 22 rfl) rfl (n := 47) rfl ?_
    refine q_callIN (As := []) (mc := 34) (ms := 2865) (mc2 := 7) (ms2 := 63) (n0 := 19) (n1 := 26) (z_dec zd_X8_init 23 rfl) ⟨List.mem_of_getElem? (i := 2) (by decide +kernel), zn_X3, zw_X3_init, by decide +kernel, by decide +kernel, by decide⟩ rfl ⟨rfl, zi_X3_init⟩ (c_X3_init_18 (d - 1) (by omega) (yq_IX1_init_13 (z_up (yq_IX7_init_7 (yq_IX7_init_1 I)) 0 2 0)) L (z_up (yq_RX1_init_13 (z_up (yq_RX7_init_7 (z_up (yq_RX7_init_1 R) 0 0 (some 1))) 0 1 (some 7))) 0 3 (some 13)) hZ11) [.ref 18, .ref 0] rfl rfl (by decide) (by omega) (by rw [yq_tl_26, yq_tl_19]) (n := 50) rfl ?_
    have hZ12 := c_X3_init_18Z hZ11
    refine q_putR (z_dec zd_X8_init 24 rfl) zp_X8_33 (fun _ => rfl) (fun _ => ⟨rfl, rfl⟩) yq_tg_26_0 (n := 53) rfl ?_
    have hZ13 := yq_ZR hZ12 (show 0 < 26 by decide) 4 (some 18)
    refine p_aload_n (z_dec zd_X8_init 25 rfl) rfl 0 rfl (n := 54) rfl ?_
    refine q_new (ci := 2) (N := 5) (mc := 33) (ms := 2860) 26 (z_dec zd_X8_init 26 rfl) rfl yq_nw_X8_37 yq_tl_26 (by decide) hZ13 yq_ta_26 (n := 57) rfl ?_
    have hZ14 := yq_Zm hZ13 (show 26 ≤ 27 by decide)
    refine p_dup (z_dec zd_X8_init 27 rfl) rfl (n := 58) rfl ?_
    refine q_callIN (As := []) (mc := 29) (ms := 792) (mc2 := 4) (ms2 := 2068) (n0 := 27) (n1 := 31) (z_dec zd_X8_init 28 rfl) ⟨List.mem_of_getElem? (i := 4) (by decide +kernel), zn_X2, zw_X2_init, by decide +kernel, by decide +kernel, by decide⟩ rfl ⟨rfl, zi_X2_init⟩ (c_X2_init_26 (d - 1) (by omega) (yq_IX3_init_18 (yq_IX1_init_13 (z_up (yq_IX7_init_7 (yq_IX7_init_1 I)) 0 2 0))) L (z_up (yq_RX3_init_18 (z_up (yq_RX1_init_13 (z_up (yq_RX7_init_7 (z_up (yq_RX7_init_1 R) 0 0 (some 1))) 0 1 (some 7))) 0 3 (some 13))) 0 4 (some 18)) hZ14) [.ref 26, .ref 0] rfl rfl (by decide) (by omega) (by rw [yq_tl_31, yq_tl_27]) (n := 61) rfl ?_
    have hZ15 := c_X2_init_26Z hZ14
    refine q_putR (z_dec zd_X8_init 29 rfl) zp_X8_40 (fun _ => rfl) (fun _ => ⟨rfl, rfl⟩) yq_tg_31_0 (n := 64) rfl ?_
    have hZ16 := yq_ZR hZ15 (show 0 < 31 by decide) 5 (some 26)
    refine p_aload_n (z_dec zd_X8_init 30 rfl) rfl 0 rfl (n := 65) rfl ?_
    refine q_new (ci := 6) (N := 4) (mc := 28) (ms := 788) 31 (z_dec zd_X8_init 31 rfl) rfl yq_nw_X8_44 yq_tl_31 (by decide) hZ16 yq_ta_31 (n := 68) rfl ?_
    have hZ17 := yq_Zm hZ16 (show 31 ≤ 32 by decide)
    refine p_dup (z_dec zd_X8_init 32 rfl) rfl (n := 69) rfl ?_
    refine q_callIN (As := []) (mc := 21) (ms := 635) (mc2 := 7) (ms2 := 153) (n0 := 32) (n1 := 39) (z_dec zd_X8_init 33 rfl) ⟨List.mem_of_getElem? (i := 5) (by decide +kernel), zn_X6, zw_X6_init, by decide +kernel, by decide +kernel, by decide⟩ rfl ⟨rfl, zi_X6_init⟩ (c_X6_init_31 (d - 1) (by omega) (yq_IX2_init_26 (yq_IX3_init_18 (yq_IX1_init_13 (z_up (yq_IX7_init_7 (yq_IX7_init_1 I)) 0 2 0)))) L (z_up (yq_RX2_init_26 (z_up (yq_RX3_init_18 (z_up (yq_RX1_init_13 (z_up (yq_RX7_init_7 (z_up (yq_RX7_init_1 R) 0 0 (some 1))) 0 1 (some 7))) 0 3 (some 13))) 0 4 (some 18))) 0 5 (some 26)) hZ17) [.ref 31, .ref 0] rfl rfl (by decide) (by omega) (by rw [yq_tl_39, yq_tl_32]) (n := 72) rfl ?_
    have hZ18 := c_X6_init_31Z hZ17
    refine q_putR (z_dec zd_X8_init 34 rfl) zp_X8_47 (fun _ => rfl) (fun _ => ⟨rfl, rfl⟩) yq_tg_39_0 (n := 75) rfl ?_
    have hZ19 := yq_ZR hZ18 (show 0 < 39 by decide) 6 (some 31)
    refine p_aload_n (z_dec zd_X8_init 35 rfl) rfl 0 rfl (n := 76) rfl ?_
    refine q_new (ci := 0) (N := 6) (mc := 20) (ms := 629) 39 (z_dec zd_X8_init 36 rfl) rfl yq_nw_X8_51 yq_tl_39 (by decide) hZ19 yq_ta_39 (n := 79) rfl ?_
    have hZ20 := yq_Zm hZ19 (show 39 ≤ 40 by decide)
    refine p_dup (z_dec zd_X8_init 37 rfl) rfl (n := 80) rfl ?_
    refine q_callIN (As := []) (mc := 16) (ms := 469) (mc2 := 4) (ms2 := 160) (n0 := 40) (n1 := 44) (z_dec zd_X8_init 38 rfl) ⟨List.mem_of_getElem? (i := 7) (by decide +kernel), zn_X0, zw_X0_init, by decide +kernel, by decide +kernel, by decide⟩ rfl ⟨rfl, zi_X0_init⟩ (c_X0_init_39 (d - 1) (by omega) (yq_IX6_init_31 (yq_IX2_init_26 (yq_IX3_init_18 (yq_IX1_init_13 (z_up (yq_IX7_init_7 (yq_IX7_init_1 I)) 0 2 0))))) L (z_up (yq_RX6_init_31 (z_up (yq_RX2_init_26 (z_up (yq_RX3_init_18 (z_up (yq_RX1_init_13 (z_up (yq_RX7_init_7 (z_up (yq_RX7_init_1 R) 0 0 (some 1))) 0 1 (some 7))) 0 3 (some 13))) 0 4 (some 18))) 0 5 (some 26))) 0 6 (some 31)) hZ20) [.ref 39, .ref 0] rfl rfl (by decide) (by omega) (by rw [yq_tl_44, yq_tl_40]) (n := 83) rfl ?_
    have hZ21 := c_X0_init_39Z hZ20
    refine q_putR (z_dec zd_X8_init 39 rfl) zp_X8_54 (fun _ => rfl) (fun _ => ⟨rfl, rfl⟩) yq_tg_44_0 (n := 86) rfl ?_
    have hZ22 := yq_ZR hZ21 (show 0 < 44 by decide) 7 (some 39)
    refine p_aload_n (z_dec zd_X8_init 40 rfl) rfl 0 rfl (n := 87) rfl ?_
    refine q_new (ci := 5) (N := 5) (mc := 15) (ms := 464) 44 (z_dec zd_X8_init 41 rfl) rfl yq_nw_X8_58 yq_tl_44 (by decide) hZ22 yq_ta_44 (n := 90) rfl ?_
    have hZ23 := yq_Zm hZ22 (show 44 ≤ 45 by decide)
    refine p_dup (z_dec zd_X8_init 42 rfl) rfl (n := 91) rfl ?_
    refine q_callIN (As := []) (mc := 13) (ms := 390) (mc2 := 2) (ms2 := 74) (n0 := 45) (n1 := 47) (z_dec zd_X8_init 43 rfl) ⟨List.mem_of_getElem? (i := 8) (by decide +kernel), zn_X5, zw_X5_init, by decide +kernel, by decide +kernel, by decide⟩ rfl ⟨rfl, zi_X5_init⟩ (c_X5_init_44 (d - 1) (by omega) (yq_IX0_init_39 (yq_IX6_init_31 (yq_IX2_init_26 (yq_IX3_init_18 (yq_IX1_init_13 (z_up (yq_IX7_init_7 (yq_IX7_init_1 I)) 0 2 0)))))) L (z_up (yq_RX0_init_39 (z_up (yq_RX6_init_31 (z_up (yq_RX2_init_26 (z_up (yq_RX3_init_18 (z_up (yq_RX1_init_13 (z_up (yq_RX7_init_7 (z_up (yq_RX7_init_1 R) 0 0 (some 1))) 0 1 (some 7))) 0 3 (some 13))) 0 4 (some 18))) 0 5 (some 26))) 0 6 (some 31))) 0 7 (some 39)) hZ23) [.ref 44, .ref 0] rfl rfl (by decide) (by omega) (by rw [yq_tl_47, yq_tl_45]) (n := 94) rfl ?_
    have hZ24 := c_X5_init_44Z hZ23
    refine q_putR (z_dec zd_X8_init 44 rfl) zp_X8_61 (fun _ => rfl) (fun _ => ⟨rfl, rfl⟩) yq_tg_47_0 (n := 97) rfl ?_
    have hZ25 := yq_ZR hZ24 (show 0 < 47 by decide) 8 (some 44)
    refine p_aload_n (z_dec zd_X8_init 45 rfl) rfl 0 rfl (n := 98) rfl ?_
    refine p_bipush (z_dec zd_X8_init 46 rfl) (v := 6) (by decide) (n := 100) rfl ?_
    refine q_newA (N := 6) (mc := 12) (ms := 384) 47 (z_dec zd_X8_init 47 rfl) yq_nw_X8_65.1 rfl (by decide) yq_tl_47 (by decide) hZ25 yq_ta_47 (n := 103) rfl ?_
    have hZ26 := yq_Zm hZ25 (show 47 ≤ 48 by decide)
    refine q_putR (z_dec zd_X8_init 48 rfl) zp_X8_67 (fun _ => rfl) (fun _ => ⟨rfl, rfl⟩) yq_tg_48_0 (n := 106) rfl ?_
    have hZ27 := yq_ZR hZ26 (show 0 < 48 by decide) 9 (some 47)
    refine p_iconst (z_dec zd_X8_init 49 rfl) (v := 0) (by decide) (n := 107) rfl ?_
    refine p_istore_n (z_dec zd_X8_init 50 rfl) rfl (lv2 := [(1, .int 0), (0, .ref 0)]) (by decide) rfl (n := 108) rfl ?_
    refine p_iload_n (z_dec zd_X8_init 51 rfl) rfl 0 rfl (n := 109) rfl ?_
    refine p_aload_n (z_dec zd_X8_init 52 rfl) rfl 1 rfl (n := 110) rfl ?_
    refine q_getR (z_dec zd_X8_init 53 rfl) zf_X8_67 (i := 47) rfl yq_tg_48_0 (n := 113) rfl ?_
    refine p_alen (t := 2) (by decide) (z_dec zd_X8_init 54 rfl) yq_tg_48_47 (v := 6) rfl (n := 114) rfl ?_
    refine p_icmp_ge (z_dec zd_X8_init 55 rfl) (t := 136) (by decide) (n := 117) rfl (fun hq => absurd hq (by decide)) (fun hq => ?_)
    refine p_aload_n (z_dec zd_X8_init 56 rfl) rfl 1 rfl (n := 118) rfl ?_
    refine q_getR (z_dec zd_X8_init 57 rfl) zf_X8_67 (i := 47) rfl yq_tg_48_0 (n := 121) rfl ?_
    refine p_iload_n (z_dec zd_X8_init 58 rfl) rfl 0 rfl (n := 122) rfl ?_
    refine q_new (ci := 4) (N := 4) (mc := 11) (ms := 380) 48 (z_dec zd_X8_init 59 rfl) rfl yq_nw_X8_65 yq_tl_48 (by decide) hZ27 yq_ta_48 (n := 125) rfl ?_
    have hZ28 := yq_Zm hZ27 (show 48 ≤ 49 by decide)
    refine p_dup (z_dec zd_X8_init 60 rfl) rfl (n := 126) rfl ?_
    refine q_callIN (As := []) (mc := 10) (ms := 320) (mc2 := 1) (ms2 := 60) (n0 := 49) (n1 := 50) (z_dec zd_X8_init 61 rfl) ⟨List.mem_of_getElem? (i := 9) (by decide +kernel), zn_X4, zw_X4_init, by decide +kernel, by decide +kernel, by decide⟩ rfl ⟨rfl, zi_X4_init⟩ (c_X4_init_48 (d - 1) (by omega) (yq_IX5_init_44 (yq_IX0_init_39 (yq_IX6_init_31 (yq_IX2_init_26 (yq_IX3_init_18 (yq_IX1_init_13 (z_up (yq_IX7_init_7 (yq_IX7_init_1 I)) 0 2 0))))))) L (z_up (z_up (yq_RX5_init_44 (z_up (yq_RX0_init_39 (z_up (yq_RX6_init_31 (z_up (yq_RX2_init_26 (z_up (yq_RX3_init_18 (z_up (yq_RX1_init_13 (z_up (yq_RX7_init_7 (z_up (yq_RX7_init_1 R) 0 0 (some 1))) 0 1 (some 7))) 0 3 (some 13))) 0 4 (some 18))) 0 5 (some 26))) 0 6 (some 31))) 0 7 (some 39))) 0 8 (some 44)) 0 9 (some 47)) hZ28) [.ref 48, .int 0, .ref 47] rfl rfl (by decide) (by omega) (by rw [yq_tl_50, yq_tl_49]) (n := 129) rfl ?_
    have hZ29 := c_X4_init_48Z hZ28
    refine p_aast (ci := 4) (N := 6) (z_dec zd_X8_init 62 rfl) yq_tg_50_47 yq_tg_50_48 rfl (by decide) 0 rfl (by decide) (n := 130) rfl ?_
    have hZ30 := yq_ZR hZ29 (show 47 < 50 by decide) 0 (some 48)
    refine p_iinc (z_dec zd_X8_init 63 rfl) 0 rfl (v := 1) (by decide) (lv2 := [(1, .int 1), (0, .ref 0)]) (by decide) rfl (n := 133) rfl ?_
    refine p_goto (z_dec zd_X8_init 64 rfl) (t := 108) (by decide) ?_
    refine p_iload_n (z_dec zd_X8_init 51 rfl) rfl 0 rfl (n := 109) rfl ?_
    refine p_aload_n (z_dec zd_X8_init 52 rfl) rfl 1 rfl (n := 110) rfl ?_
    refine q_getR (z_dec zd_X8_init 53 rfl) zf_X8_67 (i := 47) rfl yq_tg_50_0 (n := 113) rfl ?_
    refine p_alen (t := 2) (by decide) (z_dec zd_X8_init 54 rfl) yq_tg_50_47 (v := 6) rfl (n := 114) rfl ?_
    refine p_icmp_ge (z_dec zd_X8_init 55 rfl) (t := 136) (by decide) (n := 117) rfl (fun hq => absurd hq (by decide)) (fun hq => ?_)
    refine p_aload_n (z_dec zd_X8_init 56 rfl) rfl 1 rfl (n := 118) rfl ?_
    refine q_getR (z_dec zd_X8_init 57 rfl) zf_X8_67 (i := 47) rfl yq_tg_50_0 (n := 121) rfl ?_
    refine p_iload_n (z_dec zd_X8_init 58 rfl) rfl 0 rfl (n := 122) rfl ?_
    refine q_new (ci := 4) (N := 4) (mc := 9) (ms := 316) 50 (z_dec zd_X8_init 59 rfl) rfl yq_nw_X8_65 yq_tl_50 (by decide) hZ30 yq_ta_50 (n := 125) rfl ?_
    have hZ31 := yq_Zm hZ30 (show 50 ≤ 51 by decide)
    refine p_dup (z_dec zd_X8_init 60 rfl) rfl (n := 126) rfl ?_
    refine q_callIN (As := []) (mc := 8) (ms := 256) (mc2 := 1) (ms2 := 60) (n0 := 51) (n1 := 52) (z_dec zd_X8_init 61 rfl) ⟨List.mem_of_getElem? (i := 9) (by decide +kernel), zn_X4, zw_X4_init, by decide +kernel, by decide +kernel, by decide⟩ rfl ⟨rfl, zi_X4_init⟩ (c_X4_init_50 (d - 1) (by omega) (yq_IX4_init_48 (yq_IX5_init_44 (yq_IX0_init_39 (yq_IX6_init_31 (yq_IX2_init_26 (yq_IX3_init_18 (yq_IX1_init_13 (z_up (yq_IX7_init_7 (yq_IX7_init_1 I)) 0 2 0)))))))) L (z_up (yq_RX4_init_48 (z_up (z_up (yq_RX5_init_44 (z_up (yq_RX0_init_39 (z_up (yq_RX6_init_31 (z_up (yq_RX2_init_26 (z_up (yq_RX3_init_18 (z_up (yq_RX1_init_13 (z_up (yq_RX7_init_7 (z_up (yq_RX7_init_1 R) 0 0 (some 1))) 0 1 (some 7))) 0 3 (some 13))) 0 4 (some 18))) 0 5 (some 26))) 0 6 (some 31))) 0 7 (some 39))) 0 8 (some 44)) 0 9 (some 47))) 47 0 (some 48)) hZ31) [.ref 50, .int 1, .ref 47] rfl rfl (by decide) (by omega) (by rw [yq_tl_52, yq_tl_51]) (n := 129) rfl ?_
    have hZ32 := c_X4_init_50Z hZ31
    refine p_aast (ci := 4) (N := 6) (z_dec zd_X8_init 62 rfl) yq_tg_52_47 yq_tg_52_50 rfl (by decide) 1 rfl (by decide) (n := 130) rfl ?_
    have hZ33 := yq_ZR hZ32 (show 47 < 52 by decide) 1 (some 50)
    refine p_iinc (z_dec zd_X8_init 63 rfl) 0 rfl (v := 2) (by decide) (lv2 := [(1, .int 2), (0, .ref 0)]) (by decide) rfl (n := 133) rfl ?_
    refine p_goto (z_dec zd_X8_init 64 rfl) (t := 108) (by decide) ?_
    refine p_iload_n (z_dec zd_X8_init 51 rfl) rfl 0 rfl (n := 109) rfl ?_
    refine p_aload_n (z_dec zd_X8_init 52 rfl) rfl 1 rfl (n := 110) rfl ?_
    refine q_getR (z_dec zd_X8_init 53 rfl) zf_X8_67 (i := 47) rfl yq_tg_52_0 (n := 113) rfl ?_
    refine p_alen (t := 2) (by decide) (z_dec zd_X8_init 54 rfl) yq_tg_52_47 (v := 6) rfl (n := 114) rfl ?_
    refine p_icmp_ge (z_dec zd_X8_init 55 rfl) (t := 136) (by decide) (n := 117) rfl (fun hq => absurd hq (by decide)) (fun hq => ?_)
    refine p_aload_n (z_dec zd_X8_init 56 rfl) rfl 1 rfl (n := 118) rfl ?_
    refine q_getR (z_dec zd_X8_init 57 rfl) zf_X8_67 (i := 47) rfl yq_tg_52_0 (n := 121) rfl ?_
    refine p_iload_n (z_dec zd_X8_init 58 rfl) rfl 0 rfl (n := 122) rfl ?_
    refine q_new (ci := 4) (N := 4) (mc := 7) (ms := 252) 52 (z_dec zd_X8_init 59 rfl) rfl yq_nw_X8_65 yq_tl_52 (by decide) hZ33 yq_ta_52 (n := 125) rfl ?_
    have hZ34 := yq_Zm hZ33 (show 52 ≤ 53 by decide)
    refine p_dup (z_dec zd_X8_init 60 rfl) rfl (n := 126) rfl ?_
    refine q_callIN (As := []) (mc := 6) (ms := 192) (mc2 := 1) (ms2 := 60) (n0 := 53) (n1 := 54) (z_dec zd_X8_init 61 rfl) ⟨List.mem_of_getElem? (i := 9) (by decide +kernel), zn_X4, zw_X4_init, by decide +kernel, by decide +kernel, by decide⟩ rfl ⟨rfl, zi_X4_init⟩ (c_X4_init_52 (d - 1) (by omega) (yq_IX4_init_50 (yq_IX4_init_48 (yq_IX5_init_44 (yq_IX0_init_39 (yq_IX6_init_31 (yq_IX2_init_26 (yq_IX3_init_18 (yq_IX1_init_13 (z_up (yq_IX7_init_7 (yq_IX7_init_1 I)) 0 2 0))))))))) L (z_up (yq_RX4_init_50 (z_up (yq_RX4_init_48 (z_up (z_up (yq_RX5_init_44 (z_up (yq_RX0_init_39 (z_up (yq_RX6_init_31 (z_up (yq_RX2_init_26 (z_up (yq_RX3_init_18 (z_up (yq_RX1_init_13 (z_up (yq_RX7_init_7 (z_up (yq_RX7_init_1 R) 0 0 (some 1))) 0 1 (some 7))) 0 3 (some 13))) 0 4 (some 18))) 0 5 (some 26))) 0 6 (some 31))) 0 7 (some 39))) 0 8 (some 44)) 0 9 (some 47))) 47 0 (some 48))) 47 1 (some 50)) hZ34) [.ref 52, .int 2, .ref 47] rfl rfl (by decide) (by omega) (by rw [yq_tl_54, yq_tl_53]) (n := 129) rfl ?_
    have hZ35 := c_X4_init_52Z hZ34
    refine p_aast (ci := 4) (N := 6) (z_dec zd_X8_init 62 rfl) yq_tg_54_47 yq_tg_54_52 rfl (by decide) 2 rfl (by decide) (n := 130) rfl ?_
    have hZ36 := yq_ZR hZ35 (show 47 < 54 by decide) 2 (some 52)
    refine p_iinc (z_dec zd_X8_init 63 rfl) 0 rfl (v := 3) (by decide) (lv2 := [(1, .int 3), (0, .ref 0)]) (by decide) rfl (n := 133) rfl ?_
    refine p_goto (z_dec zd_X8_init 64 rfl) (t := 108) (by decide) ?_
    refine p_iload_n (z_dec zd_X8_init 51 rfl) rfl 0 rfl (n := 109) rfl ?_
    refine p_aload_n (z_dec zd_X8_init 52 rfl) rfl 1 rfl (n := 110) rfl ?_
    refine q_getR (z_dec zd_X8_init 53 rfl) zf_X8_67 (i := 47) rfl yq_tg_54_0 (n := 113) rfl ?_
    refine p_alen (t := 2) (by decide) (z_dec zd_X8_init 54 rfl) yq_tg_54_47 (v := 6) rfl (n := 114) rfl ?_
    refine p_icmp_ge (z_dec zd_X8_init 55 rfl) (t := 136) (by decide) (n := 117) rfl (fun hq => absurd hq (by decide)) (fun hq => ?_)
    refine p_aload_n (z_dec zd_X8_init 56 rfl) rfl 1 rfl (n := 118) rfl ?_
    refine q_getR (z_dec zd_X8_init 57 rfl) zf_X8_67 (i := 47) rfl yq_tg_54_0 (n := 121) rfl ?_
    refine p_iload_n (z_dec zd_X8_init 58 rfl) rfl 0 rfl (n := 122) rfl ?_
    refine q_new (ci := 4) (N := 4) (mc := 5) (ms := 188) 54 (z_dec zd_X8_init 59 rfl) rfl yq_nw_X8_65 yq_tl_54 (by decide) hZ36 yq_ta_54 (n := 125) rfl ?_
    have hZ37 := yq_Zm hZ36 (show 54 ≤ 55 by decide)
    refine p_dup (z_dec zd_X8_init 60 rfl) rfl (n := 126) rfl ?_
    refine q_callIN (As := []) (mc := 4) (ms := 128) (mc2 := 1) (ms2 := 60) (n0 := 55) (n1 := 56) (z_dec zd_X8_init 61 rfl) ⟨List.mem_of_getElem? (i := 9) (by decide +kernel), zn_X4, zw_X4_init, by decide +kernel, by decide +kernel, by decide⟩ rfl ⟨rfl, zi_X4_init⟩ (c_X4_init_54 (d - 1) (by omega) (yq_IX4_init_52 (yq_IX4_init_50 (yq_IX4_init_48 (yq_IX5_init_44 (yq_IX0_init_39 (yq_IX6_init_31 (yq_IX2_init_26 (yq_IX3_init_18 (yq_IX1_init_13 (z_up (yq_IX7_init_7 (yq_IX7_init_1 I)) 0 2 0)))))))))) L (z_up (yq_RX4_init_52 (z_up (yq_RX4_init_50 (z_up (yq_RX4_init_48 (z_up (z_up (yq_RX5_init_44 (z_up (yq_RX0_init_39 (z_up (yq_RX6_init_31 (z_up (yq_RX2_init_26 (z_up (yq_RX3_init_18 (z_up (yq_RX1_init_13 (z_up (yq_RX7_init_7 (z_up (yq_RX7_init_1 R) 0 0 (some 1))) 0 1 (some 7))) 0 3 (some 13))) 0 4 (some 18))) 0 5 (some 26))) 0 6 (some 31))) 0 7 (some 39))) 0 8 (some 44)) 0 9 (some 47))) 47 0 (some 48))) 47 1 (some 50))) 47 2 (some 52)) hZ37) [.ref 54, .int 3, .ref 47] rfl rfl (by decide) (by omega) (by rw [yq_tl_56, yq_tl_55]) (n := 129) rfl ?_
    have hZ38 := c_X4_init_54Z hZ37
    refine p_aast (ci := 4) (N := 6) (z_dec zd_X8_init 62 rfl) yq_tg_56_47 yq_tg_56_54 rfl (by decide) 3 rfl (by decide) (n := 130) rfl ?_
    have hZ39 := yq_ZR hZ38 (show 47 < 56 by decide) 3 (some 54)
    refine p_iinc (z_dec zd_X8_init 63 rfl) 0 rfl (v := 4) (by decide) (lv2 := [(1, .int 4), (0, .ref 0)]) (by decide) rfl (n := 133) rfl ?_
    refine p_goto (z_dec zd_X8_init 64 rfl) (t := 108) (by decide) ?_
    refine p_iload_n (z_dec zd_X8_init 51 rfl) rfl 0 rfl (n := 109) rfl ?_
    refine p_aload_n (z_dec zd_X8_init 52 rfl) rfl 1 rfl (n := 110) rfl ?_
    refine q_getR (z_dec zd_X8_init 53 rfl) zf_X8_67 (i := 47) rfl yq_tg_56_0 (n := 113) rfl ?_
    refine p_alen (t := 2) (by decide) (z_dec zd_X8_init 54 rfl) yq_tg_56_47 (v := 6) rfl (n := 114) rfl ?_
    refine p_icmp_ge (z_dec zd_X8_init 55 rfl) (t := 136) (by decide) (n := 117) rfl (fun hq => absurd hq (by decide)) (fun hq => ?_)
    refine p_aload_n (z_dec zd_X8_init 56 rfl) rfl 1 rfl (n := 118) rfl ?_
    refine q_getR (z_dec zd_X8_init 57 rfl) zf_X8_67 (i := 47) rfl yq_tg_56_0 (n := 121) rfl ?_
    refine p_iload_n (z_dec zd_X8_init 58 rfl) rfl 0 rfl (n := 122) rfl ?_
    refine q_new (ci := 4) (N := 4) (mc := 3) (ms := 124) 56 (z_dec zd_X8_init 59 rfl) rfl yq_nw_X8_65 yq_tl_56 (by decide) hZ39 yq_ta_56 (n := 125) rfl ?_
    have hZ40 := yq_Zm hZ39 (show 56 ≤ 57 by decide)
    refine p_dup (z_dec zd_X8_init 60 rfl) rfl (n := 126) rfl ?_
    refine q_callIN (As := []) (mc := 2) (ms := 64) (mc2 := 1) (ms2 := 60) (n0 := 57) (n1 := 58) (z_dec zd_X8_init 61 rfl) ⟨List.mem_of_getElem? (i := 9) (by decide +kernel), zn_X4, zw_X4_init, by decide +kernel, by decide +kernel, by decide⟩ rfl ⟨rfl, zi_X4_init⟩ (c_X4_init_56 (d - 1) (by omega) (yq_IX4_init_54 (yq_IX4_init_52 (yq_IX4_init_50 (yq_IX4_init_48 (yq_IX5_init_44 (yq_IX0_init_39 (yq_IX6_init_31 (yq_IX2_init_26 (yq_IX3_init_18 (yq_IX1_init_13 (z_up (yq_IX7_init_7 (yq_IX7_init_1 I)) 0 2 0))))))))))) L (z_up (yq_RX4_init_54 (z_up (yq_RX4_init_52 (z_up (yq_RX4_init_50 (z_up (yq_RX4_init_48 (z_up (z_up (yq_RX5_init_44 (z_up (yq_RX0_init_39 (z_up (yq_RX6_init_31 (z_up (yq_RX2_init_26 (z_up (yq_RX3_init_18 (z_up (yq_RX1_init_13 (z_up (yq_RX7_init_7 (z_up (yq_RX7_init_1 R) 0 0 (some 1))) 0 1 (some 7))) 0 3 (some 13))) 0 4 (some 18))) 0 5 (some 26))) 0 6 (some 31))) 0 7 (some 39))) 0 8 (some 44)) 0 9 (some 47))) 47 0 (some 48))) 47 1 (some 50))) 47 2 (some 52))) 47 3 (some 54)) hZ40) [.ref 56, .int 4, .ref 47] rfl rfl (by decide) (by omega) (by rw [yq_tl_58, yq_tl_57]) (n := 129) rfl ?_
    have hZ41 := c_X4_init_56Z hZ40
    refine p_aast (ci := 4) (N := 6) (z_dec zd_X8_init 62 rfl) yq_tg_58_47 yq_tg_58_56 rfl (by decide) 4 rfl (by decide) (n := 130) rfl ?_
    have hZ42 := yq_ZR hZ41 (show 47 < 58 by decide) 4 (some 56)
    refine p_iinc (z_dec zd_X8_init 63 rfl) 0 rfl (v := 5) (by decide) (lv2 := [(1, .int 5), (0, .ref 0)]) (by decide) rfl (n := 133) rfl ?_
    refine p_goto (z_dec zd_X8_init 64 rfl) (t := 108) (by decide) ?_
    refine p_iload_n (z_dec zd_X8_init 51 rfl) rfl 0 rfl (n := 109) rfl ?_
    refine p_aload_n (z_dec zd_X8_init 52 rfl) rfl 1 rfl (n := 110) rfl ?_
    refine q_getR (z_dec zd_X8_init 53 rfl) zf_X8_67 (i := 47) rfl yq_tg_58_0 (n := 113) rfl ?_
    refine p_alen (t := 2) (by decide) (z_dec zd_X8_init 54 rfl) yq_tg_58_47 (v := 6) rfl (n := 114) rfl ?_
    refine p_icmp_ge (z_dec zd_X8_init 55 rfl) (t := 136) (by decide) (n := 117) rfl (fun hq => absurd hq (by decide)) (fun hq => ?_)
    refine p_aload_n (z_dec zd_X8_init 56 rfl) rfl 1 rfl (n := 118) rfl ?_
    refine q_getR (z_dec zd_X8_init 57 rfl) zf_X8_67 (i := 47) rfl yq_tg_58_0 (n := 121) rfl ?_
    refine p_iload_n (z_dec zd_X8_init 58 rfl) rfl 0 rfl (n := 122) rfl ?_
    refine q_new (ci := 4) (N := 4) (mc := 1) (ms := 60) 58 (z_dec zd_X8_init 59 rfl) rfl yq_nw_X8_65 yq_tl_58 (by decide) hZ42 yq_ta_58 (n := 125) rfl ?_
    have hZ43 := yq_Zm hZ42 (show 58 ≤ 59 by decide)
    refine p_dup (z_dec zd_X8_init 60 rfl) rfl (n := 126) rfl ?_
    refine q_callIN (As := []) (mc := 0) (ms := 0) (mc2 := 1) (ms2 := 60) (n0 := 59) (n1 := 60) (z_dec zd_X8_init 61 rfl) ⟨List.mem_of_getElem? (i := 9) (by decide +kernel), zn_X4, zw_X4_init, by decide +kernel, by decide +kernel, by decide⟩ rfl ⟨rfl, zi_X4_init⟩ (c_X4_init_58 (d - 1) (by omega) (yq_IX4_init_56 (yq_IX4_init_54 (yq_IX4_init_52 (yq_IX4_init_50 (yq_IX4_init_48 (yq_IX5_init_44 (yq_IX0_init_39 (yq_IX6_init_31 (yq_IX2_init_26 (yq_IX3_init_18 (yq_IX1_init_13 (z_up (yq_IX7_init_7 (yq_IX7_init_1 I)) 0 2 0)))))))))))) L (z_up (yq_RX4_init_56 (z_up (yq_RX4_init_54 (z_up (yq_RX4_init_52 (z_up (yq_RX4_init_50 (z_up (yq_RX4_init_48 (z_up (z_up (yq_RX5_init_44 (z_up (yq_RX0_init_39 (z_up (yq_RX6_init_31 (z_up (yq_RX2_init_26 (z_up (yq_RX3_init_18 (z_up (yq_RX1_init_13 (z_up (yq_RX7_init_7 (z_up (yq_RX7_init_1 R) 0 0 (some 1))) 0 1 (some 7))) 0 3 (some 13))) 0 4 (some 18))) 0 5 (some 26))) 0 6 (some 31))) 0 7 (some 39))) 0 8 (some 44)) 0 9 (some 47))) 47 0 (some 48))) 47 1 (some 50))) 47 2 (some 52))) 47 3 (some 54))) 47 4 (some 56)) hZ43) [.ref 58, .int 5, .ref 47] rfl rfl (by decide) (by omega) (by rw [yq_tl_60, yq_tl_59]) (n := 129) rfl ?_
    have hZ44 := c_X4_init_58Z hZ43
    refine p_aast (ci := 4) (N := 6) (z_dec zd_X8_init 62 rfl) yq_tg_60_47 yq_tg_60_58 rfl (by decide) 5 rfl (by decide) (n := 130) rfl ?_
    have hZ45 := yq_ZR hZ44 (show 47 < 60 by decide) 5 (some 58)
    refine p_iinc (z_dec zd_X8_init 63 rfl) 0 rfl (v := 6) (by decide) (lv2 := [(1, .int 6), (0, .ref 0)]) (by decide) rfl (n := 133) rfl ?_
    refine p_goto (z_dec zd_X8_init 64 rfl) (t := 108) (by decide) ?_
    refine p_iload_n (z_dec zd_X8_init 51 rfl) rfl 0 rfl (n := 109) rfl ?_
    refine p_aload_n (z_dec zd_X8_init 52 rfl) rfl 1 rfl (n := 110) rfl ?_
    refine q_getR (z_dec zd_X8_init 53 rfl) zf_X8_67 (i := 47) rfl yq_tg_60_0 (n := 113) rfl ?_
    refine p_alen (t := 2) (by decide) (z_dec zd_X8_init 54 rfl) yq_tg_60_47 (v := 6) rfl (n := 114) rfl ?_
    refine p_icmp_ge (z_dec zd_X8_init 55 rfl) (t := 136) (by decide) (n := 117) rfl (fun hq => ?_) (fun hq => absurd (by decide) hq)
    exact p_vret (z_dec zd_X8_init 65 rfl) rfl ⟨rfl, rfl, rfl⟩
  exact hentry
set_option maxHeartbeats 2000000 in
set_option maxRecDepth 100000 in
theorem c_X8_init_0Z {I : Nat → Nat → Int32} {L : Nat → Nat → Int64} {R : Nat → Nat → Option Nat} (hZ : yq_Z 1 I L R) : yq_Z 60 (yq_IX8_init_0 I) L (yq_RX8_init_0 R) := by
  intro a ha j
  obtain ⟨h1, h2, h3⟩ := hZ a (by omega) j
  refine ⟨?_, h2, ?_⟩
  · unfold yq_IX8_init_0 yq_IX7_init_1 yq_IX7_init_7 yq_IX1_init_13 yq_IX3_init_18 yq_IX7_init_19 yq_IX2_init_26 yq_IX6_init_31 yq_IX7_init_32 yq_IX0_init_39 yq_IX5_init_44 yq_IX4_init_48 yq_IX4_init_50 yq_IX4_init_52 yq_IX4_init_54 yq_IX4_init_56 yq_IX4_init_58
    (repeat (first | exact h1 | rw [z_up_k _ _ (by omega)] | fail))
  · unfold yq_RX8_init_0 yq_RX7_init_1 yq_RX7_init_7 yq_RX1_init_13 yq_RX3_init_18 yq_RX7_init_19 yq_RX2_init_26 yq_RX6_init_31 yq_RX7_init_32 yq_RX0_init_39 yq_RX5_init_44 yq_RX4_init_48 yq_RX4_init_50 yq_RX4_init_52 yq_RX4_init_54 yq_RX4_init_56 yq_RX4_init_58
    (repeat (first | exact h3 | rw [z_up_k _ _ (by omega)] | fail))
