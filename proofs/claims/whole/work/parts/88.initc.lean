def yq_IX9_init_60 (I : Nat → Nat → Int32) : Nat → Nat → Int32 := (z_up (z_up (z_up (z_up (z_up (z_up (z_up (z_up I 81 0 (-1)) 81 1 (-1)) 81 2 (-1)) 81 3 (-1)) 81 4 (-1)) 81 5 (-1)) 60 10 (-1)) 61 41 1)
def yq_RX9_init_60 (R : Nat → Nat → Option Nat) : Nat → Nat → Option Nat := (z_up (z_up (z_up (z_up (z_up (z_up (z_up (z_up (z_up (z_up (z_up (z_up (z_up (z_up (z_up (z_up (z_up (z_up (z_up (z_up (z_up (z_up (z_up (z_up R 60 0 (some 61)) 60 1 (some 62)) 60 2 (some 63)) 60 3 (some 64)) 60 7 (some 65)) 60 9 (some 66)) 60 16 (some 67)) 60 17 (some 68)) 60 18 (some 69)) 60 19 (some 70)) 60 21 (some 71)) 60 22 (some 72)) 60 24 (some 73)) 60 25 (some 74)) 60 26 (some 75)) 60 27 (some 76)) 60 30 (some 77)) 60 31 (some 78)) 60 33 (some 79)) 60 34 (some 80)) 60 38 (some 81)) 60 39 (some 82)) 60 40 (some 83)) 60 41 (some 84))
set_option maxHeartbeats 8000000 in
set_option maxRecDepth 100000 in
theorem c_X9_init_60 (d : Nat) (hd : 1 ≤ d) (I : Nat → Nat → Int32) (L : Nat → Nat → Int64) (R : Nat → Nat → Option Nat) (hZ : yq_Z 61 I L R) : z_CT zm_X9_init d [.ref 60] (SN.take 61) (I, L, R) 24 2226 (yq_ret 85 (yq_IX9_init_60 I, L, yq_RX9_init_60 R)) := by
  refine z_enter (by decide +kernel) (Nat.le_of_ble_eq_true rfl) ?_
  have hentry : PW zm_X9_init d 0 [(0, .ref 60)] [] (SN.take 61) (I, L, R) 24 2226 (yq_ret 85 ((z_up (z_up (z_up (z_up (z_up (z_up (z_up (z_up I 81 0 (-1)) 81 1 (-1)) 81 2 (-1)) 81 3 (-1)) 81 4 (-1)) 81 5 (-1)) 60 10 (-1)) 61 41 1), L, (z_up (z_up (z_up (z_up (z_up (z_up (z_up (z_up (z_up (z_up (z_up (z_up (z_up (z_up (z_up (z_up (z_up (z_up (z_up (z_up (z_up (z_up (z_up (z_up R 60 0 (some 61)) 60 1 (some 62)) 60 2 (some 63)) 60 3 (some 64)) 60 7 (some 65)) 60 9 (some 66)) 60 16 (some 67)) 60 17 (some 68)) 60 18 (some 69)) 60 19 (some 70)) 60 21 (some 71)) 60 22 (some 72)) 60 24 (some 73)) 60 25 (some 74)) 60 26 (some 75)) 60 27 (some 76)) 60 30 (some 77)) 60 31 (some 78)) 60 33 (some 79)) 60 34 (some 80)) 60 38 (some 81)) 60 39 (some 82)) 60 40 (some 83)) 60 41 (some 84)))) := by
    refine p_aload_n (z_dec zd_X9_init 0 rfl) rfl 0 rfl (n := 1) rfl ?_
    refine p_objI (z_dec zd_X9_init 1 rfl) zk_X9_3 (by omega) (by decide) (n := 4) rfl ?_
    refine p_aload_n (z_dec zd_X9_init 2 rfl) rfl 0 rfl (n := 5) rfl ?_
    refine p_bipush (z_dec zd_X9_init 3 rfl) (v := 42) (by decide) (n := 7) rfl ?_
    refine q_newI (N := 42) (mc := 23) (ms := 2184) 61 (z_dec zd_X9_init 4 rfl) rfl (by decide) yq_tl_61 (by decide) hZ yq_ta_61 (n := 9) rfl ?_
    have hZ1 := yq_Zm hZ (show 61 ≤ 62 by decide)
    refine q_putR (z_dec zd_X9_init 5 rfl) zp_X9_9 (fun _ => rfl) (fun _ => ⟨rfl, rfl⟩) yq_tg_62_60 (n := 12) rfl ?_
    have hZ2 := yq_ZR hZ1 (show 60 < 62 by decide) 0 (some 61)
    refine p_aload_n (z_dec zd_X9_init 6 rfl) rfl 0 rfl (n := 13) rfl ?_
    refine p_bipush (z_dec zd_X9_init 7 rfl) (v := 40) (by decide) (n := 15) rfl ?_
    refine q_newI (N := 40) (mc := 22) (ms := 2144) 62 (z_dec zd_X9_init 8 rfl) rfl (by decide) yq_tl_62 (by decide) hZ2 yq_ta_62 (n := 17) rfl ?_
    have hZ3 := yq_Zm hZ2 (show 62 ≤ 63 by decide)
    refine q_putR (z_dec zd_X9_init 9 rfl) zp_X9_13 (fun _ => rfl) (fun _ => ⟨rfl, rfl⟩) yq_tg_63_60 (n := 20) rfl ?_
    have hZ4 := yq_ZR hZ3 (show 60 < 63 by decide) 1 (some 62)
    refine p_aload_n (z_dec zd_X9_init 10 rfl) rfl 0 rfl (n := 21) rfl ?_
    refine p_bipush (z_dec zd_X9_init 11 rfl) (v := 40) (by decide) (n := 23) rfl ?_
    refine q_newI (N := 40) (mc := 21) (ms := 2104) 63 (z_dec zd_X9_init 12 rfl) rfl (by decide) yq_tl_63 (by decide) hZ4 yq_ta_63 (n := 25) rfl ?_
    have hZ5 := yq_Zm hZ4 (show 63 ≤ 64 by decide)
    refine q_putR (z_dec zd_X9_init 13 rfl) zp_X9_16 (fun _ => rfl) (fun _ => ⟨rfl, rfl⟩) yq_tg_64_60 (n := 28) rfl ?_
    have hZ6 := yq_ZR hZ5 (show 60 < 64 by decide) 2 (some 63)
    refine p_aload_n (z_dec zd_X9_init 14 rfl) rfl 0 rfl (n := 29) rfl ?_
    refine p_bipush (z_dec zd_X9_init 15 rfl) (v := 40) (by decide) (n := 31) rfl ?_
    refine q_newI (N := 40) (mc := 20) (ms := 2064) 64 (z_dec zd_X9_init 16 rfl) rfl (by decide) yq_tl_64 (by decide) hZ6 yq_ta_64 (n := 33) rfl ?_
    have hZ7 := yq_Zm hZ6 (show 64 ≤ 65 by decide)
    refine q_putR (z_dec zd_X9_init 17 rfl) zp_X9_19 (fun _ => rfl) (fun _ => ⟨rfl, rfl⟩) yq_tg_65_60 (n := 36) rfl ?_
    have hZ8 := yq_ZR hZ7 (show 60 < 65 by decide) 3 (some 64)
    refine p_aload_n (z_dec zd_X9_init 18 rfl) rfl 0 rfl (n := 37) rfl ?_
    refine p_bipush (z_dec zd_X9_init 19 rfl) (v := 120) (by decide) (n := 39) rfl ?_
    refine q_newI (N := 120) (mc := 19) (ms := 1944) 65 (z_dec zd_X9_init 20 rfl) rfl (by decide) yq_tl_65 (by decide) hZ8 yq_ta_65 (n := 41) rfl ?_
    have hZ9 := yq_Zm hZ8 (show 65 ≤ 66 by decide)
    refine q_putR (z_dec zd_X9_init 21 rfl) zp_X9_22 (fun _ => rfl) (fun _ => ⟨rfl, rfl⟩) yq_tg_66_60 (n := 44) rfl ?_
    have hZ10 := yq_ZR hZ9 (show 60 < 66 by decide) 7 (some 65)
    refine p_aload_n (z_dec zd_X9_init 22 rfl) rfl 0 rfl (n := 45) rfl ?_
    refine p_bipush (z_dec zd_X9_init 23 rfl) (v := 120) (by decide) (n := 47) rfl ?_
    refine q_newI (N := 120) (mc := 18) (ms := 1824) 66 (z_dec zd_X9_init 24 rfl) rfl (by decide) yq_tl_66 (by decide) hZ10 yq_ta_66 (n := 49) rfl ?_
    have hZ11 := yq_Zm hZ10 (show 66 ≤ 67 by decide)
    refine q_putR (z_dec zd_X9_init 25 rfl) zp_X9_25 (fun _ => rfl) (fun _ => ⟨rfl, rfl⟩) yq_tg_67_60 (n := 52) rfl ?_
    have hZ12 := yq_ZR hZ11 (show 60 < 67 by decide) 9 (some 66)
    refine p_aload_n (z_dec zd_X9_init 26 rfl) rfl 0 rfl (n := 53) rfl ?_
    refine p_bipush (z_dec zd_X9_init 27 rfl) (v := 6) (by decide) (n := 55) rfl ?_
    refine q_newI (N := 6) (mc := 17) (ms := 1818) 67 (z_dec zd_X9_init 28 rfl) rfl (by decide) yq_tl_67 (by decide) hZ12 yq_ta_67 (n := 57) rfl ?_
    have hZ13 := yq_Zm hZ12 (show 67 ≤ 68 by decide)
    refine q_putR (z_dec zd_X9_init 29 rfl) zp_X9_28 (fun _ => rfl) (fun _ => ⟨rfl, rfl⟩) yq_tg_68_60 (n := 60) rfl ?_
    have hZ14 := yq_ZR hZ13 (show 60 < 68 by decide) 16 (some 67)
    refine p_aload_n (z_dec zd_X9_init 30 rfl) rfl 0 rfl (n := 61) rfl ?_
    refine p_bipush (z_dec zd_X9_init 31 rfl) (v := 10) (by decide) (n := 63) rfl ?_
    refine q_newI (N := 10) (mc := 16) (ms := 1808) 68 (z_dec zd_X9_init 32 rfl) rfl (by decide) yq_tl_68 (by decide) hZ14 yq_ta_68 (n := 65) rfl ?_
    have hZ15 := yq_Zm hZ14 (show 68 ≤ 69 by decide)
    refine q_putR (z_dec zd_X9_init 33 rfl) zp_X9_31 (fun _ => rfl) (fun _ => ⟨rfl, rfl⟩) yq_tg_69_60 (n := 68) rfl ?_
    have hZ16 := yq_ZR hZ15 (show 60 < 69 by decide) 17 (some 68)
    refine p_aload_n (z_dec zd_X9_init 34 rfl) rfl 0 rfl (n := 69) rfl ?_
    refine p_bipush (z_dec zd_X9_init 35 rfl) (v := 10) (by decide) (n := 71) rfl ?_
    refine q_newI (N := 10) (mc := 15) (ms := 1798) 69 (z_dec zd_X9_init 36 rfl) rfl (by decide) yq_tl_69 (by decide) hZ16 yq_ta_69 (n := 73) rfl ?_
    have hZ17 := yq_Zm hZ16 (show 69 ≤ 70 by decide)
    refine q_putR (z_dec zd_X9_init 37 rfl) zp_X9_34 (fun _ => rfl) (fun _ => ⟨rfl, rfl⟩) yq_tg_70_60 (n := 76) rfl ?_
    have hZ18 := yq_ZR hZ17 (show 60 < 70 by decide) 18 (some 69)
    refine p_aload_n (z_dec zd_X9_init 38 rfl) rfl 0 rfl (n := 77) rfl ?_
    refine p_bipush (z_dec zd_X9_init 39 rfl) (v := 10) (by decide) (n := 79) rfl ?_
    refine q_newI (N := 10) (mc := 14) (ms := 1788) 70 (z_dec zd_X9_init 40 rfl) rfl (by decide) yq_tl_70 (by decide) hZ18 yq_ta_70 (n := 81) rfl ?_
    have hZ19 := yq_Zm hZ18 (show 70 ≤ 71 by decide)
    refine q_putR (z_dec zd_X9_init 41 rfl) zp_X9_37 (fun _ => rfl) (fun _ => ⟨rfl, rfl⟩) yq_tg_71_60 (n := 84) rfl ?_
    have hZ20 := yq_ZR hZ19 (show 60 < 71 by decide) 19 (some 70)
    refine p_aload_n (z_dec zd_X9_init 42 rfl) rfl 0 rfl (n := 85) rfl ?_
    refine p_iconst (z_dec zd_X9_init 43 rfl) (v := 3) (by decide) (n := 86) rfl ?_
    refine q_newI (N := 3) (mc := 13) (ms := 1785) 71 (z_dec zd_X9_init 44 rfl) rfl (by decide) yq_tl_71 (by decide) hZ20 yq_ta_71 (n := 88) rfl ?_
    have hZ21 := yq_Zm hZ20 (show 71 ≤ 72 by decide)
    refine q_putR (z_dec zd_X9_init 45 rfl) zp_X9_40 (fun _ => rfl) (fun _ => ⟨rfl, rfl⟩) yq_tg_72_60 (n := 91) rfl ?_
    have hZ22 := yq_ZR hZ21 (show 60 < 72 by decide) 21 (some 71)
    refine p_aload_n (z_dec zd_X9_init 46 rfl) rfl 0 rfl (n := 92) rfl ?_
    refine p_iconst (z_dec zd_X9_init 47 rfl) (v := 3) (by decide) (n := 93) rfl ?_
    refine q_newI (N := 3) (mc := 12) (ms := 1782) 72 (z_dec zd_X9_init 48 rfl) rfl (by decide) yq_tl_72 (by decide) hZ22 yq_ta_72 (n := 95) rfl ?_
    have hZ23 := yq_Zm hZ22 (show 72 ≤ 73 by decide)
    refine q_putR (z_dec zd_X9_init 49 rfl) zp_X9_43 (fun _ => rfl) (fun _ => ⟨rfl, rfl⟩) yq_tg_73_60 (n := 98) rfl ?_
    have hZ24 := yq_ZR hZ23 (show 60 < 73 by decide) 22 (some 72)
    refine p_aload_n (z_dec zd_X9_init 50 rfl) rfl 0 rfl (n := 99) rfl ?_
    refine p_bipush (z_dec zd_X9_init 51 rfl) (v := 100) (by decide) (n := 101) rfl ?_
    refine q_newI (N := 100) (mc := 11) (ms := 1682) 73 (z_dec zd_X9_init 52 rfl) rfl (by decide) yq_tl_73 (by decide) hZ24 yq_ta_73 (n := 103) rfl ?_
    have hZ25 := yq_Zm hZ24 (show 73 ≤ 74 by decide)
    refine q_putR (z_dec zd_X9_init 53 rfl) zp_X9_46 (fun _ => rfl) (fun _ => ⟨rfl, rfl⟩) yq_tg_74_60 (n := 106) rfl ?_
    have hZ26 := yq_ZR hZ25 (show 60 < 74 by decide) 24 (some 73)
    refine p_aload_n (z_dec zd_X9_init 54 rfl) rfl 0 rfl (n := 107) rfl ?_
    refine p_sipush (z_dec zd_X9_init 55 rfl) (v := 1024) (by decide) (n := 110) rfl ?_
    refine q_newI (N := 1024) (mc := 10) (ms := 658) 74 (z_dec zd_X9_init 56 rfl) rfl (by decide) yq_tl_74 (by decide) hZ26 yq_ta_74 (n := 112) rfl ?_
    have hZ27 := yq_Zm hZ26 (show 74 ≤ 75 by decide)
    refine q_putR (z_dec zd_X9_init 57 rfl) zp_X9_49 (fun _ => rfl) (fun _ => ⟨rfl, rfl⟩) yq_tg_75_60 (n := 115) rfl ?_
    have hZ28 := yq_ZR hZ27 (show 60 < 75 by decide) 25 (some 74)
    refine p_aload_n (z_dec zd_X9_init 58 rfl) rfl 0 rfl (n := 116) rfl ?_
    refine p_bipush (z_dec zd_X9_init 59 rfl) (v := 100) (by decide) (n := 118) rfl ?_
    refine q_newI (N := 100) (mc := 9) (ms := 558) 75 (z_dec zd_X9_init 60 rfl) rfl (by decide) yq_tl_75 (by decide) hZ28 yq_ta_75 (n := 120) rfl ?_
    have hZ29 := yq_Zm hZ28 (show 75 ≤ 76 by decide)
    refine q_putR (z_dec zd_X9_init 61 rfl) zp_X9_52 (fun _ => rfl) (fun _ => ⟨rfl, rfl⟩) yq_tg_76_60 (n := 123) rfl ?_
    have hZ30 := yq_ZR hZ29 (show 60 < 76 by decide) 26 (some 75)
    refine p_aload_n (z_dec zd_X9_init 62 rfl) rfl 0 rfl (n := 124) rfl ?_
    refine p_iconst (z_dec zd_X9_init 63 rfl) (v := 5) (by decide) (n := 125) rfl ?_
    refine q_newI (N := 5) (mc := 8) (ms := 553) 76 (z_dec zd_X9_init 64 rfl) rfl (by decide) yq_tl_76 (by decide) hZ30 yq_ta_76 (n := 127) rfl ?_
    have hZ31 := yq_Zm hZ30 (show 76 ≤ 77 by decide)
    refine q_putR (z_dec zd_X9_init 65 rfl) zp_X9_55 (fun _ => rfl) (fun _ => ⟨rfl, rfl⟩) yq_tg_77_60 (n := 130) rfl ?_
    have hZ32 := yq_ZR hZ31 (show 60 < 77 by decide) 27 (some 76)
    refine p_aload_n (z_dec zd_X9_init 66 rfl) rfl 0 rfl (n := 131) rfl ?_
    refine p_bipush (z_dec zd_X9_init 67 rfl) (v := 42) (by decide) (n := 133) rfl ?_
    refine q_newI (N := 42) (mc := 7) (ms := 511) 77 (z_dec zd_X9_init 68 rfl) rfl (by decide) yq_tl_77 (by decide) hZ32 yq_ta_77 (n := 135) rfl ?_
    have hZ33 := yq_Zm hZ32 (show 77 ≤ 78 by decide)
    refine q_putR (z_dec zd_X9_init 69 rfl) zp_X9_58 (fun _ => rfl) (fun _ => ⟨rfl, rfl⟩) yq_tg_78_60 (n := 138) rfl ?_
    have hZ34 := yq_ZR hZ33 (show 60 < 78 by decide) 30 (some 77)
    refine p_aload_n (z_dec zd_X9_init 70 rfl) rfl 0 rfl (n := 139) rfl ?_
    refine p_iconst (z_dec zd_X9_init 71 rfl) (v := 5) (by decide) (n := 140) rfl ?_
    refine q_newI (N := 5) (mc := 6) (ms := 506) 78 (z_dec zd_X9_init 72 rfl) rfl (by decide) yq_tl_78 (by decide) hZ34 yq_ta_78 (n := 142) rfl ?_
    have hZ35 := yq_Zm hZ34 (show 78 ≤ 79 by decide)
    refine q_putR (z_dec zd_X9_init 73 rfl) zp_X9_61 (fun _ => rfl) (fun _ => ⟨rfl, rfl⟩) yq_tg_79_60 (n := 145) rfl ?_
    have hZ36 := yq_ZR hZ35 (show 60 < 79 by decide) 31 (some 78)
    refine p_aload_n (z_dec zd_X9_init 74 rfl) rfl 0 rfl (n := 146) rfl ?_
    refine p_bipush (z_dec zd_X9_init 75 rfl) (v := 50) (by decide) (n := 148) rfl ?_
    refine q_newI (N := 50) (mc := 5) (ms := 456) 79 (z_dec zd_X9_init 76 rfl) rfl (by decide) yq_tl_79 (by decide) hZ36 yq_ta_79 (n := 150) rfl ?_
    have hZ37 := yq_Zm hZ36 (show 79 ≤ 80 by decide)
    refine q_putR (z_dec zd_X9_init 77 rfl) zp_X9_64 (fun _ => rfl) (fun _ => ⟨rfl, rfl⟩) yq_tg_80_60 (n := 153) rfl ?_
    have hZ38 := yq_ZR hZ37 (show 60 < 80 by decide) 33 (some 79)
    refine p_aload_n (z_dec zd_X9_init 78 rfl) rfl 0 rfl (n := 154) rfl ?_
    refine p_bipush (z_dec zd_X9_init 79 rfl) (v := 24) (by decide) (n := 156) rfl ?_
    refine q_newI (N := 24) (mc := 4) (ms := 432) 80 (z_dec zd_X9_init 80 rfl) rfl (by decide) yq_tl_80 (by decide) hZ38 yq_ta_80 (n := 158) rfl ?_
    have hZ39 := yq_Zm hZ38 (show 80 ≤ 81 by decide)
    refine q_putR (z_dec zd_X9_init 81 rfl) zp_X9_67 (fun _ => rfl) (fun _ => ⟨rfl, rfl⟩) yq_tg_81_60 (n := 161) rfl ?_
    have hZ40 := yq_ZR hZ39 (show 60 < 81 by decide) 34 (some 80)
    refine p_aload_n (z_dec zd_X9_init 82 rfl) rfl 0 rfl (n := 162) rfl ?_
    refine p_bipush (z_dec zd_X9_init 83 rfl) (v := 6) (by decide) (n := 164) rfl ?_
    refine q_newI (N := 6) (mc := 3) (ms := 426) 81 (z_dec zd_X9_init 84 rfl) rfl (by decide) yq_tl_81 (by decide) hZ40 yq_ta_81 (n := 166) rfl ?_
    have hZ41 := yq_Zm hZ40 (show 81 ≤ 82 by decide)
    refine q_putR (z_dec zd_X9_init 85 rfl) zp_X9_70 (fun _ => rfl) (fun _ => ⟨rfl, rfl⟩) yq_tg_82_60 (n := 169) rfl ?_
    have hZ42 := yq_ZR hZ41 (show 60 < 82 by decide) 38 (some 81)
    refine p_aload_n (z_dec zd_X9_init 86 rfl) rfl 0 rfl (n := 170) rfl ?_
    refine p_bipush (z_dec zd_X9_init 87 rfl) (v := 6) (by decide) (n := 172) rfl ?_
    refine q_newI (N := 6) (mc := 2) (ms := 420) 82 (z_dec zd_X9_init 88 rfl) rfl (by decide) yq_tl_82 (by decide) hZ42 yq_ta_82 (n := 174) rfl ?_
    have hZ43 := yq_Zm hZ42 (show 82 ≤ 83 by decide)
    refine q_putR (z_dec zd_X9_init 89 rfl) zp_X9_73 (fun _ => rfl) (fun _ => ⟨rfl, rfl⟩) yq_tg_83_60 (n := 177) rfl ?_
    have hZ44 := yq_ZR hZ43 (show 60 < 83 by decide) 39 (some 82)
    refine p_aload_n (z_dec zd_X9_init 90 rfl) rfl 0 rfl (n := 178) rfl ?_
    refine p_sipush (z_dec zd_X9_init 91 rfl) (v := 360) (by decide) (n := 181) rfl ?_
    refine q_newL (N := 360) (mc := 1) (ms := 60) 83 (z_dec zd_X9_init 92 rfl) rfl (by decide) yq_tl_83 (by decide) hZ44 yq_ta_83 (n := 183) rfl ?_
    have hZ45 := yq_Zm hZ44 (show 83 ≤ 84 by decide)
    refine q_putR (z_dec zd_X9_init 93 rfl) zp_X9_76 (fun _ => rfl) (fun _ => ⟨rfl, rfl⟩) yq_tg_84_60 (n := 186) rfl ?_
    have hZ46 := yq_ZR hZ45 (show 60 < 84 by decide) 40 (some 83)
    refine p_aload_n (z_dec zd_X9_init 94 rfl) rfl 0 rfl (n := 187) rfl ?_
    refine p_bipush (z_dec zd_X9_init 95 rfl) (v := 60) (by decide) (n := 189) rfl ?_
    refine q_newL (N := 60) (mc := 0) (ms := 0) 84 (z_dec zd_X9_init 96 rfl) rfl (by decide) yq_tl_84 (by decide) hZ46 yq_ta_84 (n := 191) rfl ?_
    have hZ47 := yq_Zm hZ46 (show 84 ≤ 85 by decide)
    refine q_putR (z_dec zd_X9_init 97 rfl) zp_X9_80 (fun _ => rfl) (fun _ => ⟨rfl, rfl⟩) yq_tg_85_60 (n := 194) rfl ?_
    have hZ48 := yq_ZR hZ47 (show 60 < 85 by decide) 41 (some 84)
    refine p_iconst (z_dec zd_X9_init 98 rfl) (v := 0) (by decide) (n := 195) rfl ?_
    refine p_istore_n (z_dec zd_X9_init 99 rfl) rfl (lv2 := [(1, .int 0), (0, .ref 60)]) (by decide) rfl (n := 196) rfl ?_
    refine p_iload_n (z_dec zd_X9_init 100 rfl) rfl 0 rfl (n := 197) rfl ?_
    refine p_bipush (z_dec zd_X9_init 101 rfl) (v := 6) (by decide) (n := 199) rfl ?_
    refine p_icmp_ge (z_dec zd_X9_init 102 rfl) (t := 215) (by decide) (n := 202) rfl (fun hq => absurd hq (by decide)) (fun hq => ?_)
    refine p_aload_n (z_dec zd_X9_init 103 rfl) rfl 1 rfl (n := 203) rfl ?_
    refine q_getR (z_dec zd_X9_init 104 rfl) zf_X9_70 (i := 81) rfl yq_tg_85_60 (n := 206) rfl ?_
    refine p_iload_n (z_dec zd_X9_init 105 rfl) rfl 0 rfl (n := 207) rfl ?_
    refine p_iconst (z_dec zd_X9_init 106 rfl) (v := (-1)) (by decide) (n := 208) rfl ?_
    refine q_iast (z_dec zd_X9_init 107 rfl) yq_tg_85_81 (by decide) (0) rfl (by decide) (n := 209) rfl ?_
    have hZ49 := yq_ZI hZ48 (show 81 < 85 by decide) 0 (-1)
    refine p_iinc (z_dec zd_X9_init 108 rfl) 0 rfl (v := 1) (by decide) (lv2 := [(1, .int 1), (0, .ref 60)]) (by decide) rfl (n := 212) rfl ?_
    refine p_goto (z_dec zd_X9_init 109 rfl) (t := 196) (by decide) ?_
    refine p_iload_n (z_dec zd_X9_init 100 rfl) rfl 0 rfl (n := 197) rfl ?_
    refine p_bipush (z_dec zd_X9_init 101 rfl) (v := 6) (by decide) (n := 199) rfl ?_
    refine p_icmp_ge (z_dec zd_X9_init 102 rfl) (t := 215) (by decide) (n := 202) rfl (fun hq => absurd hq (by decide)) (fun hq => ?_)
    refine p_aload_n (z_dec zd_X9_init 103 rfl) rfl 1 rfl (n := 203) rfl ?_
    refine q_getR (z_dec zd_X9_init 104 rfl) zf_X9_70 (i := 81) rfl yq_tg_85_60 (n := 206) rfl ?_
    refine p_iload_n (z_dec zd_X9_init 105 rfl) rfl 0 rfl (n := 207) rfl ?_
    refine p_iconst (z_dec zd_X9_init 106 rfl) (v := (-1)) (by decide) (n := 208) rfl ?_
    refine q_iast (z_dec zd_X9_init 107 rfl) yq_tg_85_81 (by decide) (1) rfl (by decide) (n := 209) rfl ?_
    have hZ50 := yq_ZI hZ49 (show 81 < 85 by decide) 1 (-1)
    refine p_iinc (z_dec zd_X9_init 108 rfl) 0 rfl (v := 2) (by decide) (lv2 := [(1, .int 2), (0, .ref 60)]) (by decide) rfl (n := 212) rfl ?_
    refine p_goto (z_dec zd_X9_init 109 rfl) (t := 196) (by decide) ?_
    refine p_iload_n (z_dec zd_X9_init 100 rfl) rfl 0 rfl (n := 197) rfl ?_
    refine p_bipush (z_dec zd_X9_init 101 rfl) (v := 6) (by decide) (n := 199) rfl ?_
    refine p_icmp_ge (z_dec zd_X9_init 102 rfl) (t := 215) (by decide) (n := 202) rfl (fun hq => absurd hq (by decide)) (fun hq => ?_)
    refine p_aload_n (z_dec zd_X9_init 103 rfl) rfl 1 rfl (n := 203) rfl ?_
    refine q_getR (z_dec zd_X9_init 104 rfl) zf_X9_70 (i := 81) rfl yq_tg_85_60 (n := 206) rfl ?_
    refine p_iload_n (z_dec zd_X9_init 105 rfl) rfl 0 rfl (n := 207) rfl ?_
    refine p_iconst (z_dec zd_X9_init 106 rfl) (v := (-1)) (by decide) (n := 208) rfl ?_
    refine q_iast (z_dec zd_X9_init 107 rfl) yq_tg_85_81 (by decide) (2) rfl (by decide) (n := 209) rfl ?_
    have hZ51 := yq_ZI hZ50 (show 81 < 85 by decide) 2 (-1)
    refine p_iinc (z_dec zd_X9_init 108 rfl) 0 rfl (v := 3) (by decide) (lv2 := [(1, .int 3), (0, .ref 60)]) (by decide) rfl (n := 212) rfl ?_
    refine p_goto (z_dec zd_X9_init 109 rfl) (t := 196) (by decide) ?_
    refine p_iload_n (z_dec zd_X9_init 100 rfl) rfl 0 rfl (n := 197) rfl ?_
    refine p_bipush (z_dec zd_X9_init 101 rfl) (v := 6) (by decide) (n := 199) rfl ?_
    refine p_icmp_ge (z_dec zd_X9_init 102 rfl) (t := 215) (by decide) (n := 202) rfl (fun hq => absurd hq (by decide)) (fun hq => ?_)
    refine p_aload_n (z_dec zd_X9_init 103 rfl) rfl 1 rfl (n := 203) rfl ?_
    refine q_getR (z_dec zd_X9_init 104 rfl) zf_X9_70 (i := 81) rfl yq_tg_85_60 (n := 206) rfl ?_
    refine p_iload_n (z_dec zd_X9_init 105 rfl) rfl 0 rfl (n := 207) rfl ?_
    refine p_iconst (z_dec zd_X9_init 106 rfl) (v := (-1)) (by decide) (n := 208) rfl ?_
    refine q_iast (z_dec zd_X9_init 107 rfl) yq_tg_85_81 (by decide) (3) rfl (by decide) (n := 209) rfl ?_
    have hZ52 := yq_ZI hZ51 (show 81 < 85 by decide) 3 (-1)
    refine p_iinc (z_dec zd_X9_init 108 rfl) 0 rfl (v := 4) (by decide) (lv2 := [(1, .int 4), (0, .ref 60)]) (by decide) rfl (n := 212) rfl ?_
    refine p_goto (z_dec zd_X9_init 109 rfl) (t := 196) (by decide) ?_
    refine p_iload_n (z_dec zd_X9_init 100 rfl) rfl 0 rfl (n := 197) rfl ?_
    refine p_bipush (z_dec zd_X9_init 101 rfl) (v := 6) (by decide) (n := 199) rfl ?_
    refine p_icmp_ge (z_dec zd_X9_init 102 rfl) (t := 215) (by decide) (n := 202) rfl (fun hq => absurd hq (by decide)) (fun hq => ?_)
    refine p_aload_n (z_dec zd_X9_init 103 rfl) rfl 1 rfl (n := 203) rfl ?_
    refine q_getR (z_dec zd_X9_init 104 rfl) zf_X9_70 (i := 81) rfl yq_tg_85_60 (n := 206) rfl ?_
    refine p_iload_n (z_dec zd_X9_init 105 rfl) rfl 0 rfl (n := 207) rfl ?_
    refine p_iconst (z_dec zd_X9_init 106 rfl) (v := (-1)) (by decide) (n := 208) rfl ?_
    refine q_iast (z_dec zd_X9_init 107 rfl) yq_tg_85_81 (by decide) (4) rfl (by decide) (n := 209) rfl ?_
    have hZ53 := yq_ZI hZ52 (show 81 < 85 by decide) 4 (-1)
    refine p_iinc (z_dec zd_X9_init 108 rfl) 0 rfl (v := 5) (by decide) (lv2 := [(1, .int 5), (0, .ref 60)]) (by decide) rfl (n := 212) rfl ?_
    refine p_goto (z_dec zd_X9_init 109 rfl) (t := 196) (by decide) ?_
    refine p_iload_n (z_dec zd_X9_init 100 rfl) rfl 0 rfl (n := 197) rfl ?_
    refine p_bipush (z_dec zd_X9_init 101 rfl) (v := 6) (by decide) (n := 199) rfl ?_
    refine p_icmp_ge (z_dec zd_X9_init 102 rfl) (t := 215) (by decide) (n := 202) rfl (fun hq => absurd hq (by decide)) (fun hq => ?_)
    refine p_aload_n (z_dec zd_X9_init 103 rfl) rfl 1 rfl (n := 203) rfl ?_
    refine q_getR (z_dec zd_X9_init 104 rfl) zf_X9_70 (i := 81) rfl yq_tg_85_60 (n := 206) rfl ?_
    refine p_iload_n (z_dec zd_X9_init 105 rfl) rfl 0 rfl (n := 207) rfl ?_
    refine p_iconst (z_dec zd_X9_init 106 rfl) (v := (-1)) (by decide) (n := 208) rfl ?_
    refine q_iast (z_dec zd_X9_init 107 rfl) yq_tg_85_81 (by decide) (5) rfl (by decide) (n := 209) rfl ?_
    have hZ54 := yq_ZI hZ53 (show 81 < 85 by decide) 5 (-1)
    refine p_iinc (z_dec zd_X9_init 108 rfl) 0 rfl (v := 6) (by decide) (lv2 := [(1, .int 6), (0, .ref 60)]) (by decide) rfl (n := 212) rfl ?_
    refine p_goto (z_dec zd_X9_init 109 rfl) (t := 196) (by decide) ?_
    refine p_iload_n (z_dec zd_X9_init 100 rfl) rfl 0 rfl (n := 197) rfl ?_
    refine p_bipush (z_dec zd_X9_init 101 rfl) (v := 6) (by decide) (n := 199) rfl ?_
    refine p_icmp_ge (z_dec zd_X9_init 102 rfl) (t := 215) (by decide) (n := 202) rfl (fun hq => ?_) (fun hq => absurd (by decide) hq)
    refine p_aload_n (z_dec zd_X9_init 110 rfl) rfl 1 rfl (n := 216) rfl ?_
    refine p_iconst (z_dec zd_X9_init 111 rfl) (v := (-1)) (by decide) (n := 217) rfl ?_
    refine q_putI (z_dec zd_X9_init 112 rfl) zp_X9_83 (fun q => by cases q) yq_tg_85_60 (n := 220) rfl ?_
    have hZ55 := yq_ZI hZ54 (show 60 < 85 by decide) 10 (-1)
    refine p_aload_n (z_dec zd_X9_init 113 rfl) rfl 1 rfl (n := 221) rfl ?_
    refine q_getR (z_dec zd_X9_init 114 rfl) zf_X9_9 (i := 61) rfl yq_tg_85_60 (n := 224) rfl ?_
    refine p_bipush (z_dec zd_X9_init 115 rfl) (v := 41) (by decide) (n := 226) rfl ?_
    refine p_iconst (z_dec zd_X9_init 116 rfl) (v := 1) (by decide) (n := 227) rfl ?_
    refine q_iast (z_dec zd_X9_init 117 rfl) yq_tg_85_61 (by decide) (41) rfl (by decide) (n := 228) rfl ?_
    have hZ56 := yq_ZI hZ55 (show 61 < 85 by decide) 41 1
    exact p_vret (z_dec zd_X9_init 118 rfl) rfl ⟨rfl, rfl, rfl⟩
  exact hentry
set_option maxHeartbeats 2000000 in
set_option maxRecDepth 100000 in
theorem c_X9_init_60Z {I : Nat → Nat → Int32} {L : Nat → Nat → Int64} {R : Nat → Nat → Option Nat} (hZ : yq_Z 61 I L R) : yq_Z 85 (yq_IX9_init_60 I) L (yq_RX9_init_60 R) := by
  intro a ha j
  obtain ⟨h1, h2, h3⟩ := hZ a (by omega) j
  refine ⟨?_, h2, ?_⟩
  · unfold yq_IX9_init_60
    (repeat (first | exact h1 | rw [z_up_k _ _ (by omega)] | fail))
  · unfold yq_RX9_init_60
    (repeat (first | exact h3 | rw [z_up_k _ _ (by omega)] | fail))
