theorem yq_kc642 {N d d1 d2 : Nat} {xs : Nat → Int32} {i : Int32} {v : Int64} {μ μ1 μ2 : z_M} {E : Option Value → z_Sh → z_M → Prop} (h1 : vp_in (i + 1) N) (h2 : vp_in (i + 2) N) (h3 : vp_in (i + 3) N) (c1 : z_CT zm_X8_thrownBy d1 [.ref 0, .int (xs (i + 1).toNatClampNeg), .int (xs (i + 2).toNatClampNeg), .int (xs (i + 3).toNatClampNeg)] SH μ 0 0 (z_ret (some (.long v)) μ1)) (c2 : z_CT zm_X9_thrownBy d2 [.ref 54, .int (xs (i + 1).toNatClampNeg), .int (xs (i + 2).toNatClampNeg), .int (xs (i + 3).toNatClampNeg)] SH μ1 0 0 (z_ret (some (.long v)) μ2)) (e1 : d1 + 1 ≤ d) (e2 : d2 + 1 ≤ d) (h : PS (yq_G N xs) yq_law d 1364 [(3, .int i), (2, .ref 54), (1, .ref 0), (0, .ref 1003)] [] SH μ2 0 0 E) : PS (yq_G N xs) yq_law d 642 [(3, .int i), (2, .ref 54), (1, .ref 0), (0, .ref 1003)] [] SH μ 0 0 E := by
  refine ys_p_aload_n (z_dec yq_ld6 4 rfl) rfl 2 rfl (n := 643) rfl ?_
  refine ys_p_aload_n (z_dec yq_ld6 5 rfl) rfl 3 rfl (n := 644) rfl ?_
  refine ys_p_iload_n (z_dec yq_ld6 6 rfl) rfl 0 rfl (n := 645) rfl ?_
  refine ys_p_iconst (z_dec yq_ld6 7 rfl) (v := 1) rfl (n := 646) rfl ?_
  refine ys_p_iadd (z_dec yq_ld6 8 rfl) (n := 647) rfl ?_
  refine ys_sld (z_dec yq_ld6 9 rfl) h1 (n := 648) rfl ?_
  refine ys_p_aload_n (z_dec yq_ld6 10 rfl) rfl 3 rfl (n := 649) rfl ?_
  refine ys_p_iload_n (z_dec yq_ld6 11 rfl) rfl 0 rfl (n := 650) rfl ?_
  refine ys_p_iconst (z_dec yq_ld6 12 rfl) (v := 2) rfl (n := 651) rfl ?_
  refine ys_p_iadd (z_dec yq_ld6 13 rfl) (n := 652) rfl ?_
  refine ys_sld (z_dec yq_ld6 14 rfl) h2 (n := 653) rfl ?_
  refine ys_p_aload_n (z_dec yq_ld6 15 rfl) rfl 3 rfl (n := 654) rfl ?_
  refine ys_p_iload_n (z_dec yq_ld6 16 rfl) rfl 0 rfl (n := 655) rfl ?_
  refine ys_p_iconst (z_dec yq_ld6 17 rfl) (v := 3) rfl (n := 656) rfl ?_
  refine ys_p_iadd (z_dec yq_ld6 18 rfl) (n := 657) rfl ?_
  refine ys_sld (z_dec yq_ld6 19 rfl) h3 (n := 658) rfl ?_
  refine ys_q_callV (As := [.int (xs (i + 1).toNatClampNeg), .int (xs (i + 2).toNatClampNeg), .int (xs (i + 3).toNatClampNeg)]) (rest := []) (z_dec yq_ld6 20 rfl) zk_L_82 zv_X8_thrownBy c1 rfl ⟨_, _, rfl⟩ rfl rfl (Nat.le_of_ble_eq_true rfl) e1 (n := 661) rfl ?_
  refine ys_p_aload_n (z_dec yq_ld6 21 rfl) rfl 1 rfl (n := 662) rfl ?_
  refine ys_p_aload_n (z_dec yq_ld6 22 rfl) rfl 3 rfl (n := 663) rfl ?_
  refine ys_p_iload_n (z_dec yq_ld6 23 rfl) rfl 0 rfl (n := 664) rfl ?_
  refine ys_p_iconst (z_dec yq_ld6 24 rfl) (v := 1) rfl (n := 665) rfl ?_
  refine ys_p_iadd (z_dec yq_ld6 25 rfl) (n := 666) rfl ?_
  refine ys_sld (z_dec yq_ld6 26 rfl) h1 (n := 667) rfl ?_
  refine ys_p_aload_n (z_dec yq_ld6 27 rfl) rfl 3 rfl (n := 668) rfl ?_
  refine ys_p_iload_n (z_dec yq_ld6 28 rfl) rfl 0 rfl (n := 669) rfl ?_
  refine ys_p_iconst (z_dec yq_ld6 29 rfl) (v := 2) rfl (n := 670) rfl ?_
  refine ys_p_iadd (z_dec yq_ld6 30 rfl) (n := 671) rfl ?_
  refine ys_sld (z_dec yq_ld6 31 rfl) h2 (n := 672) rfl ?_
  refine ys_p_aload_n (z_dec yq_ld6 32 rfl) rfl 3 rfl (n := 673) rfl ?_
  refine ys_p_iload_n (z_dec yq_ld6 33 rfl) rfl 0 rfl (n := 674) rfl ?_
  refine ys_p_iconst (z_dec yq_ld6 34 rfl) (v := 3) rfl (n := 675) rfl ?_
  refine ys_p_iadd (z_dec yq_ld6 35 rfl) (n := 676) rfl ?_
  refine ys_sld (z_dec yq_ld6 36 rfl) h3 (n := 677) rfl ?_
  refine ys_q_callV (As := [.int (xs (i + 1).toNatClampNeg), .int (xs (i + 2).toNatClampNeg), .int (xs (i + 3).toNatClampNeg)]) (rest := [.long v]) (z_dec yq_ld6 37 rfl) zk_L_86 zv_X9_thrownBy c2 rfl ⟨_, _, rfl⟩ rfl rfl (Nat.le_of_ble_eq_true rfl) e2 (n := 680) rfl ?_
  refine ys_p_lcmp (z_dec yq_ld6 38 rfl) (n := 681) rfl ?_
  exact ys_p_if_eq (z_dec yq_ld6 39 rfl) (t := 1364) rfl (n := 684) rfl (fun _ => h) (fun q => absurd (by simp [lg_cmp]) q)
theorem yq_kc699 {N d d1 d2 : Nat} {xs : Nat → Int32} {i : Int32} {v : Int64} {μ μ1 μ2 : z_M} {E : Option Value → z_Sh → z_M → Prop} (h1 : vp_in (i + 1) N) (h2 : vp_in (i + 2) N) (h3 : vp_in (i + 3) N) (c1 : z_CT zm_X8_streak d1 [.ref 0, .int (xs (i + 1).toNatClampNeg), .int (xs (i + 2).toNatClampNeg), .int (xs (i + 3).toNatClampNeg)] SH μ 0 0 (z_ret (some (.long v)) μ1)) (c2 : z_CT zm_X9_streak d2 [.ref 54, .int (xs (i + 1).toNatClampNeg), .int (xs (i + 2).toNatClampNeg), .int (xs (i + 3).toNatClampNeg)] SH μ1 0 0 (z_ret (some (.long v)) μ2)) (e1 : d1 + 1 ≤ d) (e2 : d2 + 1 ≤ d) (h : PS (yq_G N xs) yq_law d 1364 [(3, .int i), (2, .ref 54), (1, .ref 0), (0, .ref 1003)] [] SH μ2 0 0 E) : PS (yq_G N xs) yq_law d 699 [(3, .int i), (2, .ref 54), (1, .ref 0), (0, .ref 1003)] [] SH μ 0 0 E := by
  refine ys_p_aload_n (z_dec yq_ld6 49 rfl) rfl 2 rfl (n := 700) rfl ?_
  refine ys_p_aload_n (z_dec yq_ld6 50 rfl) rfl 3 rfl (n := 701) rfl ?_
  refine ys_p_iload_n (z_dec yq_ld6 51 rfl) rfl 0 rfl (n := 702) rfl ?_
  refine ys_p_iconst (z_dec yq_ld6 52 rfl) (v := 1) rfl (n := 703) rfl ?_
  refine ys_p_iadd (z_dec yq_ld6 53 rfl) (n := 704) rfl ?_
  refine ys_sld (z_dec yq_ld6 54 rfl) h1 (n := 705) rfl ?_
  refine ys_p_aload_n (z_dec yq_ld6 55 rfl) rfl 3 rfl (n := 706) rfl ?_
  refine ys_p_iload_n (z_dec yq_ld6 56 rfl) rfl 0 rfl (n := 707) rfl ?_
  refine ys_p_iconst (z_dec yq_ld6 57 rfl) (v := 2) rfl (n := 708) rfl ?_
  refine ys_p_iadd (z_dec yq_ld6 58 rfl) (n := 709) rfl ?_
  refine ys_sld (z_dec yq_ld6 59 rfl) h2 (n := 710) rfl ?_
  refine ys_p_aload_n (z_dec yq_ld7 0 rfl) rfl 3 rfl (n := 711) rfl ?_
  refine ys_p_iload_n (z_dec yq_ld7 1 rfl) rfl 0 rfl (n := 712) rfl ?_
  refine ys_p_iconst (z_dec yq_ld7 2 rfl) (v := 3) rfl (n := 713) rfl ?_
  refine ys_p_iadd (z_dec yq_ld7 3 rfl) (n := 714) rfl ?_
  refine ys_sld (z_dec yq_ld7 4 rfl) h3 (n := 715) rfl ?_
  refine ys_q_callV (As := [.int (xs (i + 1).toNatClampNeg), .int (xs (i + 2).toNatClampNeg), .int (xs (i + 3).toNatClampNeg)]) (rest := []) (z_dec yq_ld7 5 rfl) zk_L_91 zv_X8_streak c1 rfl ⟨_, _, rfl⟩ rfl rfl (Nat.le_of_ble_eq_true rfl) e1 (n := 718) rfl ?_
  refine ys_p_aload_n (z_dec yq_ld7 6 rfl) rfl 1 rfl (n := 719) rfl ?_
  refine ys_p_aload_n (z_dec yq_ld7 7 rfl) rfl 3 rfl (n := 720) rfl ?_
  refine ys_p_iload_n (z_dec yq_ld7 8 rfl) rfl 0 rfl (n := 721) rfl ?_
  refine ys_p_iconst (z_dec yq_ld7 9 rfl) (v := 1) rfl (n := 722) rfl ?_
  refine ys_p_iadd (z_dec yq_ld7 10 rfl) (n := 723) rfl ?_
  refine ys_sld (z_dec yq_ld7 11 rfl) h1 (n := 724) rfl ?_
  refine ys_p_aload_n (z_dec yq_ld7 12 rfl) rfl 3 rfl (n := 725) rfl ?_
  refine ys_p_iload_n (z_dec yq_ld7 13 rfl) rfl 0 rfl (n := 726) rfl ?_
  refine ys_p_iconst (z_dec yq_ld7 14 rfl) (v := 2) rfl (n := 727) rfl ?_
  refine ys_p_iadd (z_dec yq_ld7 15 rfl) (n := 728) rfl ?_
  refine ys_sld (z_dec yq_ld7 16 rfl) h2 (n := 729) rfl ?_
  refine ys_p_aload_n (z_dec yq_ld7 17 rfl) rfl 3 rfl (n := 730) rfl ?_
  refine ys_p_iload_n (z_dec yq_ld7 18 rfl) rfl 0 rfl (n := 731) rfl ?_
  refine ys_p_iconst (z_dec yq_ld7 19 rfl) (v := 3) rfl (n := 732) rfl ?_
  refine ys_p_iadd (z_dec yq_ld7 20 rfl) (n := 733) rfl ?_
  refine ys_sld (z_dec yq_ld7 21 rfl) h3 (n := 734) rfl ?_
  refine ys_q_callV (As := [.int (xs (i + 1).toNatClampNeg), .int (xs (i + 2).toNatClampNeg), .int (xs (i + 3).toNatClampNeg)]) (rest := [.long v]) (z_dec yq_ld7 22 rfl) zk_L_94 zv_X9_streak c2 rfl ⟨_, _, rfl⟩ rfl rfl (Nat.le_of_ble_eq_true rfl) e2 (n := 737) rfl ?_
  refine ys_p_lcmp (z_dec yq_ld7 23 rfl) (n := 738) rfl ?_
  exact ys_p_if_eq (z_dec yq_ld7 24 rfl) (t := 1364) rfl (n := 741) rfl (fun _ => h) (fun q => absurd (by simp [lg_cmp]) q)
theorem yq_kc1211 {N d d1 d2 : Nat} {xs : Nat → Int32} {i : Int32} {v : Int64} {μ μ1 μ2 : z_M} {E : Option Value → z_Sh → z_M → Prop} (h1 : vp_in (i + 1) N) (h2 : vp_in (i + 2) N) (c1 : z_CT zm_X8_element d1 [.ref 0, .int (xs (i + 1).toNatClampNeg), .int (xs (i + 2).toNatClampNeg)] SH μ 0 0 (z_ret (some (.long v)) μ1)) (c2 : z_CT zm_X9_element d2 [.ref 54, .int (xs (i + 1).toNatClampNeg), .int (xs (i + 2).toNatClampNeg)] SH μ1 0 0 (z_ret (some (.long v)) μ2)) (e1 : d1 + 1 ≤ d) (e2 : d2 + 1 ≤ d) (h : PS (yq_G N xs) yq_law d 1364 [(3, .int i), (2, .ref 54), (1, .ref 0), (0, .ref 1003)] [] SH μ2 0 0 E) : PS (yq_G N xs) yq_law d 1211 [(3, .int i), (2, .ref 54), (1, .ref 0), (0, .ref 1003)] [] SH μ 0 0 E := by
  refine ys_p_aload_n (z_dec yq_ld13 33 rfl) rfl 2 rfl (n := 1212) rfl ?_
  refine ys_p_aload_n (z_dec yq_ld13 34 rfl) rfl 3 rfl (n := 1213) rfl ?_
  refine ys_p_iload_n (z_dec yq_ld13 35 rfl) rfl 0 rfl (n := 1214) rfl ?_
  refine ys_p_iconst (z_dec yq_ld13 36 rfl) (v := 1) rfl (n := 1215) rfl ?_
  refine ys_p_iadd (z_dec yq_ld13 37 rfl) (n := 1216) rfl ?_
  refine ys_sld (z_dec yq_ld13 38 rfl) h1 (n := 1217) rfl ?_
  refine ys_p_aload_n (z_dec yq_ld13 39 rfl) rfl 3 rfl (n := 1218) rfl ?_
  refine ys_p_iload_n (z_dec yq_ld13 40 rfl) rfl 0 rfl (n := 1219) rfl ?_
  refine ys_p_iconst (z_dec yq_ld13 41 rfl) (v := 2) rfl (n := 1220) rfl ?_
  refine ys_p_iadd (z_dec yq_ld13 42 rfl) (n := 1221) rfl ?_
  refine ys_sld (z_dec yq_ld13 43 rfl) h2 (n := 1222) rfl ?_
  refine ys_q_callV (As := [.int (xs (i + 1).toNatClampNeg), .int (xs (i + 2).toNatClampNeg)]) (rest := []) (z_dec yq_ld13 44 rfl) zk_L_162 zv_X8_element c1 rfl ⟨_, _, rfl⟩ rfl rfl (Nat.le_of_ble_eq_true rfl) e1 (n := 1225) rfl ?_
  refine ys_p_aload_n (z_dec yq_ld13 45 rfl) rfl 1 rfl (n := 1226) rfl ?_
  refine ys_p_aload_n (z_dec yq_ld13 46 rfl) rfl 3 rfl (n := 1227) rfl ?_
  refine ys_p_iload_n (z_dec yq_ld13 47 rfl) rfl 0 rfl (n := 1228) rfl ?_
  refine ys_p_iconst (z_dec yq_ld13 48 rfl) (v := 1) rfl (n := 1229) rfl ?_
  refine ys_p_iadd (z_dec yq_ld13 49 rfl) (n := 1230) rfl ?_
  refine ys_sld (z_dec yq_ld13 50 rfl) h1 (n := 1231) rfl ?_
  refine ys_p_aload_n (z_dec yq_ld13 51 rfl) rfl 3 rfl (n := 1232) rfl ?_
  refine ys_p_iload_n (z_dec yq_ld13 52 rfl) rfl 0 rfl (n := 1233) rfl ?_
  refine ys_p_iconst (z_dec yq_ld13 53 rfl) (v := 2) rfl (n := 1234) rfl ?_
  refine ys_p_iadd (z_dec yq_ld13 54 rfl) (n := 1235) rfl ?_
  refine ys_sld (z_dec yq_ld13 55 rfl) h2 (n := 1236) rfl ?_
  refine ys_q_callV (As := [.int (xs (i + 1).toNatClampNeg), .int (xs (i + 2).toNatClampNeg)]) (rest := [.long v]) (z_dec yq_ld13 56 rfl) zk_L_166 zv_X9_element c2 rfl ⟨_, _, rfl⟩ rfl rfl (Nat.le_of_ble_eq_true rfl) e2 (n := 1239) rfl ?_
  refine ys_p_lcmp (z_dec yq_ld13 57 rfl) (n := 1240) rfl ?_
  exact ys_p_if_eq (z_dec yq_ld13 58 rfl) (t := 1364) rfl (n := 1243) rfl (fun _ => h) (fun q => absurd (by simp [lg_cmp]) q)
theorem yq_kc1138 {N d d1 d2 : Nat} {xs : Nat → Int32} {i v : Int32} {μ μ1 μ2 : z_M} {E : Option Value → z_Sh → z_M → Prop} (h1 : vp_in (i + 1) N) (h2 : vp_in (i + 2) N) (h3 : vp_in (i + 3) N) (h4 : vp_in (i + 4) N) (c1 : z_CT zm_X8_put d1 [.ref 0, .int (xs (i + 1).toNatClampNeg), .int (xs (i + 2).toNatClampNeg), .long (((xs (i + 3).toNatClampNeg).toInt64 <<< ((32 : Int32).toInt64 &&& 63)) ||| ((xs (i + 4).toNatClampNeg).toInt64 &&& 4294967295))] SH μ 0 0 (z_ret (some (.int v)) μ1)) (c2 : z_CT zm_X9_put d2 [.ref 54, .int (xs (i + 1).toNatClampNeg), .int (xs (i + 2).toNatClampNeg), .long (((xs (i + 3).toNatClampNeg).toInt64 <<< ((32 : Int32).toInt64 &&& 63)) ||| ((xs (i + 4).toNatClampNeg).toInt64 &&& 4294967295))] SH μ1 0 0 (z_ret (some (.int v)) μ2)) (e1 : d1 + 1 ≤ d) (e2 : d2 + 1 ≤ d) (h : PS (yq_G N xs) yq_law d 1364 [(3, .int i), (2, .ref 54), (1, .ref 0), (0, .ref 1003)] [] SH μ2 0 0 E) : PS (yq_G N xs) yq_law d 1138 [(3, .int i), (2, .ref 54), (1, .ref 0), (0, .ref 1003)] [] SH μ 0 0 E := by
  refine ys_p_aload_n (z_dec yq_ld12 32 rfl) rfl 2 rfl (n := 1139) rfl ?_
  refine ys_p_aload_n (z_dec yq_ld12 33 rfl) rfl 3 rfl (n := 1140) rfl ?_
  refine ys_p_iload_n (z_dec yq_ld12 34 rfl) rfl 0 rfl (n := 1141) rfl ?_
  refine ys_p_iconst (z_dec yq_ld12 35 rfl) (v := 1) rfl (n := 1142) rfl ?_
  refine ys_p_iadd (z_dec yq_ld12 36 rfl) (n := 1143) rfl ?_
  refine ys_sld (z_dec yq_ld12 37 rfl) h1 (n := 1144) rfl ?_
  refine ys_p_aload_n (z_dec yq_ld12 38 rfl) rfl 3 rfl (n := 1145) rfl ?_
  refine ys_p_iload_n (z_dec yq_ld12 39 rfl) rfl 0 rfl (n := 1146) rfl ?_
  refine ys_p_iconst (z_dec yq_ld12 40 rfl) (v := 2) rfl (n := 1147) rfl ?_
  refine ys_p_iadd (z_dec yq_ld12 41 rfl) (n := 1148) rfl ?_
  refine ys_sld (z_dec yq_ld12 42 rfl) h2 (n := 1149) rfl ?_
  refine ys_p_aload_n (z_dec yq_ld12 43 rfl) rfl 3 rfl (n := 1150) rfl ?_
  refine ys_p_iload_n (z_dec yq_ld12 44 rfl) rfl 0 rfl (n := 1151) rfl ?_
  refine ys_p_iconst (z_dec yq_ld12 45 rfl) (v := 3) rfl (n := 1152) rfl ?_
  refine ys_p_iadd (z_dec yq_ld12 46 rfl) (n := 1153) rfl ?_
  refine ys_sld (z_dec yq_ld12 47 rfl) h3 (n := 1154) rfl ?_
  refine ys_p_i2l (z_dec yq_ld12 48 rfl) (n := 1155) rfl ?_
  refine ys_p_bipush (z_dec yq_ld12 49 rfl) (v := 32) rfl (n := 1157) rfl ?_
  refine ys_p_lshl (z_dec yq_ld12 50 rfl) (n := 1158) rfl ?_
  refine ys_p_aload_n (z_dec yq_ld12 51 rfl) rfl 3 rfl (n := 1159) rfl ?_
  refine ys_p_iload_n (z_dec yq_ld12 52 rfl) rfl 0 rfl (n := 1160) rfl ?_
  refine ys_p_iconst (z_dec yq_ld12 53 rfl) (v := 4) rfl (n := 1161) rfl ?_
  refine ys_p_iadd (z_dec yq_ld12 54 rfl) (n := 1162) rfl ?_
  refine ys_sld (z_dec yq_ld12 55 rfl) h4 (n := 1163) rfl ?_
  refine ys_p_i2l (z_dec yq_ld12 56 rfl) (n := 1164) rfl ?_
  refine ys_p_ldc2 (z_dec yq_ld12 57 rfl) zq_L_155 (n := 1167) rfl ?_
  refine ys_p_land (z_dec yq_ld12 58 rfl) (n := 1168) rfl ?_
  refine ys_p_lor (z_dec yq_ld12 59 rfl) (n := 1169) rfl ?_
  refine ys_q_callV (As := [.int (xs (i + 1).toNatClampNeg), .int (xs (i + 2).toNatClampNeg), .long (((xs (i + 3).toNatClampNeg).toInt64 <<< ((32 : Int32).toInt64 &&& 63)) ||| ((xs (i + 4).toNatClampNeg).toInt64 &&& 4294967295))]) (rest := []) (z_dec yq_ld13 0 rfl) zk_L_157 zv_X8_put c1 rfl ⟨_, _, rfl⟩ rfl rfl (Nat.le_of_ble_eq_true rfl) e1 (n := 1172) rfl ?_
  refine ys_p_aload_n (z_dec yq_ld13 1 rfl) rfl 1 rfl (n := 1173) rfl ?_
  refine ys_p_aload_n (z_dec yq_ld13 2 rfl) rfl 3 rfl (n := 1174) rfl ?_
  refine ys_p_iload_n (z_dec yq_ld13 3 rfl) rfl 0 rfl (n := 1175) rfl ?_
  refine ys_p_iconst (z_dec yq_ld13 4 rfl) (v := 1) rfl (n := 1176) rfl ?_
  refine ys_p_iadd (z_dec yq_ld13 5 rfl) (n := 1177) rfl ?_
  refine ys_sld (z_dec yq_ld13 6 rfl) h1 (n := 1178) rfl ?_
  refine ys_p_aload_n (z_dec yq_ld13 7 rfl) rfl 3 rfl (n := 1179) rfl ?_
  refine ys_p_iload_n (z_dec yq_ld13 8 rfl) rfl 0 rfl (n := 1180) rfl ?_
  refine ys_p_iconst (z_dec yq_ld13 9 rfl) (v := 2) rfl (n := 1181) rfl ?_
  refine ys_p_iadd (z_dec yq_ld13 10 rfl) (n := 1182) rfl ?_
  refine ys_sld (z_dec yq_ld13 11 rfl) h2 (n := 1183) rfl ?_
  refine ys_p_aload_n (z_dec yq_ld13 12 rfl) rfl 3 rfl (n := 1184) rfl ?_
  refine ys_p_iload_n (z_dec yq_ld13 13 rfl) rfl 0 rfl (n := 1185) rfl ?_
  refine ys_p_iconst (z_dec yq_ld13 14 rfl) (v := 3) rfl (n := 1186) rfl ?_
  refine ys_p_iadd (z_dec yq_ld13 15 rfl) (n := 1187) rfl ?_
  refine ys_sld (z_dec yq_ld13 16 rfl) h3 (n := 1188) rfl ?_
  refine ys_p_i2l (z_dec yq_ld13 17 rfl) (n := 1189) rfl ?_
  refine ys_p_bipush (z_dec yq_ld13 18 rfl) (v := 32) rfl (n := 1191) rfl ?_
  refine ys_p_lshl (z_dec yq_ld13 19 rfl) (n := 1192) rfl ?_
  refine ys_p_aload_n (z_dec yq_ld13 20 rfl) rfl 3 rfl (n := 1193) rfl ?_
  refine ys_p_iload_n (z_dec yq_ld13 21 rfl) rfl 0 rfl (n := 1194) rfl ?_
  refine ys_p_iconst (z_dec yq_ld13 22 rfl) (v := 4) rfl (n := 1195) rfl ?_
  refine ys_p_iadd (z_dec yq_ld13 23 rfl) (n := 1196) rfl ?_
  refine ys_sld (z_dec yq_ld13 24 rfl) h4 (n := 1197) rfl ?_
  refine ys_p_i2l (z_dec yq_ld13 25 rfl) (n := 1198) rfl ?_
  refine ys_p_ldc2 (z_dec yq_ld13 26 rfl) zq_L_155 (n := 1201) rfl ?_
  refine ys_p_land (z_dec yq_ld13 27 rfl) (n := 1202) rfl ?_
  refine ys_p_lor (z_dec yq_ld13 28 rfl) (n := 1203) rfl ?_
  refine ys_q_callV (As := [.int (xs (i + 1).toNatClampNeg), .int (xs (i + 2).toNatClampNeg), .long (((xs (i + 3).toNatClampNeg).toInt64 <<< ((32 : Int32).toInt64 &&& 63)) ||| ((xs (i + 4).toNatClampNeg).toInt64 &&& 4294967295))]) (rest := [.int v]) (z_dec yq_ld13 29 rfl) zk_L_161 zv_X9_put c2 rfl ⟨_, _, rfl⟩ rfl rfl (Nat.le_of_ble_eq_true rfl) e2 (n := 1206) rfl ?_
  exact ys_p_icmp_eq (z_dec yq_ld13 30 rfl) (t := 1364) rfl (n := 1209) rfl (fun _ => h) (fun q => absurd rfl q)
