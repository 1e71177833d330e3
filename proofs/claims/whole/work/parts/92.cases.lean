theorem yq_kc204 {N d d1 d2 : Nat} {xs : Nat → Int32} {i v : Int32} {μ μ1 μ2 : z_M} {E : Option Value → z_Sh → z_M → Prop} (h1 : vp_in (i + 1) N) (c1 : z_CT zm_X8_player d1 [.ref 0, .int (xs (i + 1).toNatClampNeg)] SH μ 0 0 (z_ret (some (.int v)) μ1)) (c2 : z_CT zm_X9_player d2 [.ref 54, .int (xs (i + 1).toNatClampNeg)] SH μ1 0 0 (z_ret (some (.int v)) μ2)) (e1 : d1 + 1 ≤ d) (e2 : d2 + 1 ≤ d) (h : PS (yq_G N xs) yq_law d 1364 [(3, .int i), (2, .ref 54), (1, .ref 0), (0, .ref 1003)] [] SH μ2 0 0 E) : PS (yq_G N xs) yq_law d 204 [(3, .int i), (2, .ref 54), (1, .ref 0), (0, .ref 1003)] [] SH μ 0 0 E := by
  refine ys_p_aload_n (z_dec yq_ld0 22 rfl) rfl 2 rfl (n := 205) rfl ?_
  refine ys_p_aload_n (z_dec yq_ld0 23 rfl) rfl 3 rfl (n := 206) rfl ?_
  refine ys_p_iload_n (z_dec yq_ld0 24 rfl) rfl 0 rfl (n := 207) rfl ?_
  refine ys_p_iconst (z_dec yq_ld0 25 rfl) (v := 1) rfl (n := 208) rfl ?_
  refine ys_p_iadd (z_dec yq_ld0 26 rfl) (n := 209) rfl ?_
  refine ys_sld (z_dec yq_ld0 27 rfl) h1 (n := 210) rfl ?_
  refine ys_q_callV (As := [.int (xs (i + 1).toNatClampNeg)]) (rest := []) (z_dec yq_ld0 28 rfl) zk_L_13 zv_X8_player c1 rfl ⟨_, _, rfl⟩ rfl rfl (Nat.le_of_ble_eq_true rfl) e1 (n := 213) rfl ?_
  refine ys_p_aload_n (z_dec yq_ld0 29 rfl) rfl 1 rfl (n := 214) rfl ?_
  refine ys_p_aload_n (z_dec yq_ld0 30 rfl) rfl 3 rfl (n := 215) rfl ?_
  refine ys_p_iload_n (z_dec yq_ld0 31 rfl) rfl 0 rfl (n := 216) rfl ?_
  refine ys_p_iconst (z_dec yq_ld0 32 rfl) (v := 1) rfl (n := 217) rfl ?_
  refine ys_p_iadd (z_dec yq_ld0 33 rfl) (n := 218) rfl ?_
  refine ys_sld (z_dec yq_ld0 34 rfl) h1 (n := 219) rfl ?_
  refine ys_q_callV (As := [.int (xs (i + 1).toNatClampNeg)]) (rest := [.int v]) (z_dec yq_ld0 35 rfl) zk_L_17 zv_X9_player c2 rfl ⟨_, _, rfl⟩ rfl rfl (Nat.le_of_ble_eq_true rfl) e2 (n := 222) rfl ?_
  exact ys_p_icmp_eq (z_dec yq_ld0 36 rfl) (t := 1364) rfl (n := 225) rfl (fun _ => h) (fun q => absurd rfl q)
theorem yq_kc227 {N d d1 d2 : Nat} {xs : Nat → Int32} {i v : Int32} {μ μ1 μ2 : z_M} {E : Option Value → z_Sh → z_M → Prop} (h1 : vp_in (i + 1) N) (h2 : vp_in (i + 2) N) (h3 : vp_in (i + 3) N) (c1 : z_CT zm_X8_players d1 [.ref 0, .int (xs (i + 1).toNatClampNeg), .int (xs (i + 2).toNatClampNeg), .int (xs (i + 3).toNatClampNeg)] SH μ 0 0 (z_ret (some (.int v)) μ1)) (c2 : z_CT zm_X9_players d2 [.ref 54, .int (xs (i + 1).toNatClampNeg), .int (xs (i + 2).toNatClampNeg), .int (xs (i + 3).toNatClampNeg)] SH μ1 0 0 (z_ret (some (.int v)) μ2)) (e1 : d1 + 1 ≤ d) (e2 : d2 + 1 ≤ d) (h : PS (yq_G N xs) yq_law d 1364 [(3, .int i), (2, .ref 54), (1, .ref 0), (0, .ref 1003)] [] SH μ2 0 0 E) : PS (yq_G N xs) yq_law d 227 [(3, .int i), (2, .ref 54), (1, .ref 0), (0, .ref 1003)] [] SH μ 0 0 E := by
  refine ys_p_aload_n (z_dec yq_ld0 39 rfl) rfl 2 rfl (n := 228) rfl ?_
  refine ys_p_aload_n (z_dec yq_ld0 40 rfl) rfl 3 rfl (n := 229) rfl ?_
  refine ys_p_iload_n (z_dec yq_ld0 41 rfl) rfl 0 rfl (n := 230) rfl ?_
  refine ys_p_iconst (z_dec yq_ld0 42 rfl) (v := 1) rfl (n := 231) rfl ?_
  refine ys_p_iadd (z_dec yq_ld0 43 rfl) (n := 232) rfl ?_
  refine ys_sld (z_dec yq_ld0 44 rfl) h1 (n := 233) rfl ?_
  refine ys_p_aload_n (z_dec yq_ld0 45 rfl) rfl 3 rfl (n := 234) rfl ?_
  refine ys_p_iload_n (z_dec yq_ld0 46 rfl) rfl 0 rfl (n := 235) rfl ?_
  refine ys_p_iconst (z_dec yq_ld0 47 rfl) (v := 2) rfl (n := 236) rfl ?_
  refine ys_p_iadd (z_dec yq_ld0 48 rfl) (n := 237) rfl ?_
  refine ys_sld (z_dec yq_ld0 49 rfl) h2 (n := 238) rfl ?_
  refine ys_p_aload_n (z_dec yq_ld0 50 rfl) rfl 3 rfl (n := 239) rfl ?_
  refine ys_p_iload_n (z_dec yq_ld0 51 rfl) rfl 0 rfl (n := 240) rfl ?_
  refine ys_p_iconst (z_dec yq_ld0 52 rfl) (v := 3) rfl (n := 241) rfl ?_
  refine ys_p_iadd (z_dec yq_ld0 53 rfl) (n := 242) rfl ?_
  refine ys_sld (z_dec yq_ld0 54 rfl) h3 (n := 243) rfl ?_
  refine ys_q_callV (As := [.int (xs (i + 1).toNatClampNeg), .int (xs (i + 2).toNatClampNeg), .int (xs (i + 3).toNatClampNeg)]) (rest := []) (z_dec yq_ld0 55 rfl) zk_L_18 zv_X8_players c1 rfl ⟨_, _, rfl⟩ rfl rfl (Nat.le_of_ble_eq_true rfl) e1 (n := 246) rfl ?_
  refine ys_p_aload_n (z_dec yq_ld0 56 rfl) rfl 1 rfl (n := 247) rfl ?_
  refine ys_p_aload_n (z_dec yq_ld0 57 rfl) rfl 3 rfl (n := 248) rfl ?_
  refine ys_p_iload_n (z_dec yq_ld0 58 rfl) rfl 0 rfl (n := 249) rfl ?_
  refine ys_p_iconst (z_dec yq_ld0 59 rfl) (v := 1) rfl (n := 250) rfl ?_
  refine ys_p_iadd (z_dec yq_ld1 0 rfl) (n := 251) rfl ?_
  refine ys_sld (z_dec yq_ld1 1 rfl) h1 (n := 252) rfl ?_
  refine ys_p_aload_n (z_dec yq_ld1 2 rfl) rfl 3 rfl (n := 253) rfl ?_
  refine ys_p_iload_n (z_dec yq_ld1 3 rfl) rfl 0 rfl (n := 254) rfl ?_
  refine ys_p_iconst (z_dec yq_ld1 4 rfl) (v := 2) rfl (n := 255) rfl ?_
  refine ys_p_iadd (z_dec yq_ld1 5 rfl) (n := 256) rfl ?_
  refine ys_sld (z_dec yq_ld1 6 rfl) h2 (n := 257) rfl ?_
  refine ys_p_aload_n (z_dec yq_ld1 7 rfl) rfl 3 rfl (n := 258) rfl ?_
  refine ys_p_iload_n (z_dec yq_ld1 8 rfl) rfl 0 rfl (n := 259) rfl ?_
  refine ys_p_iconst (z_dec yq_ld1 9 rfl) (v := 3) rfl (n := 260) rfl ?_
  refine ys_p_iadd (z_dec yq_ld1 10 rfl) (n := 261) rfl ?_
  refine ys_sld (z_dec yq_ld1 11 rfl) h3 (n := 262) rfl ?_
  refine ys_q_callV (As := [.int (xs (i + 1).toNatClampNeg), .int (xs (i + 2).toNatClampNeg), .int (xs (i + 3).toNatClampNeg)]) (rest := [.int v]) (z_dec yq_ld1 12 rfl) zk_L_22 zv_X9_players c2 rfl ⟨_, _, rfl⟩ rfl rfl (Nat.le_of_ble_eq_true rfl) e2 (n := 265) rfl ?_
  exact ys_p_icmp_eq (z_dec yq_ld1 13 rfl) (t := 1364) rfl (n := 268) rfl (fun _ => h) (fun q => absurd rfl q)
theorem yq_kc270 {N d d1 d2 : Nat} {xs : Nat → Int32} {i v : Int32} {μ μ1 μ2 : z_M} {E : Option Value → z_Sh → z_M → Prop} (h1 : vp_in (i + 1) N) (h2 : vp_in (i + 2) N) (h3 : vp_in (i + 3) N) (c1 : z_CT zm_X8_mend d1 [.ref 0, .int (xs (i + 1).toNatClampNeg), .int (xs (i + 2).toNatClampNeg), .int (xs (i + 3).toNatClampNeg)] SH μ 0 0 (z_ret (some (.int v)) μ1)) (c2 : z_CT zm_X9_mend d2 [.ref 54, .int (xs (i + 1).toNatClampNeg), .int (xs (i + 2).toNatClampNeg), .int (xs (i + 3).toNatClampNeg)] SH μ1 0 0 (z_ret (some (.int v)) μ2)) (e1 : d1 + 1 ≤ d) (e2 : d2 + 1 ≤ d) (h : PS (yq_G N xs) yq_law d 1364 [(3, .int i), (2, .ref 54), (1, .ref 0), (0, .ref 1003)] [] SH μ2 0 0 E) : PS (yq_G N xs) yq_law d 270 [(3, .int i), (2, .ref 54), (1, .ref 0), (0, .ref 1003)] [] SH μ 0 0 E := by
  refine ys_p_aload_n (z_dec yq_ld1 16 rfl) rfl 2 rfl (n := 271) rfl ?_
  refine ys_p_aload_n (z_dec yq_ld1 17 rfl) rfl 3 rfl (n := 272) rfl ?_
  refine ys_p_iload_n (z_dec yq_ld1 18 rfl) rfl 0 rfl (n := 273) rfl ?_
  refine ys_p_iconst (z_dec yq_ld1 19 rfl) (v := 1) rfl (n := 274) rfl ?_
  refine ys_p_iadd (z_dec yq_ld1 20 rfl) (n := 275) rfl ?_
  refine ys_sld (z_dec yq_ld1 21 rfl) h1 (n := 276) rfl ?_
  refine ys_p_aload_n (z_dec yq_ld1 22 rfl) rfl 3 rfl (n := 277) rfl ?_
  refine ys_p_iload_n (z_dec yq_ld1 23 rfl) rfl 0 rfl (n := 278) rfl ?_
  refine ys_p_iconst (z_dec yq_ld1 24 rfl) (v := 2) rfl (n := 279) rfl ?_
  refine ys_p_iadd (z_dec yq_ld1 25 rfl) (n := 280) rfl ?_
  refine ys_sld (z_dec yq_ld1 26 rfl) h2 (n := 281) rfl ?_
  refine ys_p_aload_n (z_dec yq_ld1 27 rfl) rfl 3 rfl (n := 282) rfl ?_
  refine ys_p_iload_n (z_dec yq_ld1 28 rfl) rfl 0 rfl (n := 283) rfl ?_
  refine ys_p_iconst (z_dec yq_ld1 29 rfl) (v := 3) rfl (n := 284) rfl ?_
  refine ys_p_iadd (z_dec yq_ld1 30 rfl) (n := 285) rfl ?_
  refine ys_sld (z_dec yq_ld1 31 rfl) h3 (n := 286) rfl ?_
  refine ys_q_callV (As := [.int (xs (i + 1).toNatClampNeg), .int (xs (i + 2).toNatClampNeg), .int (xs (i + 3).toNatClampNeg)]) (rest := []) (z_dec yq_ld1 32 rfl) zk_L_23 zv_X8_mend c1 rfl ⟨_, _, rfl⟩ rfl rfl (Nat.le_of_ble_eq_true rfl) e1 (n := 289) rfl ?_
  refine ys_p_aload_n (z_dec yq_ld1 33 rfl) rfl 1 rfl (n := 290) rfl ?_
  refine ys_p_aload_n (z_dec yq_ld1 34 rfl) rfl 3 rfl (n := 291) rfl ?_
  refine ys_p_iload_n (z_dec yq_ld1 35 rfl) rfl 0 rfl (n := 292) rfl ?_
  refine ys_p_iconst (z_dec yq_ld1 36 rfl) (v := 1) rfl (n := 293) rfl ?_
  refine ys_p_iadd (z_dec yq_ld1 37 rfl) (n := 294) rfl ?_
  refine ys_sld (z_dec yq_ld1 38 rfl) h1 (n := 295) rfl ?_
  refine ys_p_aload_n (z_dec yq_ld1 39 rfl) rfl 3 rfl (n := 296) rfl ?_
  refine ys_p_iload_n (z_dec yq_ld1 40 rfl) rfl 0 rfl (n := 297) rfl ?_
  refine ys_p_iconst (z_dec yq_ld1 41 rfl) (v := 2) rfl (n := 298) rfl ?_
  refine ys_p_iadd (z_dec yq_ld1 42 rfl) (n := 299) rfl ?_
  refine ys_sld (z_dec yq_ld1 43 rfl) h2 (n := 300) rfl ?_
  refine ys_p_aload_n (z_dec yq_ld1 44 rfl) rfl 3 rfl (n := 301) rfl ?_
  refine ys_p_iload_n (z_dec yq_ld1 45 rfl) rfl 0 rfl (n := 302) rfl ?_
  refine ys_p_iconst (z_dec yq_ld1 46 rfl) (v := 3) rfl (n := 303) rfl ?_
  refine ys_p_iadd (z_dec yq_ld1 47 rfl) (n := 304) rfl ?_
  refine ys_sld (z_dec yq_ld1 48 rfl) h3 (n := 305) rfl ?_
  refine ys_q_callV (As := [.int (xs (i + 1).toNatClampNeg), .int (xs (i + 2).toNatClampNeg), .int (xs (i + 3).toNatClampNeg)]) (rest := [.int v]) (z_dec yq_ld1 49 rfl) zk_L_26 zv_X9_mend c2 rfl ⟨_, _, rfl⟩ rfl rfl (Nat.le_of_ble_eq_true rfl) e2 (n := 308) rfl ?_
  exact ys_p_icmp_eq (z_dec yq_ld1 50 rfl) (t := 1364) rfl (n := 311) rfl (fun _ => h) (fun q => absurd rfl q)
