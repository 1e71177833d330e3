theorem yq_kc204 {N d d1 d2 : Nat} {xs : Nat → Int32} {i v : Int32} {μ μ1 μ2 : z_M} {E : Option Value → z_Sh → z_M → Prop} (h1 : vp_in (i + 1) N) (c1 : z_CT zm_X8_player d1 [.ref 0, .int (xs (i + 1).toNatClampNeg)] SH μ 0 0 (z_ret (some (.int v)) μ1)) (c2 : z_CT zm_X9_player d2 [.ref 54, .int (xs (i + 1).toNatClampNeg)] SH μ1 0 0 (z_ret (some (.int v)) μ2)) (e1 : d1 + 1 ≤ d) (e2 : d2 + 1 ≤ d) (h : PS (yq_G N xs) yq_law d 1364 [(3, .int i), (2, .ref 54), (1, .ref 0), (0, .ref 1003)] [] SH μ2 0 0 E) : PS (yq_G N xs) yq_law d 204 [(3, .int i), (2, .ref 54), (1, .ref 0), (0, .ref 1003)] [] SH μ 0 0 E := by
  refine ys_p_aload_n (z_dec yq_ld0 22 rfl) rfl 2 rfl (n := 205) rfl ?_
  refine ys_p_aload_n (z_dec yq_ld0 23 rfl) rfl 3 rfl (n := 206) rfl ?_
  refine ys_p_iload_n (z_dec yq_ld0 24 rfl) rfl 0 rfl (n := 207) rfl ?_
  refine ys_p_iconst (z_dec yq_ld0 25 rfl) (v := 1) rfl (n := 208) rfl ?_
  refine ys_p_iadd (z_dec yq_ld0 26 rfl) (n := 209) rfl ?_
  refine ys_sld (z_dec yq_ld0 27 rfl) h1 (n := 210) rfl ?_
  refine ys_q_callV (As := [.int (xs (i + 1).toNatClampNeg)]) (rest := []) (z_dec yq_ld0 28 rfl) zk_L_13 zv_X8_player c1 rfl ⟨_, _, rfl⟩ rfl rfl (Nat.le_of_ble_eq_true rfl) e1 (n := 213) rfl ?_
  refine ys_p_aload_n (z_dec yq_ld0 29 rfl) rfl 1 rfl (n := 214) rfl ?_
  refine ys_p_aload_n (z_dec yq_ld0 30 rfl) rfl 3 rfl (n := 215) rfl ?_
  refine ys_p_iload_n (z_dec yq_ld0 31 rfl) rfl 0 rfl (n := 216) rfl ?_
  refine ys_p_iconst (z_dec yq_ld0 32 rfl) (v := 1) rfl (n := 217) rfl ?_
  refine ys_p_iadd (z_dec yq_ld0 33 rfl) (n := 218) rfl ?_
  refine ys_sld (z_dec yq_ld0 34 rfl) h1 (n := 219) rfl ?_
  refine ys_q_callV (As := [.int (xs (i + 1).toNatClampNeg)]) (rest := [.int v]) (z_dec yq_ld0 35 rfl) zk_L_17 zv_X9_player c2 rfl ⟨_, _, rfl⟩ rfl rfl (Nat.le_of_ble_eq_true rfl) e2 (n := 222) rfl ?_
  exact ys_p_icmp_eq (z_dec yq_ld0 36 rfl) (t := 1364) rfl (n := 225) rfl (fun _ => h) (fun q => absurd rfl q)
theorem yq_kc227 {N d d1 d2 : Nat} {xs : Nat → Int32} {i v : Int32} {μ μ1 μ2 : z_M} {E : Option Value → z_Sh → z_M → Prop} (h1 : vp_in (i + 1) N) (h2 : vp_in (i + 2) N) (h3 : vp_in (i + 3) N) (c1 : z_CT zm_X8_players d1 [.ref 0, .int (xs (i + 1).toNatClampNeg), .int (xs (i + 2).toNatClampNeg), .int (xs (i + 3).toNatClampNeg)] SH μ 0 0 (z_ret (some (.int v)) μ1)) (c2 : z_CT zm_X9_players d2 [.ref 54, .int (xs (i + 1).toNatClampNeg), .int (xs (i + 2).toNatClampNeg), .int (xs (i + 3).toNatClampNeg)] SH μ1 0 0 (z_ret (some (.int v)) μ2)) (e1 : d1 + 1 ≤ d) (e2 : d2 + 1 ≤ d) (h : PS (yq_G N xs) yq_law d 1364 [(3, .int i), (2, .ref 54), (1, .ref 0), (0, .ref 1003)] [] SH μ2 0 0 E) : PS (yq_G N xs) yq_law d 227 [(3, .int i), (2, .ref 54), (1, .ref 0), (0, .ref 1003)] [] SH μ 0 0 E := by
  refine ys_p_aload_n (z_dec yq_ld0 39 rfl) rfl 2 rfl (n := 228) rfl ?_
  refine ys_p_aload_n (z_dec yq_ld0 40 rfl) rfl 3 rfl (n := 229) rfl ?_
  refine ys_p_iload_n (z_dec yq_ld0 41 rfl) rfl 0 rfl (n := 230) rfl ?_
  refine ys_p_iconst (z_dec yq_ld0 42 rfl) (v := 1) rfl (n := 231) rfl ?_
  refine ys_p_iadd (z_dec yq_ld0 43 rfl) (n := 232) rfl ?_
  refine ys_sld (z_dec yq_ld0 44 rfl) h1 (n := 233) rfl ?_
  refine ys_p_aload_n (z_dec yq_ld0 45 rfl) rfl 3 rfl (n := 234) rfl ?_
  refine ys_p_iload_n (z_dec yq_ld0 46 rfl) rfl 0 rfl (n := 235) rfl ?_
  refine ys_p_iconst (z_dec yq_ld0 47 rfl) (v := 2) rfl (n := 236) rfl ?_
  refine ys_p_iadd (z_dec yq_ld0 48 rfl) (n := 237) rfl ?_
  refine ys_sld (z_dec yq_ld0 49 rfl) h2 (n := 238) rfl ?_
  refine ys_p_aload_n (z_dec yq_ld0 50 rfl) rfl 3 rfl (n := 239) rfl ?_
  refine ys_p_iload_n (z_dec yq_ld0 51 rfl) rfl 0 rfl (n := 240) rfl ?_
  refine ys_p_iconst (z_dec yq_ld0 52 rfl) (v := 3) rfl (n := 241) rfl ?_
  refine ys_p_iadd (z_dec yq_ld0 53 rfl) (n := 242) rfl ?_
  refine ys_sld (z_dec yq_ld0 54 rfl) h3 (n := 243) rfl ?_
  refine ys_q_callV (As := [.int (xs (i + 1).toNatClampNeg), .int (xs (i + 2).toNatClampNeg), .int (xs (i + 3).toNatClampNeg)]) (rest := []) (z_dec yq_ld0 55 rfl) zk_L_18 zv_X8_players c1 rfl ⟨_, _, rfl⟩ rfl rfl (Nat.le_of_ble_eq_true rfl) e1 (n := 246) rfl ?_
  refine ys_p_aload_n (z_dec yq_ld0 56 rfl) rfl 1 rfl (n := 247) rfl ?_
  refine ys_p_aload_n (z_dec yq_ld0 57 rfl) rfl 3 rfl (n := 248) rfl ?_
  refine ys_p_iload_n (z_dec yq_ld0 58 rfl) rfl 0 rfl (n := 249) rfl ?_
  refine ys_p_iconst (z_dec yq_ld0 59 rfl) (v := 1) rfl (n := 250) rfl ?_
  refine ys_p_iadd (z_dec yq_ld1 0 rfl) (n := 251) rfl ?_
  refine ys_sld (z_dec yq_ld1 1 rfl) h1 (n := 252) rfl ?_
  refine ys_p_aload_n (z_dec yq_ld1 2 rfl) rfl 3 rfl (n := 253) rfl ?_
  refine ys_p_iload_n (z_dec yq_ld1 3 rfl) rfl 0 rfl (n := 254) rfl ?_
  refine ys_p_iconst (z_dec yq_ld1 4 rfl) (v := 2) rfl (n := 255) rfl ?_
  refine ys_p_iadd (z_dec yq_ld1 5 rfl) (n := 256) rfl ?_
  refine ys_sld (z_dec yq_ld1 6 rfl) h2 (n := 257) rfl ?_
  refine ys_p_aload_n (z_dec yq_ld1 7 rfl) rfl 3 rfl (n := 258) rfl ?_
  refine ys_p_iload_n (z_dec yq_ld1 8 rfl) rfl 0 rfl (n := 259) rfl ?_
  refine ys_p_iconst (z_dec yq_ld1 9 rfl) (v := 3) rfl (n := 260) rfl ?_
  refine ys_p_iadd (z_dec yq_ld1 10 rfl) (n := 261) rfl ?_
  refine ys_sld (z_dec yq_ld1 11 rfl) h3 (n := 262) rfl ?_
  refine ys_q_callV (As := [.int (xs (i + 1).toNatClampNeg), .int (xs (i + 2).toNatClampNeg), .int (xs (i + 3).toNatClampNeg)]) (rest := [.int v]) (z_dec yq_ld1 12 rfl) zk_L_22 zv_X9_players c2 rfl ⟨_, _, rfl⟩ rfl rfl (Nat.le_of_ble_eq_true rfl) e2 (n := 265) rfl ?_
  exact ys_p_icmp_eq (z_dec yq_ld1 13 rfl) (t := 1364) rfl (n := 268) rfl (fun _ => h) (fun q => absurd rfl q)
theorem yq_kc270 {N d d1 d2 : Nat} {xs : Nat → Int32} {i v : Int32} {μ μ1 μ2 : z_M} {E : Option Value → z_Sh → z_M → Prop} (h1 : vp_in (i + 1) N) (h2 : vp_in (i + 2) N) (h3 : vp_in (i + 3) N) (c1 : z_CT zm_X8_mend d1 [.ref 0, .int (xs (i + 1).toNatClampNeg), .int (xs (i + 2).toNatClampNeg), .int (xs (i + 3).toNatClampNeg)] SH μ 0 0 (z_ret (some (.int v)) μ1)) (c2 : z_CT zm_X9_mend d2 [.ref 54, .int (xs (i + 1).toNatClampNeg), .int (xs (i + 2).toNatClampNeg), .int (xs (i + 3).toNatClampNeg)] SH μ1 0 0 (z_ret (some (.int v)) μ2)) (e1 : d1 + 1 ≤ d) (e2 : d2 + 1 ≤ d) (h : PS (yq_G N xs) yq_law d 1364 [(3, .int i), (2, .ref 54), (1, .ref 0), (0, .ref 1003)] [] SH μ2 0 0 E) : PS (yq_G N xs) yq_law d 270 [(3, .int i), (2, .ref 54), (1, .ref 0), (0, .ref 1003)] [] SH μ 0 0 E := by
  refine ys_p_aload_n (z_dec yq_ld1 16 rfl) rfl 2 rfl (n := 271) rfl ?_
  refine ys_p_aload_n (z_dec yq_ld1 17 rfl) rfl 3 rfl (n := 272) rfl ?_
  refine ys_p_iload_n (z_dec yq_ld1 18 rfl) rfl 0 rfl (n := 273) rfl ?_
  refine ys_p_iconst (z_dec yq_ld1 19 rfl) (v := 1) rfl (n := 274) rfl ?_
  refine ys_p_iadd (z_dec yq_ld1 20 rfl) (n := 275) rfl ?_
  refine ys_sld (z_dec yq_ld1 21 rfl) h1 (n := 276) rfl ?_
  refine ys_p_aload_n (z_dec yq_ld1 22 rfl) rfl 3 rfl (n := 277) rfl ?_
  refine ys_p_iload_n (z_dec yq_ld1 23 rfl) rfl 0 rfl (n := 278) rfl ?_
  refine ys_p_iconst (z_dec yq_ld1 24 rfl) (v := 2) rfl (n := 279) rfl ?_
  refine ys_p_iadd (z_dec yq_ld1 25 rfl) (n := 280) rfl ?_
  refine ys_sld (z_dec yq_ld1 26 rfl) h2 (n := 281) rfl ?_
  refine ys_p_aload_n (z_dec yq_ld1 27 rfl) rfl 3 rfl (n := 282) rfl ?_
  refine ys_p_iload_n (z_dec yq_ld1 28 rfl) rfl 0 rfl (n := 283) rfl ?_
  refine ys_p_iconst (z_dec yq_ld1 29 rfl) (v := 3) rfl (n := 284) rfl ?_
  refine ys_p_iadd (z_dec yq_ld1 30 rfl) (n := 285) rfl ?_
  refine ys_sld (z_dec yq_ld1 31 rfl) h3 (n := 286) rfl ?_
  refine ys_q_callV (As := [.int (xs (i + 1).toNatClampNeg), .int (xs (i + 2).toNatClampNeg), .int (xs (i + 3).toNatClampNeg)]) (rest := []) (z_dec yq_ld1 32 rfl) zk_L_23 zv_X8_mend c1 rfl ⟨_, _, rfl⟩ rfl rfl (Nat.le_of_ble_eq_true rfl) e1 (n := 289) rfl ?_
  refine ys_p_aload_n (z_dec yq_ld1 33 rfl) rfl 1 rfl (n := 290) rfl ?_
  refine ys_p_aload_n (z_dec yq_ld1 34 rfl) rfl 3 rfl (n := 291) rfl ?_
  refine ys_p_iload_n (z_dec yq_ld1 35 rfl) rfl 0 rfl (n := 292) rfl ?_
  refine ys_p_iconst (z_dec yq_ld1 36 rfl) (v := 1) rfl (n := 293) rfl ?_
  refine ys_p_iadd (z_dec yq_ld1 37 rfl) (n := 294) rfl ?_
  refine ys_sld (z_dec yq_ld1 38 rfl) h1 (n := 295) rfl ?_
  refine ys_p_aload_n (z_dec yq_ld1 39 rfl) rfl 3 rfl (n := 296) rfl ?_
  refine ys_p_iload_n (z_dec yq_ld1 40 rfl) rfl 0 rfl (n := 297) rfl ?_
  refine ys_p_iconst (z_dec yq_ld1 41 rfl) (v := 2) rfl (n := 298) rfl ?_
  refine ys_p_iadd (z_dec yq_ld1 42 rfl) (n := 299) rfl ?_
  refine ys_sld (z_dec yq_ld1 43 rfl) h2 (n := 300) rfl ?_
  refine ys_p_aload_n (z_dec yq_ld1 44 rfl) rfl 3 rfl (n := 301) rfl ?_
  refine ys_p_iload_n (z_dec yq_ld1 45 rfl) rfl 0 rfl (n := 302) rfl ?_
  refine ys_p_iconst (z_dec yq_ld1 46 rfl) (v := 3) rfl (n := 303) rfl ?_
  refine ys_p_iadd (z_dec yq_ld1 47 rfl) (n := 304) rfl ?_
  refine ys_sld (z_dec yq_ld1 48 rfl) h3 (n := 305) rfl ?_
  refine ys_q_callV (As := [.int (xs (i + 1).toNatClampNeg), .int (xs (i + 2).toNatClampNeg), .int (xs (i + 3).toNatClampNeg)]) (rest := [.int v]) (z_dec yq_ld1 49 rfl) zk_L_26 zv_X9_mend c2 rfl ⟨_, _, rfl⟩ rfl rfl (Nat.le_of_ble_eq_true rfl) e2 (n := 308) rfl ?_
  exact ys_p_icmp_eq (z_dec yq_ld1 50 rfl) (t := 1364) rfl (n := 311) rfl (fun _ => h) (fun q => absurd rfl q)
theorem yq_kc313 {N d d1 d2 : Nat} {xs : Nat → Int32} {i v : Int32} {μ μ1 μ2 : z_M} {E : Option Value → z_Sh → z_M → Prop} (h1 : vp_in (i + 1) N) (h2 : vp_in (i + 2) N) (c1 : z_CT zm_X8_of d1 [.ref 0, .int (xs (i + 1).toNatClampNeg), .int (xs (i + 2).toNatClampNeg)] SH μ 0 0 (z_ret (some (.int v)) μ1)) (c2 : z_CT zm_X9_of d2 [.ref 54, .int (xs (i + 1).toNatClampNeg), .int (xs (i + 2).toNatClampNeg)] SH μ1 0 0 (z_ret (some (.int v)) μ2)) (e1 : d1 + 1 ≤ d) (e2 : d2 + 1 ≤ d) (h : PS (yq_G N xs) yq_law d 1364 [(3, .int i), (2, .ref 54), (1, .ref 0), (0, .ref 1003)] [] SH μ2 0 0 E) : PS (yq_G N xs) yq_law d 313 [(3, .int i), (2, .ref 54), (1, .ref 0), (0, .ref 1003)] [] SH μ 0 0 E := by
  refine ys_p_aload_n (z_dec yq_ld1 53 rfl) rfl 2 rfl (n := 314) rfl ?_
  refine ys_p_aload_n (z_dec yq_ld1 54 rfl) rfl 3 rfl (n := 315) rfl ?_
  refine ys_p_iload_n (z_dec yq_ld1 55 rfl) rfl 0 rfl (n := 316) rfl ?_
  refine ys_p_iconst (z_dec yq_ld1 56 rfl) (v := 1) rfl (n := 317) rfl ?_
  refine ys_p_iadd (z_dec yq_ld1 57 rfl) (n := 318) rfl ?_
  refine ys_sld (z_dec yq_ld1 58 rfl) h1 (n := 319) rfl ?_
  refine ys_p_aload_n (z_dec yq_ld1 59 rfl) rfl 3 rfl (n := 320) rfl ?_
  refine ys_p_iload_n (z_dec yq_ld2 0 rfl) rfl 0 rfl (n := 321) rfl ?_
  refine ys_p_iconst (z_dec yq_ld2 1 rfl) (v := 2) rfl (n := 322) rfl ?_
  refine ys_p_iadd (z_dec yq_ld2 2 rfl) (n := 323) rfl ?_
  refine ys_sld (z_dec yq_ld2 3 rfl) h2 (n := 324) rfl ?_
  refine ys_q_callV (As := [.int (xs (i + 1).toNatClampNeg), .int (xs (i + 2).toNatClampNeg)]) (rest := []) (z_dec yq_ld2 4 rfl) zk_L_27 zv_X8_of c1 rfl ⟨_, _, rfl⟩ rfl rfl (Nat.le_of_ble_eq_true rfl) e1 (n := 327) rfl ?_
  refine ys_p_aload_n (z_dec yq_ld2 5 rfl) rfl 1 rfl (n := 328) rfl ?_
  refine ys_p_aload_n (z_dec yq_ld2 6 rfl) rfl 3 rfl (n := 329) rfl ?_
  refine ys_p_iload_n (z_dec yq_ld2 7 rfl) rfl 0 rfl (n := 330) rfl ?_
  refine ys_p_iconst (z_dec yq_ld2 8 rfl) (v := 1) rfl (n := 331) rfl ?_
  refine ys_p_iadd (z_dec yq_ld2 9 rfl) (n := 332) rfl ?_
  refine ys_sld (z_dec yq_ld2 10 rfl) h1 (n := 333) rfl ?_
  refine ys_p_aload_n (z_dec yq_ld2 11 rfl) rfl 3 rfl (n := 334) rfl ?_
  refine ys_p_iload_n (z_dec yq_ld2 12 rfl) rfl 0 rfl (n := 335) rfl ?_
  refine ys_p_iconst (z_dec yq_ld2 13 rfl) (v := 2) rfl (n := 336) rfl ?_
  refine ys_p_iadd (z_dec yq_ld2 14 rfl) (n := 337) rfl ?_
  refine ys_sld (z_dec yq_ld2 15 rfl) h2 (n := 338) rfl ?_
  refine ys_q_callV (As := [.int (xs (i + 1).toNatClampNeg), .int (xs (i + 2).toNatClampNeg)]) (rest := [.int v]) (z_dec yq_ld2 16 rfl) zk_L_31 zv_X9_of c2 rfl ⟨_, _, rfl⟩ rfl rfl (Nat.le_of_ble_eq_true rfl) e2 (n := 341) rfl ?_
  exact ys_p_icmp_eq (z_dec yq_ld2 17 rfl) (t := 1364) rfl (n := 344) rfl (fun _ => h) (fun q => absurd rfl q)
theorem yq_kc346 {N d d1 d2 : Nat} {xs : Nat → Int32} {i v : Int32} {μ μ1 μ2 : z_M} {E : Option Value → z_Sh → z_M → Prop} (h1 : vp_in (i + 1) N) (c1 : z_CT zm_X8_feed d1 [.ref 0, .int (xs (i + 1).toNatClampNeg)] SH μ 0 0 (z_ret (some (.int v)) μ1)) (c2 : z_CT zm_X9_feed d2 [.ref 54, .int (xs (i + 1).toNatClampNeg)] SH μ1 0 0 (z_ret (some (.int v)) μ2)) (e1 : d1 + 1 ≤ d) (e2 : d2 + 1 ≤ d) (h : PS (yq_G N xs) yq_law d 1364 [(3, .int i), (2, .ref 54), (1, .ref 0), (0, .ref 1003)] [] SH μ2 0 0 E) : PS (yq_G N xs) yq_law d 346 [(3, .int i), (2, .ref 54), (1, .ref 0), (0, .ref 1003)] [] SH μ 0 0 E := by
  refine ys_p_aload_n (z_dec yq_ld2 20 rfl) rfl 2 rfl (n := 347) rfl ?_
  refine ys_p_aload_n (z_dec yq_ld2 21 rfl) rfl 3 rfl (n := 348) rfl ?_
  refine ys_p_iload_n (z_dec yq_ld2 22 rfl) rfl 0 rfl (n := 349) rfl ?_
  refine ys_p_iconst (z_dec yq_ld2 23 rfl) (v := 1) rfl (n := 350) rfl ?_
  refine ys_p_iadd (z_dec yq_ld2 24 rfl) (n := 351) rfl ?_
  refine ys_sld (z_dec yq_ld2 25 rfl) h1 (n := 352) rfl ?_
  refine ys_q_callV (As := [.int (xs (i + 1).toNatClampNeg)]) (rest := []) (z_dec yq_ld2 26 rfl) zk_L_32 zv_X8_feed c1 rfl ⟨_, _, rfl⟩ rfl rfl (Nat.le_of_ble_eq_true rfl) e1 (n := 355) rfl ?_
  refine ys_p_aload_n (z_dec yq_ld2 27 rfl) rfl 1 rfl (n := 356) rfl ?_
  refine ys_p_aload_n (z_dec yq_ld2 28 rfl) rfl 3 rfl (n := 357) rfl ?_
  refine ys_p_iload_n (z_dec yq_ld2 29 rfl) rfl 0 rfl (n := 358) rfl ?_
  refine ys_p_iconst (z_dec yq_ld2 30 rfl) (v := 1) rfl (n := 359) rfl ?_
  refine ys_p_iadd (z_dec yq_ld2 31 rfl) (n := 360) rfl ?_
  refine ys_sld (z_dec yq_ld2 32 rfl) h1 (n := 361) rfl ?_
  refine ys_q_callV (As := [.int (xs (i + 1).toNatClampNeg)]) (rest := [.int v]) (z_dec yq_ld2 33 rfl) zk_L_35 zv_X9_feed c2 rfl ⟨_, _, rfl⟩ rfl rfl (Nat.le_of_ble_eq_true rfl) e2 (n := 364) rfl ?_
  exact ys_p_icmp_eq (z_dec yq_ld2 34 rfl) (t := 1364) rfl (n := 367) rfl (fun _ => h) (fun q => absurd rfl q)
theorem yq_kc369 {N d d1 d2 : Nat} {xs : Nat → Int32} {i v : Int32} {μ μ1 μ2 : z_M} {E : Option Value → z_Sh → z_M → Prop}  (c1 : z_CT zm_X8_law d1 [.ref 0] SH μ 0 0 (z_ret (some (.int v)) μ1)) (c2 : z_CT zm_X9_law d2 [.ref 54] SH μ1 0 0 (z_ret (some (.int v)) μ2)) (e1 : d1 + 1 ≤ d) (e2 : d2 + 1 ≤ d) (h : PS (yq_G N xs) yq_law d 1364 [(3, .int i), (2, .ref 54), (1, .ref 0), (0, .ref 1003)] [] SH μ2 0 0 E) : PS (yq_G N xs) yq_law d 369 [(3, .int i), (2, .ref 54), (1, .ref 0), (0, .ref 1003)] [] SH μ 0 0 E := by
  refine ys_p_aload_n (z_dec yq_ld2 37 rfl) rfl 2 rfl (n := 370) rfl ?_
  refine ys_q_callV (As := []) (rest := []) (z_dec yq_ld2 38 rfl) zk_L_36 zv_X8_law c1 rfl ⟨_, _, rfl⟩ rfl rfl (Nat.le_of_ble_eq_true rfl) e1 (n := 373) rfl ?_
  refine ys_p_aload_n (z_dec yq_ld2 39 rfl) rfl 1 rfl (n := 374) rfl ?_
  refine ys_q_callV (As := []) (rest := [.int v]) (z_dec yq_ld2 40 rfl) zk_L_40 zv_X9_law c2 rfl ⟨_, _, rfl⟩ rfl rfl (Nat.le_of_ble_eq_true rfl) e2 (n := 377) rfl ?_
  exact ys_p_icmp_eq (z_dec yq_ld2 41 rfl) (t := 1364) rfl (n := 380) rfl (fun _ => h) (fun q => absurd rfl q)
theorem yq_kc382 {N d d1 d2 : Nat} {xs : Nat → Int32} {i v : Int32} {μ μ1 μ2 : z_M} {E : Option Value → z_Sh → z_M → Prop} (h1 : vp_in (i + 1) N) (c1 : z_CT zm_X8_odds d1 [.ref 0, .int (xs (i + 1).toNatClampNeg)] SH μ 0 0 (z_ret (some (.int v)) μ1)) (c2 : z_CT zm_X9_odds d2 [.ref 54, .int (xs (i + 1).toNatClampNeg)] SH μ1 0 0 (z_ret (some (.int v)) μ2)) (e1 : d1 + 1 ≤ d) (e2 : d2 + 1 ≤ d) (h : PS (yq_G N xs) yq_law d 1364 [(3, .int i), (2, .ref 54), (1, .ref 0), (0, .ref 1003)] [] SH μ2 0 0 E) : PS (yq_G N xs) yq_law d 382 [(3, .int i), (2, .ref 54), (1, .ref 0), (0, .ref 1003)] [] SH μ 0 0 E := by
  refine ys_p_aload_n (z_dec yq_ld2 44 rfl) rfl 2 rfl (n := 383) rfl ?_
  refine ys_p_aload_n (z_dec yq_ld2 45 rfl) rfl 3 rfl (n := 384) rfl ?_
  refine ys_p_iload_n (z_dec yq_ld2 46 rfl) rfl 0 rfl (n := 385) rfl ?_
  refine ys_p_iconst (z_dec yq_ld2 47 rfl) (v := 1) rfl (n := 386) rfl ?_
  refine ys_p_iadd (z_dec yq_ld2 48 rfl) (n := 387) rfl ?_
  refine ys_sld (z_dec yq_ld2 49 rfl) h1 (n := 388) rfl ?_
  refine ys_q_callV (As := [.int (xs (i + 1).toNatClampNeg)]) (rest := []) (z_dec yq_ld2 50 rfl) zk_L_41 zv_X8_odds c1 rfl ⟨_, _, rfl⟩ rfl rfl (Nat.le_of_ble_eq_true rfl) e1 (n := 391) rfl ?_
  refine ys_p_aload_n (z_dec yq_ld2 51 rfl) rfl 1 rfl (n := 392) rfl ?_
  refine ys_p_aload_n (z_dec yq_ld2 52 rfl) rfl 3 rfl (n := 393) rfl ?_
  refine ys_p_iload_n (z_dec yq_ld2 53 rfl) rfl 0 rfl (n := 394) rfl ?_
  refine ys_p_iconst (z_dec yq_ld2 54 rfl) (v := 1) rfl (n := 395) rfl ?_
  refine ys_p_iadd (z_dec yq_ld2 55 rfl) (n := 396) rfl ?_
  refine ys_sld (z_dec yq_ld2 56 rfl) h1 (n := 397) rfl ?_
  refine ys_q_callV (As := [.int (xs (i + 1).toNatClampNeg)]) (rest := [.int v]) (z_dec yq_ld2 57 rfl) zk_L_44 zv_X9_odds c2 rfl ⟨_, _, rfl⟩ rfl rfl (Nat.le_of_ble_eq_true rfl) e2 (n := 400) rfl ?_
  exact ys_p_icmp_eq (z_dec yq_ld2 58 rfl) (t := 1364) rfl (n := 403) rfl (fun _ => h) (fun q => absurd rfl q)
theorem yq_kc405 {N d d1 d2 : Nat} {xs : Nat → Int32} {i v : Int32} {μ μ1 μ2 : z_M} {E : Option Value → z_Sh → z_M → Prop}  (c1 : z_CT zm_X8_judges d1 [.ref 0] SH μ 0 0 (z_ret (some (.int v)) μ1)) (c2 : z_CT zm_X9_judges d2 [.ref 54] SH μ1 0 0 (z_ret (some (.int v)) μ2)) (e1 : d1 + 1 ≤ d) (e2 : d2 + 1 ≤ d) (h : PS (yq_G N xs) yq_law d 1364 [(3, .int i), (2, .ref 54), (1, .ref 0), (0, .ref 1003)] [] SH μ2 0 0 E) : PS (yq_G N xs) yq_law d 405 [(3, .int i), (2, .ref 54), (1, .ref 0), (0, .ref 1003)] [] SH μ 0 0 E := by
  refine ys_p_aload_n (z_dec yq_ld3 1 rfl) rfl 2 rfl (n := 406) rfl ?_
  refine ys_q_callV (As := []) (rest := []) (z_dec yq_ld3 2 rfl) zk_L_45 zv_X8_judges c1 rfl ⟨_, _, rfl⟩ rfl rfl (Nat.le_of_ble_eq_true rfl) e1 (n := 409) rfl ?_
  refine ys_p_aload_n (z_dec yq_ld3 3 rfl) rfl 1 rfl (n := 410) rfl ?_
  refine ys_q_callV (As := []) (rest := [.int v]) (z_dec yq_ld3 4 rfl) zk_L_48 zv_X9_judges c2 rfl ⟨_, _, rfl⟩ rfl rfl (Nat.le_of_ble_eq_true rfl) e2 (n := 413) rfl ?_
  exact ys_p_icmp_eq (z_dec yq_ld3 5 rfl) (t := 1364) rfl (n := 416) rfl (fun _ => h) (fun q => absurd rfl q)
theorem yq_kc418 {N d d1 d2 : Nat} {xs : Nat → Int32} {i v : Int32} {μ μ1 μ2 : z_M} {E : Option Value → z_Sh → z_M → Prop} (h1 : vp_in (i + 1) N) (c1 : z_CT zm_X8_bestJudge d1 [.ref 0, .int (xs (i + 1).toNatClampNeg)] SH μ 0 0 (z_ret (some (.int v)) μ1)) (c2 : z_CT zm_X9_bestJudge d2 [.ref 54, .int (xs (i + 1).toNatClampNeg)] SH μ1 0 0 (z_ret (some (.int v)) μ2)) (e1 : d1 + 1 ≤ d) (e2 : d2 + 1 ≤ d) (h : PS (yq_G N xs) yq_law d 1364 [(3, .int i), (2, .ref 54), (1, .ref 0), (0, .ref 1003)] [] SH μ2 0 0 E) : PS (yq_G N xs) yq_law d 418 [(3, .int i), (2, .ref 54), (1, .ref 0), (0, .ref 1003)] [] SH μ 0 0 E := by
  refine ys_p_aload_n (z_dec yq_ld3 8 rfl) rfl 2 rfl (n := 419) rfl ?_
  refine ys_p_aload_n (z_dec yq_ld3 9 rfl) rfl 3 rfl (n := 420) rfl ?_
  refine ys_p_iload_n (z_dec yq_ld3 10 rfl) rfl 0 rfl (n := 421) rfl ?_
  refine ys_p_iconst (z_dec yq_ld3 11 rfl) (v := 1) rfl (n := 422) rfl ?_
  refine ys_p_iadd (z_dec yq_ld3 12 rfl) (n := 423) rfl ?_
  refine ys_sld (z_dec yq_ld3 13 rfl) h1 (n := 424) rfl ?_
  refine ys_q_callV (As := [.int (xs (i + 1).toNatClampNeg)]) (rest := []) (z_dec yq_ld3 14 rfl) zk_L_49 zv_X8_bestJudge c1 rfl ⟨_, _, rfl⟩ rfl rfl (Nat.le_of_ble_eq_true rfl) e1 (n := 427) rfl ?_
  refine ys_p_aload_n (z_dec yq_ld3 15 rfl) rfl 1 rfl (n := 428) rfl ?_
  refine ys_p_aload_n (z_dec yq_ld3 16 rfl) rfl 3 rfl (n := 429) rfl ?_
  refine ys_p_iload_n (z_dec yq_ld3 17 rfl) rfl 0 rfl (n := 430) rfl ?_
  refine ys_p_iconst (z_dec yq_ld3 18 rfl) (v := 1) rfl (n := 431) rfl ?_
  refine ys_p_iadd (z_dec yq_ld3 19 rfl) (n := 432) rfl ?_
  refine ys_sld (z_dec yq_ld3 20 rfl) h1 (n := 433) rfl ?_
  refine ys_q_callV (As := [.int (xs (i + 1).toNatClampNeg)]) (rest := [.int v]) (z_dec yq_ld3 21 rfl) zk_L_52 zv_X9_bestJudge c2 rfl ⟨_, _, rfl⟩ rfl rfl (Nat.le_of_ble_eq_true rfl) e2 (n := 436) rfl ?_
  exact ys_p_icmp_eq (z_dec yq_ld3 22 rfl) (t := 1364) rfl (n := 439) rfl (fun _ => h) (fun q => absurd rfl q)
theorem yq_kc441 {N d d1 d2 : Nat} {xs : Nat → Int32} {i v : Int32} {μ μ1 μ2 : z_M} {E : Option Value → z_Sh → z_M → Prop} (h1 : vp_in (i + 1) N) (c1 : z_CT zm_X8_held d1 [.ref 0, .int (xs (i + 1).toNatClampNeg)] SH μ 0 0 (z_ret (some (.int v)) μ1)) (c2 : z_CT zm_X9_held d2 [.ref 54, .int (xs (i + 1).toNatClampNeg)] SH μ1 0 0 (z_ret (some (.int v)) μ2)) (e1 : d1 + 1 ≤ d) (e2 : d2 + 1 ≤ d) (h : PS (yq_G N xs) yq_law d 1364 [(3, .int i), (2, .ref 54), (1, .ref 0), (0, .ref 1003)] [] SH μ2 0 0 E) : PS (yq_G N xs) yq_law d 441 [(3, .int i), (2, .ref 54), (1, .ref 0), (0, .ref 1003)] [] SH μ 0 0 E := by
  refine ys_p_aload_n (z_dec yq_ld3 25 rfl) rfl 2 rfl (n := 442) rfl ?_
  refine ys_p_aload_n (z_dec yq_ld3 26 rfl) rfl 3 rfl (n := 443) rfl ?_
  refine ys_p_iload_n (z_dec yq_ld3 27 rfl) rfl 0 rfl (n := 444) rfl ?_
  refine ys_p_iconst (z_dec yq_ld3 28 rfl) (v := 1) rfl (n := 445) rfl ?_
  refine ys_p_iadd (z_dec yq_ld3 29 rfl) (n := 446) rfl ?_
  refine ys_sld (z_dec yq_ld3 30 rfl) h1 (n := 447) rfl ?_
  refine ys_q_callV (As := [.int (xs (i + 1).toNatClampNeg)]) (rest := []) (z_dec yq_ld3 31 rfl) zk_L_53 zv_X8_held c1 rfl ⟨_, _, rfl⟩ rfl rfl (Nat.le_of_ble_eq_true rfl) e1 (n := 450) rfl ?_
  refine ys_p_aload_n (z_dec yq_ld3 32 rfl) rfl 1 rfl (n := 451) rfl ?_
  refine ys_p_aload_n (z_dec yq_ld3 33 rfl) rfl 3 rfl (n := 452) rfl ?_
  refine ys_p_iload_n (z_dec yq_ld3 34 rfl) rfl 0 rfl (n := 453) rfl ?_
  refine ys_p_iconst (z_dec yq_ld3 35 rfl) (v := 1) rfl (n := 454) rfl ?_
  refine ys_p_iadd (z_dec yq_ld3 36 rfl) (n := 455) rfl ?_
  refine ys_sld (z_dec yq_ld3 37 rfl) h1 (n := 456) rfl ?_
  refine ys_q_callV (As := [.int (xs (i + 1).toNatClampNeg)]) (rest := [.int v]) (z_dec yq_ld3 38 rfl) zk_L_56 zv_X9_held c2 rfl ⟨_, _, rfl⟩ rfl rfl (Nat.le_of_ble_eq_true rfl) e2 (n := 459) rfl ?_
  exact ys_p_icmp_eq (z_dec yq_ld3 39 rfl) (t := 1364) rfl (n := 462) rfl (fun _ => h) (fun q => absurd rfl q)
theorem yq_kc464 {N d d1 d2 : Nat} {xs : Nat → Int32} {i v : Int32} {μ μ1 μ2 : z_M} {E : Option Value → z_Sh → z_M → Prop} (h1 : vp_in (i + 1) N) (c1 : z_CT zm_X8_loses d1 [.ref 0, .int (xs (i + 1).toNatClampNeg)] SH μ 0 0 (z_ret (some (.int v)) μ1)) (c2 : z_CT zm_X9_loses d2 [.ref 54, .int (xs (i + 1).toNatClampNeg)] SH μ1 0 0 (z_ret (some (.int v)) μ2)) (e1 : d1 + 1 ≤ d) (e2 : d2 + 1 ≤ d) (h : PS (yq_G N xs) yq_law d 1364 [(3, .int i), (2, .ref 54), (1, .ref 0), (0, .ref 1003)] [] SH μ2 0 0 E) : PS (yq_G N xs) yq_law d 464 [(3, .int i), (2, .ref 54), (1, .ref 0), (0, .ref 1003)] [] SH μ 0 0 E := by
  refine ys_p_aload_n (z_dec yq_ld3 42 rfl) rfl 2 rfl (n := 465) rfl ?_
  refine ys_p_aload_n (z_dec yq_ld3 43 rfl) rfl 3 rfl (n := 466) rfl ?_
  refine ys_p_iload_n (z_dec yq_ld3 44 rfl) rfl 0 rfl (n := 467) rfl ?_
  refine ys_p_iconst (z_dec yq_ld3 45 rfl) (v := 1) rfl (n := 468) rfl ?_
  refine ys_p_iadd (z_dec yq_ld3 46 rfl) (n := 469) rfl ?_
  refine ys_sld (z_dec yq_ld3 47 rfl) h1 (n := 470) rfl ?_
  refine ys_q_callV (As := [.int (xs (i + 1).toNatClampNeg)]) (rest := []) (z_dec yq_ld3 48 rfl) zk_L_57 zv_X8_loses c1 rfl ⟨_, _, rfl⟩ rfl rfl (Nat.le_of_ble_eq_true rfl) e1 (n := 473) rfl ?_
  refine ys_p_aload_n (z_dec yq_ld3 49 rfl) rfl 1 rfl (n := 474) rfl ?_
  refine ys_p_aload_n (z_dec yq_ld3 50 rfl) rfl 3 rfl (n := 475) rfl ?_
  refine ys_p_iload_n (z_dec yq_ld3 51 rfl) rfl 0 rfl (n := 476) rfl ?_
  refine ys_p_iconst (z_dec yq_ld3 52 rfl) (v := 1) rfl (n := 477) rfl ?_
  refine ys_p_iadd (z_dec yq_ld3 53 rfl) (n := 478) rfl ?_
  refine ys_sld (z_dec yq_ld3 54 rfl) h1 (n := 479) rfl ?_
  refine ys_q_callV (As := [.int (xs (i + 1).toNatClampNeg)]) (rest := [.int v]) (z_dec yq_ld3 55 rfl) zk_L_60 zv_X9_loses c2 rfl ⟨_, _, rfl⟩ rfl rfl (Nat.le_of_ble_eq_true rfl) e2 (n := 482) rfl ?_
  exact ys_p_icmp_eq (z_dec yq_ld3 56 rfl) (t := 1364) rfl (n := 485) rfl (fun _ => h) (fun q => absurd rfl q)
theorem yq_kc487 {N d d1 d2 : Nat} {xs : Nat → Int32} {i v : Int32} {μ μ1 μ2 : z_M} {E : Option Value → z_Sh → z_M → Prop} (h1 : vp_in (i + 1) N) (h2 : vp_in (i + 2) N) (h3 : vp_in (i + 3) N) (h4 : vp_in (i + 4) N) (c1 : z_CT zm_X8_behind d1 [.ref 0, .int (xs (i + 1).toNatClampNeg), .int (xs (i + 2).toNatClampNeg), .int (xs (i + 3).toNatClampNeg), .int (xs (i + 4).toNatClampNeg)] SH μ 0 0 (z_ret (some (.int v)) μ1)) (c2 : z_CT zm_X9_behind d2 [.ref 54, .int (xs (i + 1).toNatClampNeg), .int (xs (i + 2).toNatClampNeg), .int (xs (i + 3).toNatClampNeg), .int (xs (i + 4).toNatClampNeg)] SH μ1 0 0 (z_ret (some (.int v)) μ2)) (e1 : d1 + 1 ≤ d) (e2 : d2 + 1 ≤ d) (h : PS (yq_G N xs) yq_law d 1364 [(3, .int i), (2, .ref 54), (1, .ref 0), (0, .ref 1003)] [] SH μ2 0 0 E) : PS (yq_G N xs) yq_law d 487 [(3, .int i), (2, .ref 54), (1, .ref 0), (0, .ref 1003)] [] SH μ 0 0 E := by
  refine ys_p_aload_n (z_dec yq_ld3 59 rfl) rfl 2 rfl (n := 488) rfl ?_
  refine ys_p_aload_n (z_dec yq_ld4 0 rfl) rfl 3 rfl (n := 489) rfl ?_
  refine ys_p_iload_n (z_dec yq_ld4 1 rfl) rfl 0 rfl (n := 490) rfl ?_
  refine ys_p_iconst (z_dec yq_ld4 2 rfl) (v := 1) rfl (n := 491) rfl ?_
  refine ys_p_iadd (z_dec yq_ld4 3 rfl) (n := 492) rfl ?_
  refine ys_sld (z_dec yq_ld4 4 rfl) h1 (n := 493) rfl ?_
  refine ys_p_aload_n (z_dec yq_ld4 5 rfl) rfl 3 rfl (n := 494) rfl ?_
  refine ys_p_iload_n (z_dec yq_ld4 6 rfl) rfl 0 rfl (n := 495) rfl ?_
  refine ys_p_iconst (z_dec yq_ld4 7 rfl) (v := 2) rfl (n := 496) rfl ?_
  refine ys_p_iadd (z_dec yq_ld4 8 rfl) (n := 497) rfl ?_
  refine ys_sld (z_dec yq_ld4 9 rfl) h2 (n := 498) rfl ?_
  refine ys_p_aload_n (z_dec yq_ld4 10 rfl) rfl 3 rfl (n := 499) rfl ?_
  refine ys_p_iload_n (z_dec yq_ld4 11 rfl) rfl 0 rfl (n := 500) rfl ?_
  refine ys_p_iconst (z_dec yq_ld4 12 rfl) (v := 3) rfl (n := 501) rfl ?_
  refine ys_p_iadd (z_dec yq_ld4 13 rfl) (n := 502) rfl ?_
  refine ys_sld (z_dec yq_ld4 14 rfl) h3 (n := 503) rfl ?_
  refine ys_p_aload_n (z_dec yq_ld4 15 rfl) rfl 3 rfl (n := 504) rfl ?_
  refine ys_p_iload_n (z_dec yq_ld4 16 rfl) rfl 0 rfl (n := 505) rfl ?_
  refine ys_p_iconst (z_dec yq_ld4 17 rfl) (v := 4) rfl (n := 506) rfl ?_
  refine ys_p_iadd (z_dec yq_ld4 18 rfl) (n := 507) rfl ?_
  refine ys_sld (z_dec yq_ld4 19 rfl) h4 (n := 508) rfl ?_
  refine ys_q_callV (As := [.int (xs (i + 1).toNatClampNeg), .int (xs (i + 2).toNatClampNeg), .int (xs (i + 3).toNatClampNeg), .int (xs (i + 4).toNatClampNeg)]) (rest := []) (z_dec yq_ld4 20 rfl) zk_L_61 zv_X8_behind c1 rfl ⟨_, _, rfl⟩ rfl rfl (Nat.le_of_ble_eq_true rfl) e1 (n := 511) rfl ?_
  refine ys_p_aload_n (z_dec yq_ld4 21 rfl) rfl 1 rfl (n := 512) rfl ?_
  refine ys_p_aload_n (z_dec yq_ld4 22 rfl) rfl 3 rfl (n := 513) rfl ?_
  refine ys_p_iload_n (z_dec yq_ld4 23 rfl) rfl 0 rfl (n := 514) rfl ?_
  refine ys_p_iconst (z_dec yq_ld4 24 rfl) (v := 1) rfl (n := 515) rfl ?_
  refine ys_p_iadd (z_dec yq_ld4 25 rfl) (n := 516) rfl ?_
  refine ys_sld (z_dec yq_ld4 26 rfl) h1 (n := 517) rfl ?_
  refine ys_p_aload_n (z_dec yq_ld4 27 rfl) rfl 3 rfl (n := 518) rfl ?_
  refine ys_p_iload_n (z_dec yq_ld4 28 rfl) rfl 0 rfl (n := 519) rfl ?_
  refine ys_p_iconst (z_dec yq_ld4 29 rfl) (v := 2) rfl (n := 520) rfl ?_
  refine ys_p_iadd (z_dec yq_ld4 30 rfl) (n := 521) rfl ?_
  refine ys_sld (z_dec yq_ld4 31 rfl) h2 (n := 522) rfl ?_
  refine ys_p_aload_n (z_dec yq_ld4 32 rfl) rfl 3 rfl (n := 523) rfl ?_
  refine ys_p_iload_n (z_dec yq_ld4 33 rfl) rfl 0 rfl (n := 524) rfl ?_
  refine ys_p_iconst (z_dec yq_ld4 34 rfl) (v := 3) rfl (n := 525) rfl ?_
  refine ys_p_iadd (z_dec yq_ld4 35 rfl) (n := 526) rfl ?_
  refine ys_sld (z_dec yq_ld4 36 rfl) h3 (n := 527) rfl ?_
  refine ys_p_aload_n (z_dec yq_ld4 37 rfl) rfl 3 rfl (n := 528) rfl ?_
  refine ys_p_iload_n (z_dec yq_ld4 38 rfl) rfl 0 rfl (n := 529) rfl ?_
  refine ys_p_iconst (z_dec yq_ld4 39 rfl) (v := 4) rfl (n := 530) rfl ?_
  refine ys_p_iadd (z_dec yq_ld4 40 rfl) (n := 531) rfl ?_
  refine ys_sld (z_dec yq_ld4 41 rfl) h4 (n := 532) rfl ?_
  refine ys_q_callV (As := [.int (xs (i + 1).toNatClampNeg), .int (xs (i + 2).toNatClampNeg), .int (xs (i + 3).toNatClampNeg), .int (xs (i + 4).toNatClampNeg)]) (rest := [.int v]) (z_dec yq_ld4 42 rfl) zk_L_65 zv_X9_behind c2 rfl ⟨_, _, rfl⟩ rfl rfl (Nat.le_of_ble_eq_true rfl) e2 (n := 535) rfl ?_
  exact ys_p_icmp_eq (z_dec yq_ld4 43 rfl) (t := 1364) rfl (n := 538) rfl (fun _ => h) (fun q => absurd rfl q)
theorem yq_kc540 {N d d1 d2 : Nat} {xs : Nat → Int32} {i v : Int32} {μ μ1 μ2 : z_M} {E : Option Value → z_Sh → z_M → Prop} (h1 : vp_in (i + 1) N) (c1 : z_CT zm_X8_atOnce d1 [.ref 0, .int (xs (i + 1).toNatClampNeg)] SH μ 0 0 (z_ret (some (.int v)) μ1)) (c2 : z_CT zm_X9_atOnce d2 [.ref 54, .int (xs (i + 1).toNatClampNeg)] SH μ1 0 0 (z_ret (some (.int v)) μ2)) (e1 : d1 + 1 ≤ d) (e2 : d2 + 1 ≤ d) (h : PS (yq_G N xs) yq_law d 1364 [(3, .int i), (2, .ref 54), (1, .ref 0), (0, .ref 1003)] [] SH μ2 0 0 E) : PS (yq_G N xs) yq_law d 540 [(3, .int i), (2, .ref 54), (1, .ref 0), (0, .ref 1003)] [] SH μ 0 0 E := by
  refine ys_p_aload_n (z_dec yq_ld4 46 rfl) rfl 2 rfl (n := 541) rfl ?_
  refine ys_p_aload_n (z_dec yq_ld4 47 rfl) rfl 3 rfl (n := 542) rfl ?_
  refine ys_p_iload_n (z_dec yq_ld4 48 rfl) rfl 0 rfl (n := 543) rfl ?_
  refine ys_p_iconst (z_dec yq_ld4 49 rfl) (v := 1) rfl (n := 544) rfl ?_
  refine ys_p_iadd (z_dec yq_ld4 50 rfl) (n := 545) rfl ?_
  refine ys_sld (z_dec yq_ld4 51 rfl) h1 (n := 546) rfl ?_
  refine ys_q_callV (As := [.int (xs (i + 1).toNatClampNeg)]) (rest := []) (z_dec yq_ld4 52 rfl) zk_L_66 zv_X8_atOnce c1 rfl ⟨_, _, rfl⟩ rfl rfl (Nat.le_of_ble_eq_true rfl) e1 (n := 549) rfl ?_
  refine ys_p_aload_n (z_dec yq_ld4 53 rfl) rfl 1 rfl (n := 550) rfl ?_
  refine ys_p_aload_n (z_dec yq_ld4 54 rfl) rfl 3 rfl (n := 551) rfl ?_
  refine ys_p_iload_n (z_dec yq_ld4 55 rfl) rfl 0 rfl (n := 552) rfl ?_
  refine ys_p_iconst (z_dec yq_ld4 56 rfl) (v := 1) rfl (n := 553) rfl ?_
  refine ys_p_iadd (z_dec yq_ld4 57 rfl) (n := 554) rfl ?_
  refine ys_sld (z_dec yq_ld4 58 rfl) h1 (n := 555) rfl ?_
  refine ys_q_callV (As := [.int (xs (i + 1).toNatClampNeg)]) (rest := [.int v]) (z_dec yq_ld4 59 rfl) zk_L_69 zv_X9_atOnce c2 rfl ⟨_, _, rfl⟩ rfl rfl (Nat.le_of_ble_eq_true rfl) e2 (n := 558) rfl ?_
  exact ys_p_icmp_eq (z_dec yq_ld5 0 rfl) (t := 1364) rfl (n := 561) rfl (fun _ => h) (fun q => absurd rfl q)
theorem yq_kc563 {N d d1 d2 : Nat} {xs : Nat → Int32} {i v : Int32} {μ μ1 μ2 : z_M} {E : Option Value → z_Sh → z_M → Prop} (h1 : vp_in (i + 1) N) (c1 : z_CT zm_X8_tomorrow d1 [.ref 0, .int (xs (i + 1).toNatClampNeg)] SH μ 0 0 (z_ret (some (.int v)) μ1)) (c2 : z_CT zm_X9_tomorrow d2 [.ref 54, .int (xs (i + 1).toNatClampNeg)] SH μ1 0 0 (z_ret (some (.int v)) μ2)) (e1 : d1 + 1 ≤ d) (e2 : d2 + 1 ≤ d) (h : PS (yq_G N xs) yq_law d 1364 [(3, .int i), (2, .ref 54), (1, .ref 0), (0, .ref 1003)] [] SH μ2 0 0 E) : PS (yq_G N xs) yq_law d 563 [(3, .int i), (2, .ref 54), (1, .ref 0), (0, .ref 1003)] [] SH μ 0 0 E := by
  refine ys_p_aload_n (z_dec yq_ld5 3 rfl) rfl 2 rfl (n := 564) rfl ?_
  refine ys_p_aload_n (z_dec yq_ld5 4 rfl) rfl 3 rfl (n := 565) rfl ?_
  refine ys_p_iload_n (z_dec yq_ld5 5 rfl) rfl 0 rfl (n := 566) rfl ?_
  refine ys_p_iconst (z_dec yq_ld5 6 rfl) (v := 1) rfl (n := 567) rfl ?_
  refine ys_p_iadd (z_dec yq_ld5 7 rfl) (n := 568) rfl ?_
  refine ys_sld (z_dec yq_ld5 8 rfl) h1 (n := 569) rfl ?_
  refine ys_q_callV (As := [.int (xs (i + 1).toNatClampNeg)]) (rest := []) (z_dec yq_ld5 9 rfl) zk_L_70 zv_X8_tomorrow c1 rfl ⟨_, _, rfl⟩ rfl rfl (Nat.le_of_ble_eq_true rfl) e1 (n := 572) rfl ?_
  refine ys_p_aload_n (z_dec yq_ld5 10 rfl) rfl 1 rfl (n := 573) rfl ?_
  refine ys_p_aload_n (z_dec yq_ld5 11 rfl) rfl 3 rfl (n := 574) rfl ?_
  refine ys_p_iload_n (z_dec yq_ld5 12 rfl) rfl 0 rfl (n := 575) rfl ?_
  refine ys_p_iconst (z_dec yq_ld5 13 rfl) (v := 1) rfl (n := 576) rfl ?_
  refine ys_p_iadd (z_dec yq_ld5 14 rfl) (n := 577) rfl ?_
  refine ys_sld (z_dec yq_ld5 15 rfl) h1 (n := 578) rfl ?_
  refine ys_q_callV (As := [.int (xs (i + 1).toNatClampNeg)]) (rest := [.int v]) (z_dec yq_ld5 16 rfl) zk_L_73 zv_X9_tomorrow c2 rfl ⟨_, _, rfl⟩ rfl rfl (Nat.le_of_ble_eq_true rfl) e2 (n := 581) rfl ?_
  exact ys_p_icmp_eq (z_dec yq_ld5 17 rfl) (t := 1364) rfl (n := 584) rfl (fun _ => h) (fun q => absurd rfl q)
theorem yq_kc586 {N d d1 d2 : Nat} {xs : Nat → Int32} {i v : Int32} {μ μ1 μ2 : z_M} {E : Option Value → z_Sh → z_M → Prop} (h1 : vp_in (i + 1) N) (h2 : vp_in (i + 2) N) (c1 : z_CT zm_X8_order d1 [.ref 0, .int (xs (i + 1).toNatClampNeg), .int (xs (i + 2).toNatClampNeg)] SH μ 0 0 (z_ret (some (.int v)) μ1)) (c2 : z_CT zm_X9_order d2 [.ref 54, .int (xs (i + 1).toNatClampNeg), .int (xs (i + 2).toNatClampNeg)] SH μ1 0 0 (z_ret (some (.int v)) μ2)) (e1 : d1 + 1 ≤ d) (e2 : d2 + 1 ≤ d) (h : PS (yq_G N xs) yq_law d 1364 [(3, .int i), (2, .ref 54), (1, .ref 0), (0, .ref 1003)] [] SH μ2 0 0 E) : PS (yq_G N xs) yq_law d 586 [(3, .int i), (2, .ref 54), (1, .ref 0), (0, .ref 1003)] [] SH μ 0 0 E := by
  refine ys_p_aload_n (z_dec yq_ld5 20 rfl) rfl 2 rfl (n := 587) rfl ?_
  refine ys_p_aload_n (z_dec yq_ld5 21 rfl) rfl 3 rfl (n := 588) rfl ?_
  refine ys_p_iload_n (z_dec yq_ld5 22 rfl) rfl 0 rfl (n := 589) rfl ?_
  refine ys_p_iconst (z_dec yq_ld5 23 rfl) (v := 1) rfl (n := 590) rfl ?_
  refine ys_p_iadd (z_dec yq_ld5 24 rfl) (n := 591) rfl ?_
  refine ys_sld (z_dec yq_ld5 25 rfl) h1 (n := 592) rfl ?_
  refine ys_p_aload_n (z_dec yq_ld5 26 rfl) rfl 3 rfl (n := 593) rfl ?_
  refine ys_p_iload_n (z_dec yq_ld5 27 rfl) rfl 0 rfl (n := 594) rfl ?_
  refine ys_p_iconst (z_dec yq_ld5 28 rfl) (v := 2) rfl (n := 595) rfl ?_
  refine ys_p_iadd (z_dec yq_ld5 29 rfl) (n := 596) rfl ?_
  refine ys_sld (z_dec yq_ld5 30 rfl) h2 (n := 597) rfl ?_
  refine ys_q_callV (As := [.int (xs (i + 1).toNatClampNeg), .int (xs (i + 2).toNatClampNeg)]) (rest := []) (z_dec yq_ld5 31 rfl) zk_L_74 zv_X8_order c1 rfl ⟨_, _, rfl⟩ rfl rfl (Nat.le_of_ble_eq_true rfl) e1 (n := 600) rfl ?_
  refine ys_p_aload_n (z_dec yq_ld5 32 rfl) rfl 1 rfl (n := 601) rfl ?_
  refine ys_p_aload_n (z_dec yq_ld5 33 rfl) rfl 3 rfl (n := 602) rfl ?_
  refine ys_p_iload_n (z_dec yq_ld5 34 rfl) rfl 0 rfl (n := 603) rfl ?_
  refine ys_p_iconst (z_dec yq_ld5 35 rfl) (v := 1) rfl (n := 604) rfl ?_
  refine ys_p_iadd (z_dec yq_ld5 36 rfl) (n := 605) rfl ?_
  refine ys_sld (z_dec yq_ld5 37 rfl) h1 (n := 606) rfl ?_
  refine ys_p_aload_n (z_dec yq_ld5 38 rfl) rfl 3 rfl (n := 607) rfl ?_
  refine ys_p_iload_n (z_dec yq_ld5 39 rfl) rfl 0 rfl (n := 608) rfl ?_
  refine ys_p_iconst (z_dec yq_ld5 40 rfl) (v := 2) rfl (n := 609) rfl ?_
  refine ys_p_iadd (z_dec yq_ld5 41 rfl) (n := 610) rfl ?_
  refine ys_sld (z_dec yq_ld5 42 rfl) h2 (n := 611) rfl ?_
  refine ys_q_callV (As := [.int (xs (i + 1).toNatClampNeg), .int (xs (i + 2).toNatClampNeg)]) (rest := [.int v]) (z_dec yq_ld5 43 rfl) zk_L_77 zv_X9_order c2 rfl ⟨_, _, rfl⟩ rfl rfl (Nat.le_of_ble_eq_true rfl) e2 (n := 614) rfl ?_
  exact ys_p_icmp_eq (z_dec yq_ld5 44 rfl) (t := 1364) rfl (n := 617) rfl (fun _ => h) (fun q => absurd rfl q)
theorem yq_kc619 {N d d1 d2 : Nat} {xs : Nat → Int32} {i v : Int32} {μ μ1 μ2 : z_M} {E : Option Value → z_Sh → z_M → Prop} (h1 : vp_in (i + 1) N) (c1 : z_CT zm_X8_ring d1 [.ref 0, .int (xs (i + 1).toNatClampNeg)] SH μ 0 0 (z_ret (some (.int v)) μ1)) (c2 : z_CT zm_X9_ring d2 [.ref 54, .int (xs (i + 1).toNatClampNeg)] SH μ1 0 0 (z_ret (some (.int v)) μ2)) (e1 : d1 + 1 ≤ d) (e2 : d2 + 1 ≤ d) (h : PS (yq_G N xs) yq_law d 1364 [(3, .int i), (2, .ref 54), (1, .ref 0), (0, .ref 1003)] [] SH μ2 0 0 E) : PS (yq_G N xs) yq_law d 619 [(3, .int i), (2, .ref 54), (1, .ref 0), (0, .ref 1003)] [] SH μ 0 0 E := by
  refine ys_p_aload_n (z_dec yq_ld5 47 rfl) rfl 2 rfl (n := 620) rfl ?_
  refine ys_p_aload_n (z_dec yq_ld5 48 rfl) rfl 3 rfl (n := 621) rfl ?_
  refine ys_p_iload_n (z_dec yq_ld5 49 rfl) rfl 0 rfl (n := 622) rfl ?_
  refine ys_p_iconst (z_dec yq_ld5 50 rfl) (v := 1) rfl (n := 623) rfl ?_
  refine ys_p_iadd (z_dec yq_ld5 51 rfl) (n := 624) rfl ?_
  refine ys_sld (z_dec yq_ld5 52 rfl) h1 (n := 625) rfl ?_
  refine ys_q_callV (As := [.int (xs (i + 1).toNatClampNeg)]) (rest := []) (z_dec yq_ld5 53 rfl) zk_L_78 zv_X8_ring c1 rfl ⟨_, _, rfl⟩ rfl rfl (Nat.le_of_ble_eq_true rfl) e1 (n := 628) rfl ?_
  refine ys_p_aload_n (z_dec yq_ld5 54 rfl) rfl 1 rfl (n := 629) rfl ?_
  refine ys_p_aload_n (z_dec yq_ld5 55 rfl) rfl 3 rfl (n := 630) rfl ?_
  refine ys_p_iload_n (z_dec yq_ld5 56 rfl) rfl 0 rfl (n := 631) rfl ?_
  refine ys_p_iconst (z_dec yq_ld5 57 rfl) (v := 1) rfl (n := 632) rfl ?_
  refine ys_p_iadd (z_dec yq_ld5 58 rfl) (n := 633) rfl ?_
  refine ys_sld (z_dec yq_ld5 59 rfl) h1 (n := 634) rfl ?_
  refine ys_q_callV (As := [.int (xs (i + 1).toNatClampNeg)]) (rest := [.int v]) (z_dec yq_ld6 0 rfl) zk_L_81 zv_X9_ring c2 rfl ⟨_, _, rfl⟩ rfl rfl (Nat.le_of_ble_eq_true rfl) e2 (n := 637) rfl ?_
  exact ys_p_icmp_eq (z_dec yq_ld6 1 rfl) (t := 1364) rfl (n := 640) rfl (fun _ => h) (fun q => absurd rfl q)
theorem yq_kc686 {N d d1 d2 : Nat} {xs : Nat → Int32} {i v : Int32} {μ μ1 μ2 : z_M} {E : Option Value → z_Sh → z_M → Prop}  (c1 : z_CT zm_X8_three d1 [.ref 0] SH μ 0 0 (z_ret (some (.int v)) μ1)) (c2 : z_CT zm_X9_three d2 [.ref 54] SH μ1 0 0 (z_ret (some (.int v)) μ2)) (e1 : d1 + 1 ≤ d) (e2 : d2 + 1 ≤ d) (h : PS (yq_G N xs) yq_law d 1364 [(3, .int i), (2, .ref 54), (1, .ref 0), (0, .ref 1003)] [] SH μ2 0 0 E) : PS (yq_G N xs) yq_law d 686 [(3, .int i), (2, .ref 54), (1, .ref 0), (0, .ref 1003)] [] SH μ 0 0 E := by
  refine ys_p_aload_n (z_dec yq_ld6 42 rfl) rfl 2 rfl (n := 687) rfl ?_
  refine ys_q_callV (As := []) (rest := []) (z_dec yq_ld6 43 rfl) zk_L_87 zv_X8_three c1 rfl ⟨_, _, rfl⟩ rfl rfl (Nat.le_of_ble_eq_true rfl) e1 (n := 690) rfl ?_
  refine ys_p_aload_n (z_dec yq_ld6 44 rfl) rfl 1 rfl (n := 691) rfl ?_
  refine ys_q_callV (As := []) (rest := [.int v]) (z_dec yq_ld6 45 rfl) zk_L_90 zv_X9_three c2 rfl ⟨_, _, rfl⟩ rfl rfl (Nat.le_of_ble_eq_true rfl) e2 (n := 694) rfl ?_
  exact ys_p_icmp_eq (z_dec yq_ld6 46 rfl) (t := 1364) rfl (n := 697) rfl (fun _ => h) (fun q => absurd rfl q)
theorem yq_kc743 {N d d1 d2 : Nat} {xs : Nat → Int32} {i v : Int32} {μ μ1 μ2 : z_M} {E : Option Value → z_Sh → z_M → Prop} (h1 : vp_in (i + 1) N) (h2 : vp_in (i + 2) N) (h3 : vp_in (i + 3) N) (c1 : z_CT zm_X8_byTurns d1 [.ref 0, .int (xs (i + 1).toNatClampNeg), .int (xs (i + 2).toNatClampNeg), .int (xs (i + 3).toNatClampNeg)] SH μ 0 0 (z_ret (some (.int v)) μ1)) (c2 : z_CT zm_X9_byTurns d2 [.ref 54, .int (xs (i + 1).toNatClampNeg), .int (xs (i + 2).toNatClampNeg), .int (xs (i + 3).toNatClampNeg)] SH μ1 0 0 (z_ret (some (.int v)) μ2)) (e1 : d1 + 1 ≤ d) (e2 : d2 + 1 ≤ d) (h : PS (yq_G N xs) yq_law d 1364 [(3, .int i), (2, .ref 54), (1, .ref 0), (0, .ref 1003)] [] SH μ2 0 0 E) : PS (yq_G N xs) yq_law d 743 [(3, .int i), (2, .ref 54), (1, .ref 0), (0, .ref 1003)] [] SH μ 0 0 E := by
  refine ys_p_aload_n (z_dec yq_ld7 27 rfl) rfl 2 rfl (n := 744) rfl ?_
  refine ys_p_aload_n (z_dec yq_ld7 28 rfl) rfl 3 rfl (n := 745) rfl ?_
  refine ys_p_iload_n (z_dec yq_ld7 29 rfl) rfl 0 rfl (n := 746) rfl ?_
  refine ys_p_iconst (z_dec yq_ld7 30 rfl) (v := 1) rfl (n := 747) rfl ?_
  refine ys_p_iadd (z_dec yq_ld7 31 rfl) (n := 748) rfl ?_
  refine ys_sld (z_dec yq_ld7 32 rfl) h1 (n := 749) rfl ?_
  refine ys_p_aload_n (z_dec yq_ld7 33 rfl) rfl 3 rfl (n := 750) rfl ?_
  refine ys_p_iload_n (z_dec yq_ld7 34 rfl) rfl 0 rfl (n := 751) rfl ?_
  refine ys_p_iconst (z_dec yq_ld7 35 rfl) (v := 2) rfl (n := 752) rfl ?_
  refine ys_p_iadd (z_dec yq_ld7 36 rfl) (n := 753) rfl ?_
  refine ys_sld (z_dec yq_ld7 37 rfl) h2 (n := 754) rfl ?_
  refine ys_p_aload_n (z_dec yq_ld7 38 rfl) rfl 3 rfl (n := 755) rfl ?_
  refine ys_p_iload_n (z_dec yq_ld7 39 rfl) rfl 0 rfl (n := 756) rfl ?_
  refine ys_p_iconst (z_dec yq_ld7 40 rfl) (v := 3) rfl (n := 757) rfl ?_
  refine ys_p_iadd (z_dec yq_ld7 41 rfl) (n := 758) rfl ?_
  refine ys_sld (z_dec yq_ld7 42 rfl) h3 (n := 759) rfl ?_
  refine ys_q_callV (As := [.int (xs (i + 1).toNatClampNeg), .int (xs (i + 2).toNatClampNeg), .int (xs (i + 3).toNatClampNeg)]) (rest := []) (z_dec yq_ld7 43 rfl) zk_L_95 zv_X8_byTurns c1 rfl ⟨_, _, rfl⟩ rfl rfl (Nat.le_of_ble_eq_true rfl) e1 (n := 762) rfl ?_
  refine ys_p_aload_n (z_dec yq_ld7 44 rfl) rfl 1 rfl (n := 763) rfl ?_
  refine ys_p_aload_n (z_dec yq_ld7 45 rfl) rfl 3 rfl (n := 764) rfl ?_
  refine ys_p_iload_n (z_dec yq_ld7 46 rfl) rfl 0 rfl (n := 765) rfl ?_
  refine ys_p_iconst (z_dec yq_ld7 47 rfl) (v := 1) rfl (n := 766) rfl ?_
  refine ys_p_iadd (z_dec yq_ld7 48 rfl) (n := 767) rfl ?_
  refine ys_sld (z_dec yq_ld7 49 rfl) h1 (n := 768) rfl ?_
  refine ys_p_aload_n (z_dec yq_ld7 50 rfl) rfl 3 rfl (n := 769) rfl ?_
  refine ys_p_iload_n (z_dec yq_ld7 51 rfl) rfl 0 rfl (n := 770) rfl ?_
  refine ys_p_iconst (z_dec yq_ld7 52 rfl) (v := 2) rfl (n := 771) rfl ?_
  refine ys_p_iadd (z_dec yq_ld7 53 rfl) (n := 772) rfl ?_
  refine ys_sld (z_dec yq_ld7 54 rfl) h2 (n := 773) rfl ?_
  refine ys_p_aload_n (z_dec yq_ld7 55 rfl) rfl 3 rfl (n := 774) rfl ?_
  refine ys_p_iload_n (z_dec yq_ld7 56 rfl) rfl 0 rfl (n := 775) rfl ?_
  refine ys_p_iconst (z_dec yq_ld7 57 rfl) (v := 3) rfl (n := 776) rfl ?_
  refine ys_p_iadd (z_dec yq_ld7 58 rfl) (n := 777) rfl ?_
  refine ys_sld (z_dec yq_ld7 59 rfl) h3 (n := 778) rfl ?_
  refine ys_q_callV (As := [.int (xs (i + 1).toNatClampNeg), .int (xs (i + 2).toNatClampNeg), .int (xs (i + 3).toNatClampNeg)]) (rest := [.int v]) (z_dec yq_ld8 0 rfl) zk_L_98 zv_X9_byTurns c2 rfl ⟨_, _, rfl⟩ rfl rfl (Nat.le_of_ble_eq_true rfl) e2 (n := 781) rfl ?_
  exact ys_p_icmp_eq (z_dec yq_ld8 1 rfl) (t := 1364) rfl (n := 784) rfl (fun _ => h) (fun q => absurd rfl q)
theorem yq_kc786 {N d d1 d2 : Nat} {xs : Nat → Int32} {i v : Int32} {μ μ1 μ2 : z_M} {E : Option Value → z_Sh → z_M → Prop} (h1 : vp_in (i + 1) N) (h2 : vp_in (i + 2) N) (h3 : vp_in (i + 3) N) (h4 : vp_in (i + 4) N) (c1 : z_CT zm_X8_drawn d1 [.ref 0, .int (xs (i + 1).toNatClampNeg), .int (xs (i + 2).toNatClampNeg), .int (xs (i + 3).toNatClampNeg), .int (xs (i + 4).toNatClampNeg)] SH μ 0 0 (z_ret (some (.int v)) μ1)) (c2 : z_CT zm_X9_drawn d2 [.ref 54, .int (xs (i + 1).toNatClampNeg), .int (xs (i + 2).toNatClampNeg), .int (xs (i + 3).toNatClampNeg), .int (xs (i + 4).toNatClampNeg)] SH μ1 0 0 (z_ret (some (.int v)) μ2)) (e1 : d1 + 1 ≤ d) (e2 : d2 + 1 ≤ d) (h : PS (yq_G N xs) yq_law d 1364 [(3, .int i), (2, .ref 54), (1, .ref 0), (0, .ref 1003)] [] SH μ2 0 0 E) : PS (yq_G N xs) yq_law d 786 [(3, .int i), (2, .ref 54), (1, .ref 0), (0, .ref 1003)] [] SH μ 0 0 E := by
  refine ys_p_aload_n (z_dec yq_ld8 4 rfl) rfl 2 rfl (n := 787) rfl ?_
  refine ys_p_aload_n (z_dec yq_ld8 5 rfl) rfl 3 rfl (n := 788) rfl ?_
  refine ys_p_iload_n (z_dec yq_ld8 6 rfl) rfl 0 rfl (n := 789) rfl ?_
  refine ys_p_iconst (z_dec yq_ld8 7 rfl) (v := 1) rfl (n := 790) rfl ?_
  refine ys_p_iadd (z_dec yq_ld8 8 rfl) (n := 791) rfl ?_
  refine ys_sld (z_dec yq_ld8 9 rfl) h1 (n := 792) rfl ?_
  refine ys_p_aload_n (z_dec yq_ld8 10 rfl) rfl 3 rfl (n := 793) rfl ?_
  refine ys_p_iload_n (z_dec yq_ld8 11 rfl) rfl 0 rfl (n := 794) rfl ?_
  refine ys_p_iconst (z_dec yq_ld8 12 rfl) (v := 2) rfl (n := 795) rfl ?_
  refine ys_p_iadd (z_dec yq_ld8 13 rfl) (n := 796) rfl ?_
  refine ys_sld (z_dec yq_ld8 14 rfl) h2 (n := 797) rfl ?_
  refine ys_p_aload_n (z_dec yq_ld8 15 rfl) rfl 3 rfl (n := 798) rfl ?_
  refine ys_p_iload_n (z_dec yq_ld8 16 rfl) rfl 0 rfl (n := 799) rfl ?_
  refine ys_p_iconst (z_dec yq_ld8 17 rfl) (v := 3) rfl (n := 800) rfl ?_
  refine ys_p_iadd (z_dec yq_ld8 18 rfl) (n := 801) rfl ?_
  refine ys_sld (z_dec yq_ld8 19 rfl) h3 (n := 802) rfl ?_
  refine ys_p_aload_n (z_dec yq_ld8 20 rfl) rfl 3 rfl (n := 803) rfl ?_
  refine ys_p_iload_n (z_dec yq_ld8 21 rfl) rfl 0 rfl (n := 804) rfl ?_
  refine ys_p_iconst (z_dec yq_ld8 22 rfl) (v := 4) rfl (n := 805) rfl ?_
  refine ys_p_iadd (z_dec yq_ld8 23 rfl) (n := 806) rfl ?_
  refine ys_sld (z_dec yq_ld8 24 rfl) h4 (n := 807) rfl ?_
  refine ys_q_callV (As := [.int (xs (i + 1).toNatClampNeg), .int (xs (i + 2).toNatClampNeg), .int (xs (i + 3).toNatClampNeg), .int (xs (i + 4).toNatClampNeg)]) (rest := []) (z_dec yq_ld8 25 rfl) zk_L_99 zv_X8_drawn c1 rfl ⟨_, _, rfl⟩ rfl rfl (Nat.le_of_ble_eq_true rfl) e1 (n := 810) rfl ?_
  refine ys_p_aload_n (z_dec yq_ld8 26 rfl) rfl 1 rfl (n := 811) rfl ?_
  refine ys_p_aload_n (z_dec yq_ld8 27 rfl) rfl 3 rfl (n := 812) rfl ?_
  refine ys_p_iload_n (z_dec yq_ld8 28 rfl) rfl 0 rfl (n := 813) rfl ?_
  refine ys_p_iconst (z_dec yq_ld8 29 rfl) (v := 1) rfl (n := 814) rfl ?_
  refine ys_p_iadd (z_dec yq_ld8 30 rfl) (n := 815) rfl ?_
  refine ys_sld (z_dec yq_ld8 31 rfl) h1 (n := 816) rfl ?_
  refine ys_p_aload_n (z_dec yq_ld8 32 rfl) rfl 3 rfl (n := 817) rfl ?_
  refine ys_p_iload_n (z_dec yq_ld8 33 rfl) rfl 0 rfl (n := 818) rfl ?_
  refine ys_p_iconst (z_dec yq_ld8 34 rfl) (v := 2) rfl (n := 819) rfl ?_
  refine ys_p_iadd (z_dec yq_ld8 35 rfl) (n := 820) rfl ?_
  refine ys_sld (z_dec yq_ld8 36 rfl) h2 (n := 821) rfl ?_
  refine ys_p_aload_n (z_dec yq_ld8 37 rfl) rfl 3 rfl (n := 822) rfl ?_
  refine ys_p_iload_n (z_dec yq_ld8 38 rfl) rfl 0 rfl (n := 823) rfl ?_
  refine ys_p_iconst (z_dec yq_ld8 39 rfl) (v := 3) rfl (n := 824) rfl ?_
  refine ys_p_iadd (z_dec yq_ld8 40 rfl) (n := 825) rfl ?_
  refine ys_sld (z_dec yq_ld8 41 rfl) h3 (n := 826) rfl ?_
  refine ys_p_aload_n (z_dec yq_ld8 42 rfl) rfl 3 rfl (n := 827) rfl ?_
  refine ys_p_iload_n (z_dec yq_ld8 43 rfl) rfl 0 rfl (n := 828) rfl ?_
  refine ys_p_iconst (z_dec yq_ld8 44 rfl) (v := 4) rfl (n := 829) rfl ?_
  refine ys_p_iadd (z_dec yq_ld8 45 rfl) (n := 830) rfl ?_
  refine ys_sld (z_dec yq_ld8 46 rfl) h4 (n := 831) rfl ?_
  refine ys_q_callV (As := [.int (xs (i + 1).toNatClampNeg), .int (xs (i + 2).toNatClampNeg), .int (xs (i + 3).toNatClampNeg), .int (xs (i + 4).toNatClampNeg)]) (rest := [.int v]) (z_dec yq_ld8 47 rfl) zk_L_102 zv_X9_drawn c2 rfl ⟨_, _, rfl⟩ rfl rfl (Nat.le_of_ble_eq_true rfl) e2 (n := 834) rfl ?_
  exact ys_p_icmp_eq (z_dec yq_ld8 48 rfl) (t := 1364) rfl (n := 837) rfl (fun _ => h) (fun q => absurd rfl q)
theorem yq_kc839 {N d d1 d2 : Nat} {xs : Nat → Int32} {i v : Int32} {μ μ1 μ2 : z_M} {E : Option Value → z_Sh → z_M → Prop} (h1 : vp_in (i + 1) N) (c1 : z_CT zm_X8_match d1 [.ref 0, .int (xs (i + 1).toNatClampNeg)] SH μ 0 0 (z_ret (some (.int v)) μ1)) (c2 : z_CT zm_X9_match d2 [.ref 54, .int (xs (i + 1).toNatClampNeg)] SH μ1 0 0 (z_ret (some (.int v)) μ2)) (e1 : d1 + 1 ≤ d) (e2 : d2 + 1 ≤ d) (h : PS (yq_G N xs) yq_law d 1364 [(3, .int i), (2, .ref 54), (1, .ref 0), (0, .ref 1003)] [] SH μ2 0 0 E) : PS (yq_G N xs) yq_law d 839 [(3, .int i), (2, .ref 54), (1, .ref 0), (0, .ref 1003)] [] SH μ 0 0 E := by
  refine ys_p_aload_n (z_dec yq_ld8 51 rfl) rfl 2 rfl (n := 840) rfl ?_
  refine ys_p_aload_n (z_dec yq_ld8 52 rfl) rfl 3 rfl (n := 841) rfl ?_
  refine ys_p_iload_n (z_dec yq_ld8 53 rfl) rfl 0 rfl (n := 842) rfl ?_
  refine ys_p_iconst (z_dec yq_ld8 54 rfl) (v := 1) rfl (n := 843) rfl ?_
  refine ys_p_iadd (z_dec yq_ld8 55 rfl) (n := 844) rfl ?_
  refine ys_sld (z_dec yq_ld8 56 rfl) h1 (n := 845) rfl ?_
  refine ys_q_callV (As := [.int (xs (i + 1).toNatClampNeg)]) (rest := []) (z_dec yq_ld8 57 rfl) zk_L_103 zv_X8_match c1 rfl ⟨_, _, rfl⟩ rfl rfl (Nat.le_of_ble_eq_true rfl) e1 (n := 848) rfl ?_
  refine ys_p_aload_n (z_dec yq_ld8 58 rfl) rfl 1 rfl (n := 849) rfl ?_
  refine ys_p_aload_n (z_dec yq_ld8 59 rfl) rfl 3 rfl (n := 850) rfl ?_
  refine ys_p_iload_n (z_dec yq_ld9 0 rfl) rfl 0 rfl (n := 851) rfl ?_
  refine ys_p_iconst (z_dec yq_ld9 1 rfl) (v := 1) rfl (n := 852) rfl ?_
  refine ys_p_iadd (z_dec yq_ld9 2 rfl) (n := 853) rfl ?_
  refine ys_sld (z_dec yq_ld9 3 rfl) h1 (n := 854) rfl ?_
  refine ys_q_callV (As := [.int (xs (i + 1).toNatClampNeg)]) (rest := [.int v]) (z_dec yq_ld9 4 rfl) zk_L_106 zv_X9_match c2 rfl ⟨_, _, rfl⟩ rfl rfl (Nat.le_of_ble_eq_true rfl) e2 (n := 857) rfl ?_
  exact ys_p_icmp_eq (z_dec yq_ld9 5 rfl) (t := 1364) rfl (n := 860) rfl (fun _ => h) (fun q => absurd rfl q)
theorem yq_kc862 {N d d1 d2 : Nat} {xs : Nat → Int32} {i v : Int32} {μ μ1 μ2 : z_M} {E : Option Value → z_Sh → z_M → Prop} (h1 : vp_in (i + 1) N) (c1 : z_CT zm_X8_lemonade d1 [.ref 0, .int (xs (i + 1).toNatClampNeg)] SH μ 0 0 (z_ret (some (.int v)) μ1)) (c2 : z_CT zm_X9_lemonade d2 [.ref 54, .int (xs (i + 1).toNatClampNeg)] SH μ1 0 0 (z_ret (some (.int v)) μ2)) (e1 : d1 + 1 ≤ d) (e2 : d2 + 1 ≤ d) (h : PS (yq_G N xs) yq_law d 1364 [(3, .int i), (2, .ref 54), (1, .ref 0), (0, .ref 1003)] [] SH μ2 0 0 E) : PS (yq_G N xs) yq_law d 862 [(3, .int i), (2, .ref 54), (1, .ref 0), (0, .ref 1003)] [] SH μ 0 0 E := by
  refine ys_p_aload_n (z_dec yq_ld9 8 rfl) rfl 2 rfl (n := 863) rfl ?_
  refine ys_p_aload_n (z_dec yq_ld9 9 rfl) rfl 3 rfl (n := 864) rfl ?_
  refine ys_p_iload_n (z_dec yq_ld9 10 rfl) rfl 0 rfl (n := 865) rfl ?_
  refine ys_p_iconst (z_dec yq_ld9 11 rfl) (v := 1) rfl (n := 866) rfl ?_
  refine ys_p_iadd (z_dec yq_ld9 12 rfl) (n := 867) rfl ?_
  refine ys_sld (z_dec yq_ld9 13 rfl) h1 (n := 868) rfl ?_
  refine ys_q_callV (As := [.int (xs (i + 1).toNatClampNeg)]) (rest := []) (z_dec yq_ld9 14 rfl) zk_L_107 zv_X8_lemonade c1 rfl ⟨_, _, rfl⟩ rfl rfl (Nat.le_of_ble_eq_true rfl) e1 (n := 871) rfl ?_
  refine ys_p_aload_n (z_dec yq_ld9 15 rfl) rfl 1 rfl (n := 872) rfl ?_
  refine ys_p_aload_n (z_dec yq_ld9 16 rfl) rfl 3 rfl (n := 873) rfl ?_
  refine ys_p_iload_n (z_dec yq_ld9 17 rfl) rfl 0 rfl (n := 874) rfl ?_
  refine ys_p_iconst (z_dec yq_ld9 18 rfl) (v := 1) rfl (n := 875) rfl ?_
  refine ys_p_iadd (z_dec yq_ld9 19 rfl) (n := 876) rfl ?_
  refine ys_sld (z_dec yq_ld9 20 rfl) h1 (n := 877) rfl ?_
  refine ys_q_callV (As := [.int (xs (i + 1).toNatClampNeg)]) (rest := [.int v]) (z_dec yq_ld9 21 rfl) zk_L_110 zv_X9_lemonade c2 rfl ⟨_, _, rfl⟩ rfl rfl (Nat.le_of_ble_eq_true rfl) e2 (n := 880) rfl ?_
  exact ys_p_icmp_eq (z_dec yq_ld9 22 rfl) (t := 1364) rfl (n := 883) rfl (fun _ => h) (fun q => absurd rfl q)
theorem yq_kc885 {N d d1 d2 : Nat} {xs : Nat → Int32} {i v : Int32} {μ μ1 μ2 : z_M} {E : Option Value → z_Sh → z_M → Prop}  (c1 : z_CT zm_X8_day d1 [.ref 0] SH μ 0 0 (z_ret (some (.int v)) μ1)) (c2 : z_CT zm_X9_day d2 [.ref 54] SH μ1 0 0 (z_ret (some (.int v)) μ2)) (e1 : d1 + 1 ≤ d) (e2 : d2 + 1 ≤ d) (h : PS (yq_G N xs) yq_law d 1364 [(3, .int i), (2, .ref 54), (1, .ref 0), (0, .ref 1003)] [] SH μ2 0 0 E) : PS (yq_G N xs) yq_law d 885 [(3, .int i), (2, .ref 54), (1, .ref 0), (0, .ref 1003)] [] SH μ 0 0 E := by
  refine ys_p_aload_n (z_dec yq_ld9 25 rfl) rfl 2 rfl (n := 886) rfl ?_
  refine ys_q_callV (As := []) (rest := []) (z_dec yq_ld9 26 rfl) zk_L_111 zv_X8_day c1 rfl ⟨_, _, rfl⟩ rfl rfl (Nat.le_of_ble_eq_true rfl) e1 (n := 889) rfl ?_
  refine ys_p_aload_n (z_dec yq_ld9 27 rfl) rfl 1 rfl (n := 890) rfl ?_
  refine ys_q_callV (As := []) (rest := [.int v]) (z_dec yq_ld9 28 rfl) zk_L_114 zv_X9_day c2 rfl ⟨_, _, rfl⟩ rfl rfl (Nat.le_of_ble_eq_true rfl) e2 (n := 893) rfl ?_
  exact ys_p_icmp_eq (z_dec yq_ld9 29 rfl) (t := 1364) rfl (n := 896) rfl (fun _ => h) (fun q => absurd rfl q)
theorem yq_kc898 {N d d1 d2 : Nat} {xs : Nat → Int32} {i v : Int32} {μ μ1 μ2 : z_M} {E : Option Value → z_Sh → z_M → Prop} (h1 : vp_in (i + 1) N) (c1 : z_CT zm_X8_led d1 [.ref 0, .int (xs (i + 1).toNatClampNeg)] SH μ 0 0 (z_ret (some (.int v)) μ1)) (c2 : z_CT zm_X9_led d2 [.ref 54, .int (xs (i + 1).toNatClampNeg)] SH μ1 0 0 (z_ret (some (.int v)) μ2)) (e1 : d1 + 1 ≤ d) (e2 : d2 + 1 ≤ d) (h : PS (yq_G N xs) yq_law d 1364 [(3, .int i), (2, .ref 54), (1, .ref 0), (0, .ref 1003)] [] SH μ2 0 0 E) : PS (yq_G N xs) yq_law d 898 [(3, .int i), (2, .ref 54), (1, .ref 0), (0, .ref 1003)] [] SH μ 0 0 E := by
  refine ys_p_aload_n (z_dec yq_ld9 32 rfl) rfl 2 rfl (n := 899) rfl ?_
  refine ys_p_aload_n (z_dec yq_ld9 33 rfl) rfl 3 rfl (n := 900) rfl ?_
  refine ys_p_iload_n (z_dec yq_ld9 34 rfl) rfl 0 rfl (n := 901) rfl ?_
  refine ys_p_iconst (z_dec yq_ld9 35 rfl) (v := 1) rfl (n := 902) rfl ?_
  refine ys_p_iadd (z_dec yq_ld9 36 rfl) (n := 903) rfl ?_
  refine ys_sld (z_dec yq_ld9 37 rfl) h1 (n := 904) rfl ?_
  refine ys_q_callV (As := [.int (xs (i + 1).toNatClampNeg)]) (rest := []) (z_dec yq_ld9 38 rfl) zk_L_115 zv_X8_led c1 rfl ⟨_, _, rfl⟩ rfl rfl (Nat.le_of_ble_eq_true rfl) e1 (n := 907) rfl ?_
  refine ys_p_aload_n (z_dec yq_ld9 39 rfl) rfl 1 rfl (n := 908) rfl ?_
  refine ys_p_aload_n (z_dec yq_ld9 40 rfl) rfl 3 rfl (n := 909) rfl ?_
  refine ys_p_iload_n (z_dec yq_ld9 41 rfl) rfl 0 rfl (n := 910) rfl ?_
  refine ys_p_iconst (z_dec yq_ld9 42 rfl) (v := 1) rfl (n := 911) rfl ?_
  refine ys_p_iadd (z_dec yq_ld9 43 rfl) (n := 912) rfl ?_
  refine ys_sld (z_dec yq_ld9 44 rfl) h1 (n := 913) rfl ?_
  refine ys_q_callV (As := [.int (xs (i + 1).toNatClampNeg)]) (rest := [.int v]) (z_dec yq_ld9 45 rfl) zk_L_118 zv_X9_led c2 rfl ⟨_, _, rfl⟩ rfl rfl (Nat.le_of_ble_eq_true rfl) e2 (n := 916) rfl ?_
  exact ys_p_icmp_eq (z_dec yq_ld9 46 rfl) (t := 1364) rfl (n := 919) rfl (fun _ => h) (fun q => absurd rfl q)
theorem yq_kc921 {N d d1 d2 : Nat} {xs : Nat → Int32} {i v : Int32} {μ μ1 μ2 : z_M} {E : Option Value → z_Sh → z_M → Prop}  (c1 : z_CT zm_X8_image d1 [.ref 0] SH μ 0 0 (z_ret (some (.int v)) μ1)) (c2 : z_CT zm_X9_image d2 [.ref 54] SH μ1 0 0 (z_ret (some (.int v)) μ2)) (e1 : d1 + 1 ≤ d) (e2 : d2 + 1 ≤ d) (h : PS (yq_G N xs) yq_law d 1364 [(3, .int i), (2, .ref 54), (1, .ref 0), (0, .ref 1003)] [] SH μ2 0 0 E) : PS (yq_G N xs) yq_law d 921 [(3, .int i), (2, .ref 54), (1, .ref 0), (0, .ref 1003)] [] SH μ 0 0 E := by
  refine ys_p_aload_n (z_dec yq_ld9 49 rfl) rfl 2 rfl (n := 922) rfl ?_
  refine ys_q_callV (As := []) (rest := []) (z_dec yq_ld9 50 rfl) zk_L_119 zv_X8_image c1 rfl ⟨_, _, rfl⟩ rfl rfl (Nat.le_of_ble_eq_true rfl) e1 (n := 925) rfl ?_
  refine ys_p_aload_n (z_dec yq_ld9 51 rfl) rfl 1 rfl (n := 926) rfl ?_
  refine ys_q_callV (As := []) (rest := [.int v]) (z_dec yq_ld9 52 rfl) zk_L_122 zv_X9_image c2 rfl ⟨_, _, rfl⟩ rfl rfl (Nat.le_of_ble_eq_true rfl) e2 (n := 929) rfl ?_
  exact ys_p_icmp_eq (z_dec yq_ld9 53 rfl) (t := 1364) rfl (n := 932) rfl (fun _ => h) (fun q => absurd rfl q)
theorem yq_kc934 {N d d1 d2 : Nat} {xs : Nat → Int32} {i v : Int32} {μ μ1 μ2 : z_M} {E : Option Value → z_Sh → z_M → Prop}  (c1 : z_CT zm_X8_back d1 [.ref 0] SH μ 0 0 (z_ret (some (.int v)) μ1)) (c2 : z_CT zm_X9_back d2 [.ref 54] SH μ1 0 0 (z_ret (some (.int v)) μ2)) (e1 : d1 + 1 ≤ d) (e2 : d2 + 1 ≤ d) (h : PS (yq_G N xs) yq_law d 1364 [(3, .int i), (2, .ref 54), (1, .ref 0), (0, .ref 1003)] [] SH μ2 0 0 E) : PS (yq_G N xs) yq_law d 934 [(3, .int i), (2, .ref 54), (1, .ref 0), (0, .ref 1003)] [] SH μ 0 0 E := by
  refine ys_p_aload_n (z_dec yq_ld9 56 rfl) rfl 2 rfl (n := 935) rfl ?_
  refine ys_q_callV (As := []) (rest := []) (z_dec yq_ld9 57 rfl) zk_L_123 zv_X8_back c1 rfl ⟨_, _, rfl⟩ rfl rfl (Nat.le_of_ble_eq_true rfl) e1 (n := 938) rfl ?_
  refine ys_p_aload_n (z_dec yq_ld9 58 rfl) rfl 1 rfl (n := 939) rfl ?_
  refine ys_q_callV (As := []) (rest := [.int v]) (z_dec yq_ld9 59 rfl) zk_L_126 zv_X9_back c2 rfl ⟨_, _, rfl⟩ rfl rfl (Nat.le_of_ble_eq_true rfl) e2 (n := 942) rfl ?_
  exact ys_p_icmp_eq (z_dec yq_ld10 0 rfl) (t := 1364) rfl (n := 945) rfl (fun _ => h) (fun q => absurd rfl q)
theorem yq_kc947 {N d d1 d2 : Nat} {xs : Nat → Int32} {i v : Int32} {μ μ1 μ2 : z_M} {E : Option Value → z_Sh → z_M → Prop}  (c1 : z_CT zm_X8_undo d1 [.ref 0] SH μ 0 0 (z_ret (some (.int v)) μ1)) (c2 : z_CT zm_X9_undo d2 [.ref 54] SH μ1 0 0 (z_ret (some (.int v)) μ2)) (e1 : d1 + 1 ≤ d) (e2 : d2 + 1 ≤ d) (h : PS (yq_G N xs) yq_law d 1364 [(3, .int i), (2, .ref 54), (1, .ref 0), (0, .ref 1003)] [] SH μ2 0 0 E) : PS (yq_G N xs) yq_law d 947 [(3, .int i), (2, .ref 54), (1, .ref 0), (0, .ref 1003)] [] SH μ 0 0 E := by
  refine ys_p_aload_n (z_dec yq_ld10 3 rfl) rfl 2 rfl (n := 948) rfl ?_
  refine ys_q_callV (As := []) (rest := []) (z_dec yq_ld10 4 rfl) zk_L_127 zv_X8_undo c1 rfl ⟨_, _, rfl⟩ rfl rfl (Nat.le_of_ble_eq_true rfl) e1 (n := 951) rfl ?_
  refine ys_p_aload_n (z_dec yq_ld10 5 rfl) rfl 1 rfl (n := 952) rfl ?_
  refine ys_q_callV (As := []) (rest := [.int v]) (z_dec yq_ld10 6 rfl) zk_L_130 zv_X9_undo c2 rfl ⟨_, _, rfl⟩ rfl rfl (Nat.le_of_ble_eq_true rfl) e2 (n := 955) rfl ?_
  exact ys_p_icmp_eq (z_dec yq_ld10 7 rfl) (t := 1364) rfl (n := 958) rfl (fun _ => h) (fun q => absurd rfl q)
theorem yq_kc960 {N d d1 d2 : Nat} {xs : Nat → Int32} {i v : Int32} {μ μ1 μ2 : z_M} {E : Option Value → z_Sh → z_M → Prop}  (c1 : z_CT zm_X8_redo d1 [.ref 0] SH μ 0 0 (z_ret (some (.int v)) μ1)) (c2 : z_CT zm_X9_redo d2 [.ref 54] SH μ1 0 0 (z_ret (some (.int v)) μ2)) (e1 : d1 + 1 ≤ d) (e2 : d2 + 1 ≤ d) (h : PS (yq_G N xs) yq_law d 1364 [(3, .int i), (2, .ref 54), (1, .ref 0), (0, .ref 1003)] [] SH μ2 0 0 E) : PS (yq_G N xs) yq_law d 960 [(3, .int i), (2, .ref 54), (1, .ref 0), (0, .ref 1003)] [] SH μ 0 0 E := by
  refine ys_p_aload_n (z_dec yq_ld10 10 rfl) rfl 2 rfl (n := 961) rfl ?_
  refine ys_q_callV (As := []) (rest := []) (z_dec yq_ld10 11 rfl) zk_L_131 zv_X8_redo c1 rfl ⟨_, _, rfl⟩ rfl rfl (Nat.le_of_ble_eq_true rfl) e1 (n := 964) rfl ?_
  refine ys_p_aload_n (z_dec yq_ld10 12 rfl) rfl 1 rfl (n := 965) rfl ?_
  refine ys_q_callV (As := []) (rest := [.int v]) (z_dec yq_ld10 13 rfl) zk_L_134 zv_X9_redo c2 rfl ⟨_, _, rfl⟩ rfl rfl (Nat.le_of_ble_eq_true rfl) e2 (n := 968) rfl ?_
  exact ys_p_icmp_eq (z_dec yq_ld10 14 rfl) (t := 1364) rfl (n := 971) rfl (fun _ => h) (fun q => absurd rfl q)
theorem yq_kc973 {N d d1 d2 : Nat} {xs : Nat → Int32} {i v : Int32} {μ μ1 μ2 : z_M} {E : Option Value → z_Sh → z_M → Prop} (h1 : vp_in (i + 1) N) (c1 : z_CT zm_X8_body d1 [.ref 0, .int (xs (i + 1).toNatClampNeg)] SH μ 0 0 (z_ret (some (.int v)) μ1)) (c2 : z_CT zm_X9_body d2 [.ref 54, .int (xs (i + 1).toNatClampNeg)] SH μ1 0 0 (z_ret (some (.int v)) μ2)) (e1 : d1 + 1 ≤ d) (e2 : d2 + 1 ≤ d) (h : PS (yq_G N xs) yq_law d 1364 [(3, .int i), (2, .ref 54), (1, .ref 0), (0, .ref 1003)] [] SH μ2 0 0 E) : PS (yq_G N xs) yq_law d 973 [(3, .int i), (2, .ref 54), (1, .ref 0), (0, .ref 1003)] [] SH μ 0 0 E := by
  refine ys_p_aload_n (z_dec yq_ld10 17 rfl) rfl 2 rfl (n := 974) rfl ?_
  refine ys_p_aload_n (z_dec yq_ld10 18 rfl) rfl 3 rfl (n := 975) rfl ?_
  refine ys_p_iload_n (z_dec yq_ld10 19 rfl) rfl 0 rfl (n := 976) rfl ?_
  refine ys_p_iconst (z_dec yq_ld10 20 rfl) (v := 1) rfl (n := 977) rfl ?_
  refine ys_p_iadd (z_dec yq_ld10 21 rfl) (n := 978) rfl ?_
  refine ys_sld (z_dec yq_ld10 22 rfl) h1 (n := 979) rfl ?_
  refine ys_q_callV (As := [.int (xs (i + 1).toNatClampNeg)]) (rest := []) (z_dec yq_ld10 23 rfl) zk_L_135 zv_X8_body c1 rfl ⟨_, _, rfl⟩ rfl rfl (Nat.le_of_ble_eq_true rfl) e1 (n := 982) rfl ?_
  refine ys_p_aload_n (z_dec yq_ld10 24 rfl) rfl 1 rfl (n := 983) rfl ?_
  refine ys_p_aload_n (z_dec yq_ld10 25 rfl) rfl 3 rfl (n := 984) rfl ?_
  refine ys_p_iload_n (z_dec yq_ld10 26 rfl) rfl 0 rfl (n := 985) rfl ?_
  refine ys_p_iconst (z_dec yq_ld10 27 rfl) (v := 1) rfl (n := 986) rfl ?_
  refine ys_p_iadd (z_dec yq_ld10 28 rfl) (n := 987) rfl ?_
  refine ys_sld (z_dec yq_ld10 29 rfl) h1 (n := 988) rfl ?_
  refine ys_q_callV (As := [.int (xs (i + 1).toNatClampNeg)]) (rest := [.int v]) (z_dec yq_ld10 30 rfl) zk_L_138 zv_X9_body c2 rfl ⟨_, _, rfl⟩ rfl rfl (Nat.le_of_ble_eq_true rfl) e2 (n := 991) rfl ?_
  exact ys_p_icmp_eq (z_dec yq_ld10 31 rfl) (t := 1364) rfl (n := 994) rfl (fun _ => h) (fun q => absurd rfl q)
theorem yq_kc996 {N d d1 d2 : Nat} {xs : Nat → Int32} {i v : Int32} {μ μ1 μ2 : z_M} {E : Option Value → z_Sh → z_M → Prop} (h1 : vp_in (i + 1) N) (h2 : vp_in (i + 2) N) (h3 : vp_in (i + 3) N) (c1 : z_CT zm_X8_act d1 [.ref 0, .int (xs (i + 1).toNatClampNeg), .int (xs (i + 2).toNatClampNeg), .int (xs (i + 3).toNatClampNeg)] SH μ 0 0 (z_ret (some (.int v)) μ1)) (c2 : z_CT zm_X9_act d2 [.ref 54, .int (xs (i + 1).toNatClampNeg), .int (xs (i + 2).toNatClampNeg), .int (xs (i + 3).toNatClampNeg)] SH μ1 0 0 (z_ret (some (.int v)) μ2)) (e1 : d1 + 1 ≤ d) (e2 : d2 + 1 ≤ d) (h : PS (yq_G N xs) yq_law d 1364 [(3, .int i), (2, .ref 54), (1, .ref 0), (0, .ref 1003)] [] SH μ2 0 0 E) : PS (yq_G N xs) yq_law d 996 [(3, .int i), (2, .ref 54), (1, .ref 0), (0, .ref 1003)] [] SH μ 0 0 E := by
  refine ys_p_aload_n (z_dec yq_ld10 34 rfl) rfl 2 rfl (n := 997) rfl ?_
  refine ys_p_aload_n (z_dec yq_ld10 35 rfl) rfl 3 rfl (n := 998) rfl ?_
  refine ys_p_iload_n (z_dec yq_ld10 36 rfl) rfl 0 rfl (n := 999) rfl ?_
  refine ys_p_iconst (z_dec yq_ld10 37 rfl) (v := 1) rfl (n := 1000) rfl ?_
  refine ys_p_iadd (z_dec yq_ld10 38 rfl) (n := 1001) rfl ?_
  refine ys_sld (z_dec yq_ld10 39 rfl) h1 (n := 1002) rfl ?_
  refine ys_p_aload_n (z_dec yq_ld10 40 rfl) rfl 3 rfl (n := 1003) rfl ?_
  refine ys_p_iload_n (z_dec yq_ld10 41 rfl) rfl 0 rfl (n := 1004) rfl ?_
  refine ys_p_iconst (z_dec yq_ld10 42 rfl) (v := 2) rfl (n := 1005) rfl ?_
  refine ys_p_iadd (z_dec yq_ld10 43 rfl) (n := 1006) rfl ?_
  refine ys_sld (z_dec yq_ld10 44 rfl) h2 (n := 1007) rfl ?_
  refine ys_p_aload_n (z_dec yq_ld10 45 rfl) rfl 3 rfl (n := 1008) rfl ?_
  refine ys_p_iload_n (z_dec yq_ld10 46 rfl) rfl 0 rfl (n := 1009) rfl ?_
  refine ys_p_iconst (z_dec yq_ld10 47 rfl) (v := 3) rfl (n := 1010) rfl ?_
  refine ys_p_iadd (z_dec yq_ld10 48 rfl) (n := 1011) rfl ?_
  refine ys_sld (z_dec yq_ld10 49 rfl) h3 (n := 1012) rfl ?_
  refine ys_q_callV (As := [.int (xs (i + 1).toNatClampNeg), .int (xs (i + 2).toNatClampNeg), .int (xs (i + 3).toNatClampNeg)]) (rest := []) (z_dec yq_ld10 50 rfl) zk_L_139 zv_X8_act c1 rfl ⟨_, _, rfl⟩ rfl rfl (Nat.le_of_ble_eq_true rfl) e1 (n := 1015) rfl ?_
  refine ys_p_aload_n (z_dec yq_ld10 51 rfl) rfl 1 rfl (n := 1016) rfl ?_
  refine ys_p_aload_n (z_dec yq_ld10 52 rfl) rfl 3 rfl (n := 1017) rfl ?_
  refine ys_p_iload_n (z_dec yq_ld10 53 rfl) rfl 0 rfl (n := 1018) rfl ?_
  refine ys_p_iconst (z_dec yq_ld10 54 rfl) (v := 1) rfl (n := 1019) rfl ?_
  refine ys_p_iadd (z_dec yq_ld10 55 rfl) (n := 1020) rfl ?_
  refine ys_sld (z_dec yq_ld10 56 rfl) h1 (n := 1021) rfl ?_
  refine ys_p_aload_n (z_dec yq_ld10 57 rfl) rfl 3 rfl (n := 1022) rfl ?_
  refine ys_p_iload_n (z_dec yq_ld10 58 rfl) rfl 0 rfl (n := 1023) rfl ?_
  refine ys_p_iconst (z_dec yq_ld10 59 rfl) (v := 2) rfl (n := 1024) rfl ?_
  refine ys_p_iadd (z_dec yq_ld11 0 rfl) (n := 1025) rfl ?_
  refine ys_sld (z_dec yq_ld11 1 rfl) h2 (n := 1026) rfl ?_
  refine ys_p_aload_n (z_dec yq_ld11 2 rfl) rfl 3 rfl (n := 1027) rfl ?_
  refine ys_p_iload_n (z_dec yq_ld11 3 rfl) rfl 0 rfl (n := 1028) rfl ?_
  refine ys_p_iconst (z_dec yq_ld11 4 rfl) (v := 3) rfl (n := 1029) rfl ?_
  refine ys_p_iadd (z_dec yq_ld11 5 rfl) (n := 1030) rfl ?_
  refine ys_sld (z_dec yq_ld11 6 rfl) h3 (n := 1031) rfl ?_
  refine ys_q_callV (As := [.int (xs (i + 1).toNatClampNeg), .int (xs (i + 2).toNatClampNeg), .int (xs (i + 3).toNatClampNeg)]) (rest := [.int v]) (z_dec yq_ld11 7 rfl) zk_L_142 zv_X9_act c2 rfl ⟨_, _, rfl⟩ rfl rfl (Nat.le_of_ble_eq_true rfl) e2 (n := 1034) rfl ?_
  exact ys_p_icmp_eq (z_dec yq_ld11 8 rfl) (t := 1364) rfl (n := 1037) rfl (fun _ => h) (fun q => absurd rfl q)
theorem yq_kc1039 {N d d1 d2 : Nat} {xs : Nat → Int32} {i v : Int32} {μ μ1 μ2 : z_M} {E : Option Value → z_Sh → z_M → Prop} (h1 : vp_in (i + 1) N) (c1 : z_CT zm_X8_trace d1 [.ref 0, .int (xs (i + 1).toNatClampNeg)] SH μ 0 0 (z_ret (some (.int v)) μ1)) (c2 : z_CT zm_X9_trace d2 [.ref 54, .int (xs (i + 1).toNatClampNeg)] SH μ1 0 0 (z_ret (some (.int v)) μ2)) (e1 : d1 + 1 ≤ d) (e2 : d2 + 1 ≤ d) (h : PS (yq_G N xs) yq_law d 1364 [(3, .int i), (2, .ref 54), (1, .ref 0), (0, .ref 1003)] [] SH μ2 0 0 E) : PS (yq_G N xs) yq_law d 1039 [(3, .int i), (2, .ref 54), (1, .ref 0), (0, .ref 1003)] [] SH μ 0 0 E := by
  refine ys_p_aload_n (z_dec yq_ld11 11 rfl) rfl 2 rfl (n := 1040) rfl ?_
  refine ys_p_aload_n (z_dec yq_ld11 12 rfl) rfl 3 rfl (n := 1041) rfl ?_
  refine ys_p_iload_n (z_dec yq_ld11 13 rfl) rfl 0 rfl (n := 1042) rfl ?_
  refine ys_p_iconst (z_dec yq_ld11 14 rfl) (v := 1) rfl (n := 1043) rfl ?_
  refine ys_p_iadd (z_dec yq_ld11 15 rfl) (n := 1044) rfl ?_
  refine ys_sld (z_dec yq_ld11 16 rfl) h1 (n := 1045) rfl ?_
  refine ys_q_callV (As := [.int (xs (i + 1).toNatClampNeg)]) (rest := []) (z_dec yq_ld11 17 rfl) zk_L_143 zv_X8_trace c1 rfl ⟨_, _, rfl⟩ rfl rfl (Nat.le_of_ble_eq_true rfl) e1 (n := 1048) rfl ?_
  refine ys_p_aload_n (z_dec yq_ld11 18 rfl) rfl 1 rfl (n := 1049) rfl ?_
  refine ys_p_aload_n (z_dec yq_ld11 19 rfl) rfl 3 rfl (n := 1050) rfl ?_
  refine ys_p_iload_n (z_dec yq_ld11 20 rfl) rfl 0 rfl (n := 1051) rfl ?_
  refine ys_p_iconst (z_dec yq_ld11 21 rfl) (v := 1) rfl (n := 1052) rfl ?_
  refine ys_p_iadd (z_dec yq_ld11 22 rfl) (n := 1053) rfl ?_
  refine ys_sld (z_dec yq_ld11 23 rfl) h1 (n := 1054) rfl ?_
  refine ys_q_callV (As := [.int (xs (i + 1).toNatClampNeg)]) (rest := [.int v]) (z_dec yq_ld11 24 rfl) zk_L_146 zv_X9_trace c2 rfl ⟨_, _, rfl⟩ rfl rfl (Nat.le_of_ble_eq_true rfl) e2 (n := 1057) rfl ?_
  exact ys_p_icmp_eq (z_dec yq_ld11 25 rfl) (t := 1364) rfl (n := 1060) rfl (fun _ => h) (fun q => absurd rfl q)
theorem yq_kc1062 {N d d1 d2 : Nat} {xs : Nat → Int32} {i v : Int32} {μ μ1 μ2 : z_M} {E : Option Value → z_Sh → z_M → Prop} (h1 : vp_in (i + 1) N) (h2 : vp_in (i + 2) N) (c1 : z_CT zm_X8_keep d1 [.ref 0, .int (xs (i + 1).toNatClampNeg), .int (xs (i + 2).toNatClampNeg)] SH μ 0 0 (z_ret (some (.int v)) μ1)) (c2 : z_CT zm_X9_keep d2 [.ref 54, .int (xs (i + 1).toNatClampNeg), .int (xs (i + 2).toNatClampNeg)] SH μ1 0 0 (z_ret (some (.int v)) μ2)) (e1 : d1 + 1 ≤ d) (e2 : d2 + 1 ≤ d) (h : PS (yq_G N xs) yq_law d 1364 [(3, .int i), (2, .ref 54), (1, .ref 0), (0, .ref 1003)] [] SH μ2 0 0 E) : PS (yq_G N xs) yq_law d 1062 [(3, .int i), (2, .ref 54), (1, .ref 0), (0, .ref 1003)] [] SH μ 0 0 E := by
  refine ys_p_aload_n (z_dec yq_ld11 28 rfl) rfl 2 rfl (n := 1063) rfl ?_
  refine ys_p_aload_n (z_dec yq_ld11 29 rfl) rfl 3 rfl (n := 1064) rfl ?_
  refine ys_p_iload_n (z_dec yq_ld11 30 rfl) rfl 0 rfl (n := 1065) rfl ?_
  refine ys_p_iconst (z_dec yq_ld11 31 rfl) (v := 1) rfl (n := 1066) rfl ?_
  refine ys_p_iadd (z_dec yq_ld11 32 rfl) (n := 1067) rfl ?_
  refine ys_sld (z_dec yq_ld11 33 rfl) h1 (n := 1068) rfl ?_
  refine ys_p_aload_n (z_dec yq_ld11 34 rfl) rfl 3 rfl (n := 1069) rfl ?_
  refine ys_p_iload_n (z_dec yq_ld11 35 rfl) rfl 0 rfl (n := 1070) rfl ?_
  refine ys_p_iconst (z_dec yq_ld11 36 rfl) (v := 2) rfl (n := 1071) rfl ?_
  refine ys_p_iadd (z_dec yq_ld11 37 rfl) (n := 1072) rfl ?_
  refine ys_sld (z_dec yq_ld11 38 rfl) h2 (n := 1073) rfl ?_
  refine ys_q_callV (As := [.int (xs (i + 1).toNatClampNeg), .int (xs (i + 2).toNatClampNeg)]) (rest := []) (z_dec yq_ld11 39 rfl) zk_L_147 zv_X8_keep c1 rfl ⟨_, _, rfl⟩ rfl rfl (Nat.le_of_ble_eq_true rfl) e1 (n := 1076) rfl ?_
  refine ys_p_aload_n (z_dec yq_ld11 40 rfl) rfl 1 rfl (n := 1077) rfl ?_
  refine ys_p_aload_n (z_dec yq_ld11 41 rfl) rfl 3 rfl (n := 1078) rfl ?_
  refine ys_p_iload_n (z_dec yq_ld11 42 rfl) rfl 0 rfl (n := 1079) rfl ?_
  refine ys_p_iconst (z_dec yq_ld11 43 rfl) (v := 1) rfl (n := 1080) rfl ?_
  refine ys_p_iadd (z_dec yq_ld11 44 rfl) (n := 1081) rfl ?_
  refine ys_sld (z_dec yq_ld11 45 rfl) h1 (n := 1082) rfl ?_
  refine ys_p_aload_n (z_dec yq_ld11 46 rfl) rfl 3 rfl (n := 1083) rfl ?_
  refine ys_p_iload_n (z_dec yq_ld11 47 rfl) rfl 0 rfl (n := 1084) rfl ?_
  refine ys_p_iconst (z_dec yq_ld11 48 rfl) (v := 2) rfl (n := 1085) rfl ?_
  refine ys_p_iadd (z_dec yq_ld11 49 rfl) (n := 1086) rfl ?_
  refine ys_sld (z_dec yq_ld11 50 rfl) h2 (n := 1087) rfl ?_
  refine ys_q_callV (As := [.int (xs (i + 1).toNatClampNeg), .int (xs (i + 2).toNatClampNeg)]) (rest := [.int v]) (z_dec yq_ld11 51 rfl) zk_L_150 zv_X9_keep c2 rfl ⟨_, _, rfl⟩ rfl rfl (Nat.le_of_ble_eq_true rfl) e2 (n := 1090) rfl ?_
  exact ys_p_icmp_eq (z_dec yq_ld11 52 rfl) (t := 1364) rfl (n := 1093) rfl (fun _ => h) (fun q => absurd rfl q)
theorem yq_kc1095 {N d d1 d2 : Nat} {xs : Nat → Int32} {i v : Int32} {μ μ1 μ2 : z_M} {E : Option Value → z_Sh → z_M → Prop} (h1 : vp_in (i + 1) N) (h2 : vp_in (i + 2) N) (h3 : vp_in (i + 3) N) (c1 : z_CT zm_X8_row d1 [.ref 0, .int (xs (i + 1).toNatClampNeg), .int (xs (i + 2).toNatClampNeg), .int (xs (i + 3).toNatClampNeg)] SH μ 0 0 (z_ret (some (.int v)) μ1)) (c2 : z_CT zm_X9_row d2 [.ref 54, .int (xs (i + 1).toNatClampNeg), .int (xs (i + 2).toNatClampNeg), .int (xs (i + 3).toNatClampNeg)] SH μ1 0 0 (z_ret (some (.int v)) μ2)) (e1 : d1 + 1 ≤ d) (e2 : d2 + 1 ≤ d) (h : PS (yq_G N xs) yq_law d 1364 [(3, .int i), (2, .ref 54), (1, .ref 0), (0, .ref 1003)] [] SH μ2 0 0 E) : PS (yq_G N xs) yq_law d 1095 [(3, .int i), (2, .ref 54), (1, .ref 0), (0, .ref 1003)] [] SH μ 0 0 E := by
  refine ys_p_aload_n (z_dec yq_ld11 55 rfl) rfl 2 rfl (n := 1096) rfl ?_
  refine ys_p_aload_n (z_dec yq_ld11 56 rfl) rfl 3 rfl (n := 1097) rfl ?_
  refine ys_p_iload_n (z_dec yq_ld11 57 rfl) rfl 0 rfl (n := 1098) rfl ?_
  refine ys_p_iconst (z_dec yq_ld11 58 rfl) (v := 1) rfl (n := 1099) rfl ?_
  refine ys_p_iadd (z_dec yq_ld11 59 rfl) (n := 1100) rfl ?_
  refine ys_sld (z_dec yq_ld12 0 rfl) h1 (n := 1101) rfl ?_
  refine ys_p_aload_n (z_dec yq_ld12 1 rfl) rfl 3 rfl (n := 1102) rfl ?_
  refine ys_p_iload_n (z_dec yq_ld12 2 rfl) rfl 0 rfl (n := 1103) rfl ?_
  refine ys_p_iconst (z_dec yq_ld12 3 rfl) (v := 2) rfl (n := 1104) rfl ?_
  refine ys_p_iadd (z_dec yq_ld12 4 rfl) (n := 1105) rfl ?_
  refine ys_sld (z_dec yq_ld12 5 rfl) h2 (n := 1106) rfl ?_
  refine ys_p_aload_n (z_dec yq_ld12 6 rfl) rfl 3 rfl (n := 1107) rfl ?_
  refine ys_p_iload_n (z_dec yq_ld12 7 rfl) rfl 0 rfl (n := 1108) rfl ?_
  refine ys_p_iconst (z_dec yq_ld12 8 rfl) (v := 3) rfl (n := 1109) rfl ?_
  refine ys_p_iadd (z_dec yq_ld12 9 rfl) (n := 1110) rfl ?_
  refine ys_sld (z_dec yq_ld12 10 rfl) h3 (n := 1111) rfl ?_
  refine ys_q_callV (As := [.int (xs (i + 1).toNatClampNeg), .int (xs (i + 2).toNatClampNeg), .int (xs (i + 3).toNatClampNeg)]) (rest := []) (z_dec yq_ld12 11 rfl) zk_L_151 zv_X8_row c1 rfl ⟨_, _, rfl⟩ rfl rfl (Nat.le_of_ble_eq_true rfl) e1 (n := 1114) rfl ?_
  refine ys_p_aload_n (z_dec yq_ld12 12 rfl) rfl 1 rfl (n := 1115) rfl ?_
  refine ys_p_aload_n (z_dec yq_ld12 13 rfl) rfl 3 rfl (n := 1116) rfl ?_
  refine ys_p_iload_n (z_dec yq_ld12 14 rfl) rfl 0 rfl (n := 1117) rfl ?_
  refine ys_p_iconst (z_dec yq_ld12 15 rfl) (v := 1) rfl (n := 1118) rfl ?_
  refine ys_p_iadd (z_dec yq_ld12 16 rfl) (n := 1119) rfl ?_
  refine ys_sld (z_dec yq_ld12 17 rfl) h1 (n := 1120) rfl ?_
  refine ys_p_aload_n (z_dec yq_ld12 18 rfl) rfl 3 rfl (n := 1121) rfl ?_
  refine ys_p_iload_n (z_dec yq_ld12 19 rfl) rfl 0 rfl (n := 1122) rfl ?_
  refine ys_p_iconst (z_dec yq_ld12 20 rfl) (v := 2) rfl (n := 1123) rfl ?_
  refine ys_p_iadd (z_dec yq_ld12 21 rfl) (n := 1124) rfl ?_
  refine ys_sld (z_dec yq_ld12 22 rfl) h2 (n := 1125) rfl ?_
  refine ys_p_aload_n (z_dec yq_ld12 23 rfl) rfl 3 rfl (n := 1126) rfl ?_
  refine ys_p_iload_n (z_dec yq_ld12 24 rfl) rfl 0 rfl (n := 1127) rfl ?_
  refine ys_p_iconst (z_dec yq_ld12 25 rfl) (v := 3) rfl (n := 1128) rfl ?_
  refine ys_p_iadd (z_dec yq_ld12 26 rfl) (n := 1129) rfl ?_
  refine ys_sld (z_dec yq_ld12 27 rfl) h3 (n := 1130) rfl ?_
  refine ys_q_callV (As := [.int (xs (i + 1).toNatClampNeg), .int (xs (i + 2).toNatClampNeg), .int (xs (i + 3).toNatClampNeg)]) (rest := [.int v]) (z_dec yq_ld12 28 rfl) zk_L_154 zv_X9_row c2 rfl ⟨_, _, rfl⟩ rfl rfl (Nat.le_of_ble_eq_true rfl) e2 (n := 1133) rfl ?_
  exact ys_p_icmp_eq (z_dec yq_ld12 29 rfl) (t := 1364) rfl (n := 1136) rfl (fun _ => h) (fun q => absurd rfl q)
theorem yq_kc1245 {N d d1 d2 : Nat} {xs : Nat → Int32} {i v : Int32} {μ μ1 μ2 : z_M} {E : Option Value → z_Sh → z_M → Prop} (h1 : vp_in (i + 1) N) (h2 : vp_in (i + 2) N) (h3 : vp_in (i + 3) N) (h4 : vp_in (i + 4) N) (h5 : vp_in (i + 5) N) (c1 : z_CT zm_X8_shift d1 [.ref 0, .int (xs (i + 1).toNatClampNeg), .int (xs (i + 2).toNatClampNeg), .int (xs (i + 3).toNatClampNeg), .int (xs (i + 4).toNatClampNeg), .int (xs (i + 5).toNatClampNeg)] SH μ 0 0 (z_ret (some (.int v)) μ1)) (c2 : z_CT zm_X9_shift d2 [.ref 54, .int (xs (i + 1).toNatClampNeg), .int (xs (i + 2).toNatClampNeg), .int (xs (i + 3).toNatClampNeg), .int (xs (i + 4).toNatClampNeg), .int (xs (i + 5).toNatClampNeg)] SH μ1 0 0 (z_ret (some (.int v)) μ2)) (e1 : d1 + 1 ≤ d) (e2 : d2 + 1 ≤ d) (h : PS (yq_G N xs) yq_law d 1364 [(3, .int i), (2, .ref 54), (1, .ref 0), (0, .ref 1003)] [] SH μ2 0 0 E) : PS (yq_G N xs) yq_law d 1245 [(3, .int i), (2, .ref 54), (1, .ref 0), (0, .ref 1003)] [] SH μ 0 0 E := by
  refine ys_p_aload_n (z_dec yq_ld14 1 rfl) rfl 2 rfl (n := 1246) rfl ?_
  refine ys_p_aload_n (z_dec yq_ld14 2 rfl) rfl 3 rfl (n := 1247) rfl ?_
  refine ys_p_iload_n (z_dec yq_ld14 3 rfl) rfl 0 rfl (n := 1248) rfl ?_
  refine ys_p_iconst (z_dec yq_ld14 4 rfl) (v := 1) rfl (n := 1249) rfl ?_
  refine ys_p_iadd (z_dec yq_ld14 5 rfl) (n := 1250) rfl ?_
  refine ys_sld (z_dec yq_ld14 6 rfl) h1 (n := 1251) rfl ?_
  refine ys_p_aload_n (z_dec yq_ld14 7 rfl) rfl 3 rfl (n := 1252) rfl ?_
  refine ys_p_iload_n (z_dec yq_ld14 8 rfl) rfl 0 rfl (n := 1253) rfl ?_
  refine ys_p_iconst (z_dec yq_ld14 9 rfl) (v := 2) rfl (n := 1254) rfl ?_
  refine ys_p_iadd (z_dec yq_ld14 10 rfl) (n := 1255) rfl ?_
  refine ys_sld (z_dec yq_ld14 11 rfl) h2 (n := 1256) rfl ?_
  refine ys_p_aload_n (z_dec yq_ld14 12 rfl) rfl 3 rfl (n := 1257) rfl ?_
  refine ys_p_iload_n (z_dec yq_ld14 13 rfl) rfl 0 rfl (n := 1258) rfl ?_
  refine ys_p_iconst (z_dec yq_ld14 14 rfl) (v := 3) rfl (n := 1259) rfl ?_
  refine ys_p_iadd (z_dec yq_ld14 15 rfl) (n := 1260) rfl ?_
  refine ys_sld (z_dec yq_ld14 16 rfl) h3 (n := 1261) rfl ?_
  refine ys_p_aload_n (z_dec yq_ld14 17 rfl) rfl 3 rfl (n := 1262) rfl ?_
  refine ys_p_iload_n (z_dec yq_ld14 18 rfl) rfl 0 rfl (n := 1263) rfl ?_
  refine ys_p_iconst (z_dec yq_ld14 19 rfl) (v := 4) rfl (n := 1264) rfl ?_
  refine ys_p_iadd (z_dec yq_ld14 20 rfl) (n := 1265) rfl ?_
  refine ys_sld (z_dec yq_ld14 21 rfl) h4 (n := 1266) rfl ?_
  refine ys_p_aload_n (z_dec yq_ld14 22 rfl) rfl 3 rfl (n := 1267) rfl ?_
  refine ys_p_iload_n (z_dec yq_ld14 23 rfl) rfl 0 rfl (n := 1268) rfl ?_
  refine ys_p_iconst (z_dec yq_ld14 24 rfl) (v := 5) rfl (n := 1269) rfl ?_
  refine ys_p_iadd (z_dec yq_ld14 25 rfl) (n := 1270) rfl ?_
  refine ys_sld (z_dec yq_ld14 26 rfl) h5 (n := 1271) rfl ?_
  refine ys_q_callV (As := [.int (xs (i + 1).toNatClampNeg), .int (xs (i + 2).toNatClampNeg), .int (xs (i + 3).toNatClampNeg), .int (xs (i + 4).toNatClampNeg), .int (xs (i + 5).toNatClampNeg)]) (rest := []) (z_dec yq_ld14 27 rfl) zk_L_167 zv_X8_shift c1 rfl ⟨_, _, rfl⟩ rfl rfl (Nat.le_of_ble_eq_true rfl) e1 (n := 1274) rfl ?_
  refine ys_p_aload_n (z_dec yq_ld14 28 rfl) rfl 1 rfl (n := 1275) rfl ?_
  refine ys_p_aload_n (z_dec yq_ld14 29 rfl) rfl 3 rfl (n := 1276) rfl ?_
  refine ys_p_iload_n (z_dec yq_ld14 30 rfl) rfl 0 rfl (n := 1277) rfl ?_
  refine ys_p_iconst (z_dec yq_ld14 31 rfl) (v := 1) rfl (n := 1278) rfl ?_
  refine ys_p_iadd (z_dec yq_ld14 32 rfl) (n := 1279) rfl ?_
  refine ys_sld (z_dec yq_ld14 33 rfl) h1 (n := 1280) rfl ?_
  refine ys_p_aload_n (z_dec yq_ld14 34 rfl) rfl 3 rfl (n := 1281) rfl ?_
  refine ys_p_iload_n (z_dec yq_ld14 35 rfl) rfl 0 rfl (n := 1282) rfl ?_
  refine ys_p_iconst (z_dec yq_ld14 36 rfl) (v := 2) rfl (n := 1283) rfl ?_
  refine ys_p_iadd (z_dec yq_ld14 37 rfl) (n := 1284) rfl ?_
  refine ys_sld (z_dec yq_ld14 38 rfl) h2 (n := 1285) rfl ?_
  refine ys_p_aload_n (z_dec yq_ld14 39 rfl) rfl 3 rfl (n := 1286) rfl ?_
  refine ys_p_iload_n (z_dec yq_ld14 40 rfl) rfl 0 rfl (n := 1287) rfl ?_
  refine ys_p_iconst (z_dec yq_ld14 41 rfl) (v := 3) rfl (n := 1288) rfl ?_
  refine ys_p_iadd (z_dec yq_ld14 42 rfl) (n := 1289) rfl ?_
  refine ys_sld (z_dec yq_ld14 43 rfl) h3 (n := 1290) rfl ?_
  refine ys_p_aload_n (z_dec yq_ld14 44 rfl) rfl 3 rfl (n := 1291) rfl ?_
  refine ys_p_iload_n (z_dec yq_ld14 45 rfl) rfl 0 rfl (n := 1292) rfl ?_
  refine ys_p_iconst (z_dec yq_ld14 46 rfl) (v := 4) rfl (n := 1293) rfl ?_
  refine ys_p_iadd (z_dec yq_ld14 47 rfl) (n := 1294) rfl ?_
  refine ys_sld (z_dec yq_ld14 48 rfl) h4 (n := 1295) rfl ?_
  refine ys_p_aload_n (z_dec yq_ld14 49 rfl) rfl 3 rfl (n := 1296) rfl ?_
  refine ys_p_iload_n (z_dec yq_ld14 50 rfl) rfl 0 rfl (n := 1297) rfl ?_
  refine ys_p_iconst (z_dec yq_ld14 51 rfl) (v := 5) rfl (n := 1298) rfl ?_
  refine ys_p_iadd (z_dec yq_ld14 52 rfl) (n := 1299) rfl ?_
  refine ys_sld (z_dec yq_ld14 53 rfl) h5 (n := 1300) rfl ?_
  refine ys_q_callV (As := [.int (xs (i + 1).toNatClampNeg), .int (xs (i + 2).toNatClampNeg), .int (xs (i + 3).toNatClampNeg), .int (xs (i + 4).toNatClampNeg), .int (xs (i + 5).toNatClampNeg)]) (rest := [.int v]) (z_dec yq_ld14 54 rfl) zk_L_171 zv_X9_shift c2 rfl ⟨_, _, rfl⟩ rfl rfl (Nat.le_of_ble_eq_true rfl) e2 (n := 1303) rfl ?_
  exact ys_p_icmp_eq (z_dec yq_ld14 55 rfl) (t := 1364) rfl (n := 1306) rfl (fun _ => h) (fun q => absurd rfl q)
theorem yq_kc1308 {N d d1 d2 : Nat} {xs : Nat → Int32} {i v : Int32} {μ μ1 μ2 : z_M} {E : Option Value → z_Sh → z_M → Prop} (h1 : vp_in (i + 1) N) (h2 : vp_in (i + 2) N) (c1 : z_CT zm_X8_taken d1 [.ref 0, .int (xs (i + 1).toNatClampNeg), .int (xs (i + 2).toNatClampNeg)] SH μ 0 0 (z_ret (some (.int v)) μ1)) (c2 : z_CT zm_X9_taken d2 [.ref 54, .int (xs (i + 1).toNatClampNeg), .int (xs (i + 2).toNatClampNeg)] SH μ1 0 0 (z_ret (some (.int v)) μ2)) (e1 : d1 + 1 ≤ d) (e2 : d2 + 1 ≤ d) (h : PS (yq_G N xs) yq_law d 1364 [(3, .int i), (2, .ref 54), (1, .ref 0), (0, .ref 1003)] [] SH μ2 0 0 E) : PS (yq_G N xs) yq_law d 1308 [(3, .int i), (2, .ref 54), (1, .ref 0), (0, .ref 1003)] [] SH μ 0 0 E := by
  refine ys_p_aload_n (z_dec yq_ld14 58 rfl) rfl 2 rfl (n := 1309) rfl ?_
  refine ys_p_aload_n (z_dec yq_ld14 59 rfl) rfl 3 rfl (n := 1310) rfl ?_
  refine ys_p_iload_n (z_dec yq_ld15 0 rfl) rfl 0 rfl (n := 1311) rfl ?_
  refine ys_p_iconst (z_dec yq_ld15 1 rfl) (v := 1) rfl (n := 1312) rfl ?_
  refine ys_p_iadd (z_dec yq_ld15 2 rfl) (n := 1313) rfl ?_
  refine ys_sld (z_dec yq_ld15 3 rfl) h1 (n := 1314) rfl ?_
  refine ys_p_aload_n (z_dec yq_ld15 4 rfl) rfl 3 rfl (n := 1315) rfl ?_
  refine ys_p_iload_n (z_dec yq_ld15 5 rfl) rfl 0 rfl (n := 1316) rfl ?_
  refine ys_p_iconst (z_dec yq_ld15 6 rfl) (v := 2) rfl (n := 1317) rfl ?_
  refine ys_p_iadd (z_dec yq_ld15 7 rfl) (n := 1318) rfl ?_
  refine ys_sld (z_dec yq_ld15 8 rfl) h2 (n := 1319) rfl ?_
  refine ys_q_callV (As := [.int (xs (i + 1).toNatClampNeg), .int (xs (i + 2).toNatClampNeg)]) (rest := []) (z_dec yq_ld15 9 rfl) zk_L_172 zv_X8_taken c1 rfl ⟨_, _, rfl⟩ rfl rfl (Nat.le_of_ble_eq_true rfl) e1 (n := 1322) rfl ?_
  refine ys_p_aload_n (z_dec yq_ld15 10 rfl) rfl 1 rfl (n := 1323) rfl ?_
  refine ys_p_aload_n (z_dec yq_ld15 11 rfl) rfl 3 rfl (n := 1324) rfl ?_
  refine ys_p_iload_n (z_dec yq_ld15 12 rfl) rfl 0 rfl (n := 1325) rfl ?_
  refine ys_p_iconst (z_dec yq_ld15 13 rfl) (v := 1) rfl (n := 1326) rfl ?_
  refine ys_p_iadd (z_dec yq_ld15 14 rfl) (n := 1327) rfl ?_
  refine ys_sld (z_dec yq_ld15 15 rfl) h1 (n := 1328) rfl ?_
  refine ys_p_aload_n (z_dec yq_ld15 16 rfl) rfl 3 rfl (n := 1329) rfl ?_
  refine ys_p_iload_n (z_dec yq_ld15 17 rfl) rfl 0 rfl (n := 1330) rfl ?_
  refine ys_p_iconst (z_dec yq_ld15 18 rfl) (v := 2) rfl (n := 1331) rfl ?_
  refine ys_p_iadd (z_dec yq_ld15 19 rfl) (n := 1332) rfl ?_
  refine ys_sld (z_dec yq_ld15 20 rfl) h2 (n := 1333) rfl ?_
  refine ys_q_callV (As := [.int (xs (i + 1).toNatClampNeg), .int (xs (i + 2).toNatClampNeg)]) (rest := [.int v]) (z_dec yq_ld15 21 rfl) zk_L_175 zv_X9_taken c2 rfl ⟨_, _, rfl⟩ rfl rfl (Nat.le_of_ble_eq_true rfl) e2 (n := 1336) rfl ?_
  exact ys_p_icmp_eq (z_dec yq_ld15 22 rfl) (t := 1364) rfl (n := 1339) rfl (fun _ => h) (fun q => absurd rfl q)
theorem yq_kc1341 {N d d1 d2 : Nat} {xs : Nat → Int32} {i v : Int32} {μ μ1 μ2 : z_M} {E : Option Value → z_Sh → z_M → Prop} (h1 : vp_in (i + 1) N) (c1 : z_CT zm_X8_count d1 [.ref 0, .int (xs (i + 1).toNatClampNeg)] SH μ 0 0 (z_ret (some (.int v)) μ1)) (c2 : z_CT zm_X9_count d2 [.ref 54, .int (xs (i + 1).toNatClampNeg)] SH μ1 0 0 (z_ret (some (.int v)) μ2)) (e1 : d1 + 1 ≤ d) (e2 : d2 + 1 ≤ d) (h : PS (yq_G N xs) yq_law d 1364 [(3, .int i), (2, .ref 54), (1, .ref 0), (0, .ref 1003)] [] SH μ2 0 0 E) : PS (yq_G N xs) yq_law d 1341 [(3, .int i), (2, .ref 54), (1, .ref 0), (0, .ref 1003)] [] SH μ 0 0 E := by
  refine ys_p_aload_n (z_dec yq_ld15 25 rfl) rfl 2 rfl (n := 1342) rfl ?_
  refine ys_p_aload_n (z_dec yq_ld15 26 rfl) rfl 3 rfl (n := 1343) rfl ?_
  refine ys_p_iload_n (z_dec yq_ld15 27 rfl) rfl 0 rfl (n := 1344) rfl ?_
  refine ys_p_iconst (z_dec yq_ld15 28 rfl) (v := 1) rfl (n := 1345) rfl ?_
  refine ys_p_iadd (z_dec yq_ld15 29 rfl) (n := 1346) rfl ?_
  refine ys_sld (z_dec yq_ld15 30 rfl) h1 (n := 1347) rfl ?_
  refine ys_q_callV (As := [.int (xs (i + 1).toNatClampNeg)]) (rest := []) (z_dec yq_ld15 31 rfl) zk_L_176 zv_X8_count c1 rfl ⟨_, _, rfl⟩ rfl rfl (Nat.le_of_ble_eq_true rfl) e1 (n := 1350) rfl ?_
  refine ys_p_aload_n (z_dec yq_ld15 32 rfl) rfl 1 rfl (n := 1351) rfl ?_
  refine ys_p_aload_n (z_dec yq_ld15 33 rfl) rfl 3 rfl (n := 1352) rfl ?_
  refine ys_p_iload_n (z_dec yq_ld15 34 rfl) rfl 0 rfl (n := 1353) rfl ?_
  refine ys_p_iconst (z_dec yq_ld15 35 rfl) (v := 1) rfl (n := 1354) rfl ?_
  refine ys_p_iadd (z_dec yq_ld15 36 rfl) (n := 1355) rfl ?_
  refine ys_sld (z_dec yq_ld15 37 rfl) h1 (n := 1356) rfl ?_
  refine ys_q_callV (As := [.int (xs (i + 1).toNatClampNeg)]) (rest := [.int v]) (z_dec yq_ld15 38 rfl) zk_L_179 zv_X9_count c2 rfl ⟨_, _, rfl⟩ rfl rfl (Nat.le_of_ble_eq_true rfl) e2 (n := 1359) rfl ?_
  exact ys_p_icmp_eq (z_dec yq_ld15 39 rfl) (t := 1364) rfl (n := 1362) rfl (fun _ => h) (fun q => absurd rfl q)
