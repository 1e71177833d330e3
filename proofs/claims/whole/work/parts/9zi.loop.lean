/-! THE LAW'S LOOP -/
theorem yj_vp {N k j : Nat} (h : k + j < N) (hN : N < 2000000000) : vp_in (nI k + nI j) N := by
  rw [nI_add]
  unfold vp_in
  rw [nI_clamp (by omega)]
  intro q
  rcases q with q | q
  · exact nI_pos (by omega) q
  · omega
theorem yj_c0 {N d : Nat} {xs : Nat → Int32} {k : Nat} {b : Bool} {I : Nat → Nat → Int32} {L : Nat → Nat → Int64} {E : Option Value → z_Sh → z_M → Prop} (hd : 74 ≤ d) (hN : N < 2000000000) (hk : k + 5 < N) (hB : yj_B b I I L L) (h : yj_H N xs d (nI k) E) : PS (yq_G N xs) yq_law d 33 [(3, .int (nI k)), (2, .ref 54), (1, .ref 0), (0, .ref 1003)] [.int (nI 0)] SH (I, L, z_R b) 0 0 E :=
  ys_p_tableIn (z_dec yq_ld0 21 rfl) (by decide) (by decide) (off := 171) rfl (t := 204) rfl (yj_k204 hd hB (yj_vp (j := 1) (by omega) hN) h)
theorem yj_c1 {N d : Nat} {xs : Nat → Int32} {k : Nat} {b : Bool} {I : Nat → Nat → Int32} {L : Nat → Nat → Int64} {E : Option Value → z_Sh → z_M → Prop} (hd : 74 ≤ d) (hN : N < 2000000000) (hk : k + 5 < N) (hB : yj_B b I I L L) (h : yj_H N xs d (nI k) E) : PS (yq_G N xs) yq_law d 33 [(3, .int (nI k)), (2, .ref 54), (1, .ref 0), (0, .ref 1003)] [.int (nI 1)] SH (I, L, z_R b) 0 0 E :=
  ys_p_tableIn (z_dec yq_ld0 21 rfl) (by decide) (by decide) (off := 194) rfl (t := 227) rfl (yj_k227 hd hB (yj_vp (j := 1) (by omega) hN) (yj_vp (j := 2) (by omega) hN) (yj_vp (j := 3) (by omega) hN) h)
theorem yj_c2 {N d : Nat} {xs : Nat → Int32} {k : Nat} {b : Bool} {I : Nat → Nat → Int32} {L : Nat → Nat → Int64} {E : Option Value → z_Sh → z_M → Prop} (hd : 74 ≤ d) (hN : N < 2000000000) (hk : k + 5 < N) (hB : yj_B b I I L L) (h : yj_H N xs d (nI k) E) : PS (yq_G N xs) yq_law d 33 [(3, .int (nI k)), (2, .ref 54), (1, .ref 0), (0, .ref 1003)] [.int (nI 2)] SH (I, L, z_R b) 0 0 E :=
  ys_p_tableIn (z_dec yq_ld0 21 rfl) (by decide) (by decide) (off := 237) rfl (t := 270) rfl (yj_k270 hd hB (yj_vp (j := 1) (by omega) hN) (yj_vp (j := 2) (by omega) hN) (yj_vp (j := 3) (by omega) hN) h)
theorem yj_c3 {N d : Nat} {xs : Nat → Int32} {k : Nat} {b : Bool} {I : Nat → Nat → Int32} {L : Nat → Nat → Int64} {E : Option Value → z_Sh → z_M → Prop} (hd : 74 ≤ d) (hN : N < 2000000000) (hk : k + 5 < N) (hB : yj_B b I I L L) (h : yj_H N xs d (nI k) E) : PS (yq_G N xs) yq_law d 33 [(3, .int (nI k)), (2, .ref 54), (1, .ref 0), (0, .ref 1003)] [.int (nI 3)] SH (I, L, z_R b) 0 0 E :=
  ys_p_tableIn (z_dec yq_ld0 21 rfl) (by decide) (by decide) (off := 280) rfl (t := 313) rfl (yj_k313 hd hB (yj_vp (j := 1) (by omega) hN) (yj_vp (j := 2) (by omega) hN) h)
theorem yj_c4 {N d : Nat} {xs : Nat → Int32} {k : Nat} {b : Bool} {I : Nat → Nat → Int32} {L : Nat → Nat → Int64} {E : Option Value → z_Sh → z_M → Prop} (hd : 74 ≤ d) (hN : N < 2000000000) (hk : k + 5 < N) (hB : yj_B b I I L L) (h : yj_H N xs d (nI k) E) : PS (yq_G N xs) yq_law d 33 [(3, .int (nI k)), (2, .ref 54), (1, .ref 0), (0, .ref 1003)] [.int (nI 4)] SH (I, L, z_R b) 0 0 E :=
  ys_p_tableIn (z_dec yq_ld0 21 rfl) (by decide) (by decide) (off := 313) rfl (t := 346) rfl (yj_k346 hd hB (yj_vp (j := 1) (by omega) hN) h)
theorem yj_c5 {N d : Nat} {xs : Nat → Int32} {k : Nat} {b : Bool} {I : Nat → Nat → Int32} {L : Nat → Nat → Int64} {E : Option Value → z_Sh → z_M → Prop} (hd : 74 ≤ d) (hN : N < 2000000000) (hk : k + 5 < N) (hB : yj_B b I I L L) (h : yj_H N xs d (nI k) E) : PS (yq_G N xs) yq_law d 33 [(3, .int (nI k)), (2, .ref 54), (1, .ref 0), (0, .ref 1003)] [.int (nI 5)] SH (I, L, z_R b) 0 0 E :=
  ys_p_tableIn (z_dec yq_ld0 21 rfl) (by decide) (by decide) (off := 336) rfl (t := 369) rfl (yj_k369 hd hB h)
theorem yj_c6 {N d : Nat} {xs : Nat → Int32} {k : Nat} {b : Bool} {I : Nat → Nat → Int32} {L : Nat → Nat → Int64} {E : Option Value → z_Sh → z_M → Prop} (hd : 74 ≤ d) (hN : N < 2000000000) (hk : k + 5 < N) (hB : yj_B b I I L L) (h : yj_H N xs d (nI k) E) : PS (yq_G N xs) yq_law d 33 [(3, .int (nI k)), (2, .ref 54), (1, .ref 0), (0, .ref 1003)] [.int (nI 6)] SH (I, L, z_R b) 0 0 E :=
  ys_p_tableIn (z_dec yq_ld0 21 rfl) (by decide) (by decide) (off := 349) rfl (t := 382) rfl (yj_k382 hd hB (yj_vp (j := 1) (by omega) hN) h)
theorem yj_c7 {N d : Nat} {xs : Nat → Int32} {k : Nat} {b : Bool} {I : Nat → Nat → Int32} {L : Nat → Nat → Int64} {E : Option Value → z_Sh → z_M → Prop} (hd : 74 ≤ d) (hN : N < 2000000000) (hk : k + 5 < N) (hB : yj_B b I I L L) (h : yj_H N xs d (nI k) E) : PS (yq_G N xs) yq_law d 33 [(3, .int (nI k)), (2, .ref 54), (1, .ref 0), (0, .ref 1003)] [.int (nI 7)] SH (I, L, z_R b) 0 0 E :=
  ys_p_tableIn (z_dec yq_ld0 21 rfl) (by decide) (by decide) (off := 372) rfl (t := 405) rfl (yj_k405 hd hB h)
theorem yj_c8 {N d : Nat} {xs : Nat → Int32} {k : Nat} {b : Bool} {I : Nat → Nat → Int32} {L : Nat → Nat → Int64} {E : Option Value → z_Sh → z_M → Prop} (hd : 74 ≤ d) (hN : N < 2000000000) (hk : k + 5 < N) (hB : yj_B b I I L L) (h : yj_H N xs d (nI k) E) : PS (yq_G N xs) yq_law d 33 [(3, .int (nI k)), (2, .ref 54), (1, .ref 0), (0, .ref 1003)] [.int (nI 8)] SH (I, L, z_R b) 0 0 E :=
  ys_p_tableIn (z_dec yq_ld0 21 rfl) (by decide) (by decide) (off := 385) rfl (t := 418) rfl (yj_k418 hd hB (yj_vp (j := 1) (by omega) hN) h)
theorem yj_c9 {N d : Nat} {xs : Nat → Int32} {k : Nat} {b : Bool} {I : Nat → Nat → Int32} {L : Nat → Nat → Int64} {E : Option Value → z_Sh → z_M → Prop} (hd : 74 ≤ d) (hN : N < 2000000000) (hk : k + 5 < N) (hB : yj_B b I I L L) (h : yj_H N xs d (nI k) E) : PS (yq_G N xs) yq_law d 33 [(3, .int (nI k)), (2, .ref 54), (1, .ref 0), (0, .ref 1003)] [.int (nI 9)] SH (I, L, z_R b) 0 0 E :=
  ys_p_tableIn (z_dec yq_ld0 21 rfl) (by decide) (by decide) (off := 408) rfl (t := 441) rfl (yj_k441 hd hB (yj_vp (j := 1) (by omega) hN) h)
theorem yj_c10 {N d : Nat} {xs : Nat → Int32} {k : Nat} {b : Bool} {I : Nat → Nat → Int32} {L : Nat → Nat → Int64} {E : Option Value → z_Sh → z_M → Prop} (hd : 74 ≤ d) (hN : N < 2000000000) (hk : k + 5 < N) (hB : yj_B b I I L L) (h : yj_H N xs d (nI k) E) : PS (yq_G N xs) yq_law d 33 [(3, .int (nI k)), (2, .ref 54), (1, .ref 0), (0, .ref 1003)] [.int (nI 10)] SH (I, L, z_R b) 0 0 E :=
  ys_p_tableIn (z_dec yq_ld0 21 rfl) (by decide) (by decide) (off := 431) rfl (t := 464) rfl (yj_k464 hd hB (yj_vp (j := 1) (by omega) hN) h)
theorem yj_c11 {N d : Nat} {xs : Nat → Int32} {k : Nat} {b : Bool} {I : Nat → Nat → Int32} {L : Nat → Nat → Int64} {E : Option Value → z_Sh → z_M → Prop} (hd : 74 ≤ d) (hN : N < 2000000000) (hk : k + 5 < N) (hB : yj_B b I I L L) (h : yj_H N xs d (nI k) E) : PS (yq_G N xs) yq_law d 33 [(3, .int (nI k)), (2, .ref 54), (1, .ref 0), (0, .ref 1003)] [.int (nI 11)] SH (I, L, z_R b) 0 0 E :=
  ys_p_tableIn (z_dec yq_ld0 21 rfl) (by decide) (by decide) (off := 454) rfl (t := 487) rfl (yj_k487 hd hB (yj_vp (j := 1) (by omega) hN) (yj_vp (j := 2) (by omega) hN) (yj_vp (j := 3) (by omega) hN) (yj_vp (j := 4) (by omega) hN) h)
theorem yj_c12 {N d : Nat} {xs : Nat → Int32} {k : Nat} {b : Bool} {I : Nat → Nat → Int32} {L : Nat → Nat → Int64} {E : Option Value → z_Sh → z_M → Prop} (hd : 74 ≤ d) (hN : N < 2000000000) (hk : k + 5 < N) (hB : yj_B b I I L L) (h : yj_H N xs d (nI k) E) : PS (yq_G N xs) yq_law d 33 [(3, .int (nI k)), (2, .ref 54), (1, .ref 0), (0, .ref 1003)] [.int (nI 12)] SH (I, L, z_R b) 0 0 E :=
  ys_p_tableIn (z_dec yq_ld0 21 rfl) (by decide) (by decide) (off := 507) rfl (t := 540) rfl (yj_k540 hd hB (yj_vp (j := 1) (by omega) hN) h)
theorem yj_c13 {N d : Nat} {xs : Nat → Int32} {k : Nat} {b : Bool} {I : Nat → Nat → Int32} {L : Nat → Nat → Int64} {E : Option Value → z_Sh → z_M → Prop} (hd : 74 ≤ d) (hN : N < 2000000000) (hk : k + 5 < N) (hB : yj_B b I I L L) (h : yj_H N xs d (nI k) E) : PS (yq_G N xs) yq_law d 33 [(3, .int (nI k)), (2, .ref 54), (1, .ref 0), (0, .ref 1003)] [.int (nI 13)] SH (I, L, z_R b) 0 0 E :=
  ys_p_tableIn (z_dec yq_ld0 21 rfl) (by decide) (by decide) (off := 530) rfl (t := 563) rfl (yj_k563 hd hB (yj_vp (j := 1) (by omega) hN) h)
theorem yj_c14 {N d : Nat} {xs : Nat → Int32} {k : Nat} {b : Bool} {I : Nat → Nat → Int32} {L : Nat → Nat → Int64} {E : Option Value → z_Sh → z_M → Prop} (hd : 74 ≤ d) (hN : N < 2000000000) (hk : k + 5 < N) (hB : yj_B b I I L L) (h : yj_H N xs d (nI k) E) : PS (yq_G N xs) yq_law d 33 [(3, .int (nI k)), (2, .ref 54), (1, .ref 0), (0, .ref 1003)] [.int (nI 14)] SH (I, L, z_R b) 0 0 E :=
  ys_p_tableIn (z_dec yq_ld0 21 rfl) (by decide) (by decide) (off := 553) rfl (t := 586) rfl (yj_k586 hd hB (yj_vp (j := 1) (by omega) hN) (yj_vp (j := 2) (by omega) hN) h)
theorem yj_c15 {N d : Nat} {xs : Nat → Int32} {k : Nat} {b : Bool} {I : Nat → Nat → Int32} {L : Nat → Nat → Int64} {E : Option Value → z_Sh → z_M → Prop} (hd : 74 ≤ d) (hN : N < 2000000000) (hk : k + 5 < N) (hB : yj_B b I I L L) (h : yj_H N xs d (nI k) E) : PS (yq_G N xs) yq_law d 33 [(3, .int (nI k)), (2, .ref 54), (1, .ref 0), (0, .ref 1003)] [.int (nI 15)] SH (I, L, z_R b) 0 0 E :=
  ys_p_tableIn (z_dec yq_ld0 21 rfl) (by decide) (by decide) (off := 586) rfl (t := 619) rfl (yj_k619 hd hB (yj_vp (j := 1) (by omega) hN) h)
theorem yj_c16 {N d : Nat} {xs : Nat → Int32} {k : Nat} {b : Bool} {I : Nat → Nat → Int32} {L : Nat → Nat → Int64} {E : Option Value → z_Sh → z_M → Prop} (hd : 74 ≤ d) (hN : N < 2000000000) (hk : k + 5 < N) (hB : yj_B b I I L L) (h : yj_H N xs d (nI k) E) : PS (yq_G N xs) yq_law d 33 [(3, .int (nI k)), (2, .ref 54), (1, .ref 0), (0, .ref 1003)] [.int (nI 16)] SH (I, L, z_R b) 0 0 E :=
  ys_p_tableIn (z_dec yq_ld0 21 rfl) (by decide) (by decide) (off := 609) rfl (t := 642) rfl (yj_k642 hd hB (yj_vp (j := 1) (by omega) hN) (yj_vp (j := 2) (by omega) hN) (yj_vp (j := 3) (by omega) hN) h)
theorem yj_c17 {N d : Nat} {xs : Nat → Int32} {k : Nat} {b : Bool} {I : Nat → Nat → Int32} {L : Nat → Nat → Int64} {E : Option Value → z_Sh → z_M → Prop} (hd : 74 ≤ d) (hN : N < 2000000000) (hk : k + 5 < N) (hB : yj_B b I I L L) (h : yj_H N xs d (nI k) E) : PS (yq_G N xs) yq_law d 33 [(3, .int (nI k)), (2, .ref 54), (1, .ref 0), (0, .ref 1003)] [.int (nI 17)] SH (I, L, z_R b) 0 0 E :=
  ys_p_tableIn (z_dec yq_ld0 21 rfl) (by decide) (by decide) (off := 653) rfl (t := 686) rfl (yj_k686 hd hB h)
theorem yj_c18 {N d : Nat} {xs : Nat → Int32} {k : Nat} {b : Bool} {I : Nat → Nat → Int32} {L : Nat → Nat → Int64} {E : Option Value → z_Sh → z_M → Prop} (hd : 74 ≤ d) (hN : N < 2000000000) (hk : k + 5 < N) (hB : yj_B b I I L L) (h : yj_H N xs d (nI k) E) : PS (yq_G N xs) yq_law d 33 [(3, .int (nI k)), (2, .ref 54), (1, .ref 0), (0, .ref 1003)] [.int (nI 18)] SH (I, L, z_R b) 0 0 E :=
  ys_p_tableIn (z_dec yq_ld0 21 rfl) (by decide) (by decide) (off := 666) rfl (t := 699) rfl (yj_k699 hd hB (yj_vp (j := 1) (by omega) hN) (yj_vp (j := 2) (by omega) hN) (yj_vp (j := 3) (by omega) hN) h)
theorem yj_c19 {N d : Nat} {xs : Nat → Int32} {k : Nat} {b : Bool} {I : Nat → Nat → Int32} {L : Nat → Nat → Int64} {E : Option Value → z_Sh → z_M → Prop} (hd : 74 ≤ d) (hN : N < 2000000000) (hk : k + 5 < N) (hB : yj_B b I I L L) (h : yj_H N xs d (nI k) E) : PS (yq_G N xs) yq_law d 33 [(3, .int (nI k)), (2, .ref 54), (1, .ref 0), (0, .ref 1003)] [.int (nI 19)] SH (I, L, z_R b) 0 0 E :=
  ys_p_tableIn (z_dec yq_ld0 21 rfl) (by decide) (by decide) (off := 710) rfl (t := 743) rfl (yj_k743 hd hB (yj_vp (j := 1) (by omega) hN) (yj_vp (j := 2) (by omega) hN) (yj_vp (j := 3) (by omega) hN) h)
theorem yj_c20 {N d : Nat} {xs : Nat → Int32} {k : Nat} {b : Bool} {I : Nat → Nat → Int32} {L : Nat → Nat → Int64} {E : Option Value → z_Sh → z_M → Prop} (hd : 74 ≤ d) (hN : N < 2000000000) (hk : k + 5 < N) (hB : yj_B b I I L L) (h : yj_H N xs d (nI k) E) : PS (yq_G N xs) yq_law d 33 [(3, .int (nI k)), (2, .ref 54), (1, .ref 0), (0, .ref 1003)] [.int (nI 20)] SH (I, L, z_R b) 0 0 E :=
  ys_p_tableIn (z_dec yq_ld0 21 rfl) (by decide) (by decide) (off := 753) rfl (t := 786) rfl (yj_k786 hd hB (yj_vp (j := 1) (by omega) hN) (yj_vp (j := 2) (by omega) hN) (yj_vp (j := 3) (by omega) hN) (yj_vp (j := 4) (by omega) hN) h)
theorem yj_c21 {N d : Nat} {xs : Nat → Int32} {k : Nat} {b : Bool} {I : Nat → Nat → Int32} {L : Nat → Nat → Int64} {E : Option Value → z_Sh → z_M → Prop} (hd : 74 ≤ d) (hN : N < 2000000000) (hk : k + 5 < N) (hB : yj_B b I I L L) (h : yj_H N xs d (nI k) E) : PS (yq_G N xs) yq_law d 33 [(3, .int (nI k)), (2, .ref 54), (1, .ref 0), (0, .ref 1003)] [.int (nI 21)] SH (I, L, z_R b) 0 0 E :=
  ys_p_tableIn (z_dec yq_ld0 21 rfl) (by decide) (by decide) (off := 806) rfl (t := 839) rfl (yj_k839 hd hB (yj_vp (j := 1) (by omega) hN) h)
theorem yj_c22 {N d : Nat} {xs : Nat → Int32} {k : Nat} {b : Bool} {I : Nat → Nat → Int32} {L : Nat → Nat → Int64} {E : Option Value → z_Sh → z_M → Prop} (hd : 74 ≤ d) (hN : N < 2000000000) (hk : k + 5 < N) (hB : yj_B b I I L L) (h : yj_H N xs d (nI k) E) : PS (yq_G N xs) yq_law d 33 [(3, .int (nI k)), (2, .ref 54), (1, .ref 0), (0, .ref 1003)] [.int (nI 22)] SH (I, L, z_R b) 0 0 E :=
  ys_p_tableIn (z_dec yq_ld0 21 rfl) (by decide) (by decide) (off := 829) rfl (t := 862) rfl (yj_k862 hd hB (yj_vp (j := 1) (by omega) hN) h)
theorem yj_c23 {N d : Nat} {xs : Nat → Int32} {k : Nat} {b : Bool} {I : Nat → Nat → Int32} {L : Nat → Nat → Int64} {E : Option Value → z_Sh → z_M → Prop} (hd : 74 ≤ d) (hN : N < 2000000000) (hk : k + 5 < N) (hB : yj_B b I I L L) (h : yj_H N xs d (nI k) E) : PS (yq_G N xs) yq_law d 33 [(3, .int (nI k)), (2, .ref 54), (1, .ref 0), (0, .ref 1003)] [.int (nI 23)] SH (I, L, z_R b) 0 0 E :=
  ys_p_tableIn (z_dec yq_ld0 21 rfl) (by decide) (by decide) (off := 852) rfl (t := 885) rfl (yj_k885 hd hB h)
theorem yj_c24 {N d : Nat} {xs : Nat → Int32} {k : Nat} {b : Bool} {I : Nat → Nat → Int32} {L : Nat → Nat → Int64} {E : Option Value → z_Sh → z_M → Prop} (hd : 74 ≤ d) (hN : N < 2000000000) (hk : k + 5 < N) (hB : yj_B b I I L L) (h : yj_H N xs d (nI k) E) : PS (yq_G N xs) yq_law d 33 [(3, .int (nI k)), (2, .ref 54), (1, .ref 0), (0, .ref 1003)] [.int (nI 24)] SH (I, L, z_R b) 0 0 E :=
  ys_p_tableIn (z_dec yq_ld0 21 rfl) (by decide) (by decide) (off := 865) rfl (t := 898) rfl (yj_k898 hd hB (yj_vp (j := 1) (by omega) hN) h)
theorem yj_c25 {N d : Nat} {xs : Nat → Int32} {k : Nat} {b : Bool} {I : Nat → Nat → Int32} {L : Nat → Nat → Int64} {E : Option Value → z_Sh → z_M → Prop} (hd : 74 ≤ d) (hN : N < 2000000000) (hk : k + 5 < N) (hB : yj_B b I I L L) (h : yj_H N xs d (nI k) E) : PS (yq_G N xs) yq_law d 33 [(3, .int (nI k)), (2, .ref 54), (1, .ref 0), (0, .ref 1003)] [.int (nI 25)] SH (I, L, z_R b) 0 0 E :=
  ys_p_tableIn (z_dec yq_ld0 21 rfl) (by decide) (by decide) (off := 888) rfl (t := 921) rfl (yj_k921 hd hB h)
theorem yj_c26 {N d : Nat} {xs : Nat → Int32} {k : Nat} {b : Bool} {I : Nat → Nat → Int32} {L : Nat → Nat → Int64} {E : Option Value → z_Sh → z_M → Prop} (hd : 74 ≤ d) (hN : N < 2000000000) (hk : k + 5 < N) (hB : yj_B b I I L L) (h : yj_H N xs d (nI k) E) : PS (yq_G N xs) yq_law d 33 [(3, .int (nI k)), (2, .ref 54), (1, .ref 0), (0, .ref 1003)] [.int (nI 26)] SH (I, L, z_R b) 0 0 E :=
  ys_p_tableIn (z_dec yq_ld0 21 rfl) (by decide) (by decide) (off := 901) rfl (t := 934) rfl (yj_k934 hd hB h)
theorem yj_c27 {N d : Nat} {xs : Nat → Int32} {k : Nat} {b : Bool} {I : Nat → Nat → Int32} {L : Nat → Nat → Int64} {E : Option Value → z_Sh → z_M → Prop} (hd : 74 ≤ d) (hN : N < 2000000000) (hk : k + 5 < N) (hB : yj_B b I I L L) (h : yj_H N xs d (nI k) E) : PS (yq_G N xs) yq_law d 33 [(3, .int (nI k)), (2, .ref 54), (1, .ref 0), (0, .ref 1003)] [.int (nI 27)] SH (I, L, z_R b) 0 0 E :=
  ys_p_tableIn (z_dec yq_ld0 21 rfl) (by decide) (by decide) (off := 914) rfl (t := 947) rfl (yj_k947 hd hB h)
theorem yj_c28 {N d : Nat} {xs : Nat → Int32} {k : Nat} {b : Bool} {I : Nat → Nat → Int32} {L : Nat → Nat → Int64} {E : Option Value → z_Sh → z_M → Prop} (hd : 74 ≤ d) (hN : N < 2000000000) (hk : k + 5 < N) (hB : yj_B b I I L L) (h : yj_H N xs d (nI k) E) : PS (yq_G N xs) yq_law d 33 [(3, .int (nI k)), (2, .ref 54), (1, .ref 0), (0, .ref 1003)] [.int (nI 28)] SH (I, L, z_R b) 0 0 E :=
  ys_p_tableIn (z_dec yq_ld0 21 rfl) (by decide) (by decide) (off := 927) rfl (t := 960) rfl (yj_k960 hd hB h)
theorem yj_c29 {N d : Nat} {xs : Nat → Int32} {k : Nat} {b : Bool} {I : Nat → Nat → Int32} {L : Nat → Nat → Int64} {E : Option Value → z_Sh → z_M → Prop} (hd : 74 ≤ d) (hN : N < 2000000000) (hk : k + 5 < N) (hB : yj_B b I I L L) (h : yj_H N xs d (nI k) E) : PS (yq_G N xs) yq_law d 33 [(3, .int (nI k)), (2, .ref 54), (1, .ref 0), (0, .ref 1003)] [.int (nI 29)] SH (I, L, z_R b) 0 0 E :=
  ys_p_tableIn (z_dec yq_ld0 21 rfl) (by decide) (by decide) (off := 940) rfl (t := 973) rfl (yj_k973 hd hB (yj_vp (j := 1) (by omega) hN) h)
theorem yj_c30 {N d : Nat} {xs : Nat → Int32} {k : Nat} {b : Bool} {I : Nat → Nat → Int32} {L : Nat → Nat → Int64} {E : Option Value → z_Sh → z_M → Prop} (hd : 74 ≤ d) (hN : N < 2000000000) (hk : k + 5 < N) (hB : yj_B b I I L L) (h : yj_H N xs d (nI k) E) : PS (yq_G N xs) yq_law d 33 [(3, .int (nI k)), (2, .ref 54), (1, .ref 0), (0, .ref 1003)] [.int (nI 30)] SH (I, L, z_R b) 0 0 E :=
  ys_p_tableIn (z_dec yq_ld0 21 rfl) (by decide) (by decide) (off := 963) rfl (t := 996) rfl (yj_k996 hd hB (yj_vp (j := 1) (by omega) hN) (yj_vp (j := 2) (by omega) hN) (yj_vp (j := 3) (by omega) hN) h)
theorem yj_c31 {N d : Nat} {xs : Nat → Int32} {k : Nat} {b : Bool} {I : Nat → Nat → Int32} {L : Nat → Nat → Int64} {E : Option Value → z_Sh → z_M → Prop} (hd : 74 ≤ d) (hN : N < 2000000000) (hk : k + 5 < N) (hB : yj_B b I I L L) (h : yj_H N xs d (nI k) E) : PS (yq_G N xs) yq_law d 33 [(3, .int (nI k)), (2, .ref 54), (1, .ref 0), (0, .ref 1003)] [.int (nI 31)] SH (I, L, z_R b) 0 0 E :=
  ys_p_tableIn (z_dec yq_ld0 21 rfl) (by decide) (by decide) (off := 1006) rfl (t := 1039) rfl (yj_k1039 hd hB (yj_vp (j := 1) (by omega) hN) h)
theorem yj_c32 {N d : Nat} {xs : Nat → Int32} {k : Nat} {b : Bool} {I : Nat → Nat → Int32} {L : Nat → Nat → Int64} {E : Option Value → z_Sh → z_M → Prop} (hd : 74 ≤ d) (hN : N < 2000000000) (hk : k + 5 < N) (hB : yj_B b I I L L) (h : yj_H N xs d (nI k) E) : PS (yq_G N xs) yq_law d 33 [(3, .int (nI k)), (2, .ref 54), (1, .ref 0), (0, .ref 1003)] [.int (nI 32)] SH (I, L, z_R b) 0 0 E :=
  ys_p_tableIn (z_dec yq_ld0 21 rfl) (by decide) (by decide) (off := 1029) rfl (t := 1062) rfl (yj_k1062 hd hB (yj_vp (j := 1) (by omega) hN) (yj_vp (j := 2) (by omega) hN) h)
theorem yj_c33 {N d : Nat} {xs : Nat → Int32} {k : Nat} {b : Bool} {I : Nat → Nat → Int32} {L : Nat → Nat → Int64} {E : Option Value → z_Sh → z_M → Prop} (hd : 74 ≤ d) (hN : N < 2000000000) (hk : k + 5 < N) (hB : yj_B b I I L L) (h : yj_H N xs d (nI k) E) : PS (yq_G N xs) yq_law d 33 [(3, .int (nI k)), (2, .ref 54), (1, .ref 0), (0, .ref 1003)] [.int (nI 33)] SH (I, L, z_R b) 0 0 E :=
  ys_p_tableIn (z_dec yq_ld0 21 rfl) (by decide) (by decide) (off := 1062) rfl (t := 1095) rfl (yj_k1095 hd hB (yj_vp (j := 1) (by omega) hN) (yj_vp (j := 2) (by omega) hN) (yj_vp (j := 3) (by omega) hN) h)
theorem yj_c34 {N d : Nat} {xs : Nat → Int32} {k : Nat} {b : Bool} {I : Nat → Nat → Int32} {L : Nat → Nat → Int64} {E : Option Value → z_Sh → z_M → Prop} (hd : 74 ≤ d) (hN : N < 2000000000) (hk : k + 5 < N) (hB : yj_B b I I L L) (h : yj_H N xs d (nI k) E) : PS (yq_G N xs) yq_law d 33 [(3, .int (nI k)), (2, .ref 54), (1, .ref 0), (0, .ref 1003)] [.int (nI 34)] SH (I, L, z_R b) 0 0 E :=
  ys_p_tableIn (z_dec yq_ld0 21 rfl) (by decide) (by decide) (off := 1105) rfl (t := 1138) rfl (yj_k1138 hd hB (yj_vp (j := 1) (by omega) hN) (yj_vp (j := 2) (by omega) hN) (yj_vp (j := 3) (by omega) hN) (yj_vp (j := 4) (by omega) hN) h)
theorem yj_c35 {N d : Nat} {xs : Nat → Int32} {k : Nat} {b : Bool} {I : Nat → Nat → Int32} {L : Nat → Nat → Int64} {E : Option Value → z_Sh → z_M → Prop} (hd : 74 ≤ d) (hN : N < 2000000000) (hk : k + 5 < N) (hB : yj_B b I I L L) (h : yj_H N xs d (nI k) E) : PS (yq_G N xs) yq_law d 33 [(3, .int (nI k)), (2, .ref 54), (1, .ref 0), (0, .ref 1003)] [.int (nI 35)] SH (I, L, z_R b) 0 0 E :=
  ys_p_tableIn (z_dec yq_ld0 21 rfl) (by decide) (by decide) (off := 1178) rfl (t := 1211) rfl (yj_k1211 hd hB (yj_vp (j := 1) (by omega) hN) (yj_vp (j := 2) (by omega) hN) h)
theorem yj_c36 {N d : Nat} {xs : Nat → Int32} {k : Nat} {b : Bool} {I : Nat → Nat → Int32} {L : Nat → Nat → Int64} {E : Option Value → z_Sh → z_M → Prop} (hd : 74 ≤ d) (hN : N < 2000000000) (hk : k + 5 < N) (hB : yj_B b I I L L) (h : yj_H N xs d (nI k) E) : PS (yq_G N xs) yq_law d 33 [(3, .int (nI k)), (2, .ref 54), (1, .ref 0), (0, .ref 1003)] [.int (nI 36)] SH (I, L, z_R b) 0 0 E :=
  ys_p_tableIn (z_dec yq_ld0 21 rfl) (by decide) (by decide) (off := 1212) rfl (t := 1245) rfl (yj_k1245 hd hB (yj_vp (j := 1) (by omega) hN) (yj_vp (j := 2) (by omega) hN) (yj_vp (j := 3) (by omega) hN) (yj_vp (j := 4) (by omega) hN) (yj_vp (j := 5) (by omega) hN) h)
theorem yj_c37 {N d : Nat} {xs : Nat → Int32} {k : Nat} {b : Bool} {I : Nat → Nat → Int32} {L : Nat → Nat → Int64} {E : Option Value → z_Sh → z_M → Prop} (hd : 74 ≤ d) (hN : N < 2000000000) (hk : k + 5 < N) (hB : yj_B b I I L L) (h : yj_H N xs d (nI k) E) : PS (yq_G N xs) yq_law d 33 [(3, .int (nI k)), (2, .ref 54), (1, .ref 0), (0, .ref 1003)] [.int (nI 37)] SH (I, L, z_R b) 0 0 E :=
  ys_p_tableIn (z_dec yq_ld0 21 rfl) (by decide) (by decide) (off := 1275) rfl (t := 1308) rfl (yj_k1308 hd hB (yj_vp (j := 1) (by omega) hN) (yj_vp (j := 2) (by omega) hN) h)
theorem yj_c38 {N d : Nat} {xs : Nat → Int32} {k : Nat} {b : Bool} {I : Nat → Nat → Int32} {L : Nat → Nat → Int64} {E : Option Value → z_Sh → z_M → Prop} (hd : 74 ≤ d) (hN : N < 2000000000) (hk : k + 5 < N) (hB : yj_B b I I L L) (h : yj_H N xs d (nI k) E) : PS (yq_G N xs) yq_law d 33 [(3, .int (nI k)), (2, .ref 54), (1, .ref 0), (0, .ref 1003)] [.int (nI 38)] SH (I, L, z_R b) 0 0 E :=
  ys_p_tableIn (z_dec yq_ld0 21 rfl) (by decide) (by decide) (off := 1308) rfl (t := 1341) rfl (yj_k1341 hd hB (yj_vp (j := 1) (by omega) hN) h)
theorem yj_case {N d : Nat} {xs : Nat → Int32} {k : Nat} {b : Bool} {I : Nat → Nat → Int32} {L : Nat → Nat → Int64} {E : Option Value → z_Sh → z_M → Prop} (hd : 74 ≤ d) (hN : N < 2000000000) (hk : k + 5 < N) (hB : yj_B b I I L L) (h : yj_H N xs d (nI k) E) : ∀ c : Nat, c ≤ 63 → PS (yq_G N xs) yq_law d 33 [(3, .int (nI k)), (2, .ref 54), (1, .ref 0), (0, .ref 1003)] [.int (nI c)] SH (I, L, z_R b) 0 0 E
  | 0, _ => yj_c0 hd hN hk hB h
  | 1, _ => yj_c1 hd hN hk hB h
  | 2, _ => yj_c2 hd hN hk hB h
  | 3, _ => yj_c3 hd hN hk hB h
  | 4, _ => yj_c4 hd hN hk hB h
  | 5, _ => yj_c5 hd hN hk hB h
  | 6, _ => yj_c6 hd hN hk hB h
  | 7, _ => yj_c7 hd hN hk hB h
  | 8, _ => yj_c8 hd hN hk hB h
  | 9, _ => yj_c9 hd hN hk hB h
  | 10, _ => yj_c10 hd hN hk hB h
  | 11, _ => yj_c11 hd hN hk hB h
  | 12, _ => yj_c12 hd hN hk hB h
  | 13, _ => yj_c13 hd hN hk hB h
  | 14, _ => yj_c14 hd hN hk hB h
  | 15, _ => yj_c15 hd hN hk hB h
  | 16, _ => yj_c16 hd hN hk hB h
  | 17, _ => yj_c17 hd hN hk hB h
  | 18, _ => yj_c18 hd hN hk hB h
  | 19, _ => yj_c19 hd hN hk hB h
  | 20, _ => yj_c20 hd hN hk hB h
  | 21, _ => yj_c21 hd hN hk hB h
  | 22, _ => yj_c22 hd hN hk hB h
  | 23, _ => yj_c23 hd hN hk hB h
  | 24, _ => yj_c24 hd hN hk hB h
  | 25, _ => yj_c25 hd hN hk hB h
  | 26, _ => yj_c26 hd hN hk hB h
  | 27, _ => yj_c27 hd hN hk hB h
  | 28, _ => yj_c28 hd hN hk hB h
  | 29, _ => yj_c29 hd hN hk hB h
  | 30, _ => yj_c30 hd hN hk hB h
  | 31, _ => yj_c31 hd hN hk hB h
  | 32, _ => yj_c32 hd hN hk hB h
  | 33, _ => yj_c33 hd hN hk hB h
  | 34, _ => yj_c34 hd hN hk hB h
  | 35, _ => yj_c35 hd hN hk hB h
  | 36, _ => yj_c36 hd hN hk hB h
  | 37, _ => yj_c37 hd hN hk hB h
  | 38, _ => yj_c38 hd hN hk hB h
  | c + 39, hc => ys_p_tableOut (z_dec yq_ld0 21 rfl) (Or.inr (by rw [nI_toInt (by omega)]; omega)) (t := 1364) rfl (h b I L hB)
