theorem z_fit {M n i : Int32} {m : Nat} (hM : M = nI m) (hm : m ≤ 60) (h1 : ¬ n < 0) (h2 : ¬ i < 0) (h3 : ¬ M - n < i) : (i = nI i.toNatClampNeg ∧ n = nI n.toNatClampNeg) ∧ i.toNatClampNeg + n.toNatClampNeg ≤ m := by
  subst hM
  obtain ⟨j, hj, rfl⟩ := nI_of h2
  obtain ⟨q, hq, rfl⟩ := nI_of h1
  rw [nI_clamp hj, nI_clamp hq]
  refine ⟨⟨rfl, rfl⟩, ?_⟩
  rw [Int32.lt_iff_toInt_lt, nI_toInt hj] at h3
  have e : (nI m - nI q).toInt = (m : Int) - q := by
    rw [Int32.toInt_sub, nI_toInt (by omega), nI_toInt hq, Int.bmod_def]
    omega
  rw [e] at h3
  omega
def gb_X9_shift_113 (L : Nat → Nat → Int64) (sh : Int32) (i : Int32) (i113 : Nat) (s : (Nat → Nat → Int64)) : (Nat → Nat → Int64) := (z_up s 78 i113 (s 77 (((60 * sh.toNatClampNeg) + i.toNatClampNeg) + i113)))
def g_X9_shift_113 (L : Nat → Nat → Int64) (sh : Int32) (i : Int32) : Nat → (Nat → Nat → Int64)
  | 0 => L
  | i113 + 1 => gb_X9_shift_113 L sh i i113 (g_X9_shift_113 L sh i i113)
def gb_X9_shift_150 (L : Nat → Nat → Int64) (sh : Int32) (i : Int32) (ot : Int32) (j : Int32) (n : Int32) (i150 : Nat) (s : (Nat → Nat → Int64)) : (Nat → Nat → Int64) := (z_up s 77 (((60 * ot.toNatClampNeg) + j.toNatClampNeg) + i150) (s 78 i150))
def g_X9_shift_150 (L : Nat → Nat → Int64) (sh : Int32) (i : Int32) (ot : Int32) (j : Int32) (n : Int32) : Nat → (Nat → Nat → Int64)
  | 0 => (g_X9_shift_113 L sh i n.toNatClampNeg)
  | i150 + 1 => gb_X9_shift_150 L sh i ot j n i150 (g_X9_shift_150 L sh i ot j n i150)
def f_X9_shift (I : Nat → Nat → Int32) (L : Nat → Nat → Int64) (sh : Int32) (i : Int32) (ot : Int32) (j : Int32) (n : Int32) : Int32 := if (f_X9_isShelf sh) = 0 then (-1) else if (f_X9_isShelf ot) = 0 then (-1) else if (I 75 sh.toNatClampNeg) < 0 then (-11) else if 0 ≤ (I 75 ot.toNatClampNeg) then if (I 75 sh.toNatClampNeg) < 50 then (-12) else if (I 75 sh.toNatClampNeg) = (I 75 ot.toNatClampNeg) then if n < 0 then (-13) else if i < 0 then (-13) else if j < 0 then (-13) else if ((I 76 sh.toNatClampNeg) - n) < i then (-13) else if j ≤ ((I 76 ot.toNatClampNeg) - n) then n else (-13) else (-12) else (-11)
def n_X9_shift (I : Nat → Nat → Int32) (L : Nat → Nat → Int64) (sh : Int32) (i : Int32) (ot : Int32) (j : Int32) (n : Int32) : Nat → Nat → Int64 := if (f_X9_isShelf sh) = 0 then L else if (f_X9_isShelf ot) = 0 then L else if (I 75 sh.toNatClampNeg) < 0 then L else if 0 ≤ (I 75 ot.toNatClampNeg) then if (I 75 sh.toNatClampNeg) < 50 then L else if (I 75 sh.toNatClampNeg) = (I 75 ot.toNatClampNeg) then if n < 0 then L else if i < 0 then L else if j < 0 then L else if ((I 76 sh.toNatClampNeg) - n) < i then L else if j ≤ ((I 76 ot.toNatClampNeg) - n) then (g_X9_shift_150 L sh i ot j n n.toNatClampNeg) else L else L else L
set_option maxHeartbeats 2000000 in
set_option maxRecDepth 100000 in
theorem c_X9_shift (d : Nat) (hd : 2 ≤ d) (b : Bool) (I : Nat → Nat → Int32) (L : Nat → Nat → Int64) (sh : Int32) (i : Int32) (ot : Int32) (j : Int32) (n : Int32) (hmn : ∀ j, j < 6 → I 76 j = nI (I 76 j).toNatClampNeg ∧ (I 76 j).toNatClampNeg ≤ 60) : z_CT zm_X9_shift d [.ref 54, .int sh, .int i, .int ot, .int j, .int n] SH (I, L, z_R b) 0 0 (z_ret (some (.int (f_X9_shift I L sh i ot j n))) (I, (n_X9_shift I L sh i ot j n), z_R b)) := by
  refine z_enter (by decide +kernel) (Nat.le_of_ble_eq_true rfl) ?_
  have hentry : PW zm_X9_shift d 0 [(0, .ref 54), (1, .int sh), (2, .int i), (3, .int ot), (4, .int j), (5, .int n)] [] SH (I, L, z_R b) 0 0 (z_ret (some (.int (f_X9_shift I L sh i ot j n))) (I, (n_X9_shift I L sh i ot j n), z_R b)) := by
    refine p_iload_n (z_dec zd_X9_shift 0 rfl) rfl 1 rfl (n := 1) rfl ?_
    refine q_callS (As := [.int sh]) (rest := []) (z_dec zd_X9_shift 1 rfl) zk_X9_113 zs_X9_isShelf (c_X9_isShelf (d - 1) (by omega) b I L sh) rfl rfl (Nat.le_of_ble_eq_true rfl) (by omega) (n := 4) rfl ?_
    show PW zm_X9_shift d 4 [(0, .ref 54), (1, .int sh), (2, .int i), (3, .int ot), (4, .int j), (5, .int n)] [.int (f_X9_isShelf sh)] SH (I, L, z_R b) 0 0 _
    refine p_if_eq (z_dec zd_X9_shift 2 rfl) (t := 14) (by decide) (n := 7) rfl (fun h4 => ?_) (fun h4 => ?_)
    · refine p_iconst (z_dec zd_X9_shift 6 rfl) (v := (-1)) (by decide) (n := 15) rfl ?_
      exact p_iret (z_dec zd_X9_shift 7 rfl) rfl ⟨(by unfold f_X9_shift; rw [if_pos h4]), rfl, (z_3 rfl (by unfold n_X9_shift; rw [if_pos h4]))⟩
    · have hj_sh := z_shf h4
      refine p_iload_n (z_dec zd_X9_shift 3 rfl) rfl 3 rfl (n := 8) rfl ?_
      refine q_callS (As := [.int ot]) (rest := []) (z_dec zd_X9_shift 4 rfl) zk_X9_113 zs_X9_isShelf (c_X9_isShelf (d - 1) (by omega) b I L ot) rfl rfl (Nat.le_of_ble_eq_true rfl) (by omega) (n := 11) rfl ?_
      show PW zm_X9_shift d 11 [(0, .ref 54), (1, .int sh), (2, .int i), (3, .int ot), (4, .int j), (5, .int n)] [.int (f_X9_isShelf ot)] SH (I, L, z_R b) 0 0 _
      refine p_if_ne (z_dec zd_X9_shift 5 rfl) (t := 16) (by decide) (n := 14) rfl (fun h11 => ?_) (fun h11 => ?_)
      · have hj_ot := z_shf h11
        refine p_aload_n (z_dec zd_X9_shift 8 rfl) rfl 0 rfl (n := 17) rfl ?_
        refine q_getR (z_dec zd_X9_shift 9 rfl) zf_X9_70 (i := 75) rfl rfl (n := 20) rfl ?_
        refine p_iload_n (z_dec zd_X9_shift 10 rfl) rfl 1 rfl (n := 21) rfl ?_
        refine q_iald (z_dec zd_X9_shift 11 rfl) rfl (by decide) (sh.toNatClampNeg) hj_sh.1 (by omega) (v := (I 75 sh.toNatClampNeg)) rfl (n := 22) rfl ?_
        refine p_if_lt (z_dec zd_X9_shift 12 rfl) (t := 34) (by decide) (n := 25) rfl (fun h22 => ?_) (fun h22 => ?_)
        · refine p_bipush (z_dec zd_X9_shift 18 rfl) (v := (-11)) (by decide) (n := 36) rfl ?_
          exact p_iret (z_dec zd_X9_shift 19 rfl) rfl ⟨(by unfold f_X9_shift; rw [if_neg h4, if_neg h11, if_pos h22]), rfl, (z_3 rfl (by unfold n_X9_shift; rw [if_neg h4, if_neg h11, if_pos h22]))⟩
        · refine p_aload_n (z_dec zd_X9_shift 13 rfl) rfl 0 rfl (n := 26) rfl ?_
          refine q_getR (z_dec zd_X9_shift 14 rfl) zf_X9_70 (i := 75) rfl rfl (n := 29) rfl ?_
          refine p_iload_n (z_dec zd_X9_shift 15 rfl) rfl 3 rfl (n := 30) rfl ?_
          refine q_iald (z_dec zd_X9_shift 16 rfl) rfl (by decide) (ot.toNatClampNeg) hj_ot.1 (by omega) (v := (I 75 ot.toNatClampNeg)) rfl (n := 31) rfl ?_
          refine p_if_ge (z_dec zd_X9_shift 17 rfl) (t := 37) (by decide) (n := 34) rfl (fun h31 => ?_) (fun h31 => ?_)
          · refine p_aload_n (z_dec zd_X9_shift 20 rfl) rfl 0 rfl (n := 38) rfl ?_
            refine q_getR (z_dec zd_X9_shift 21 rfl) zf_X9_70 (i := 75) rfl rfl (n := 41) rfl ?_
            refine p_iload_n (z_dec zd_X9_shift 22 rfl) rfl 1 rfl (n := 42) rfl ?_
            refine q_iald (z_dec zd_X9_shift 23 rfl) rfl (by decide) (sh.toNatClampNeg) hj_sh.1 (by omega) (v := (I 75 sh.toNatClampNeg)) rfl (n := 43) rfl ?_
            refine p_bipush (z_dec zd_X9_shift 24 rfl) (v := 50) (by decide) (n := 45) rfl ?_
            refine p_icmp_lt (z_dec zd_X9_shift 25 rfl) (t := 63) (by decide) (n := 48) rfl (fun h45 => ?_) (fun h45 => ?_)
            · refine p_bipush (z_dec zd_X9_shift 35 rfl) (v := (-12)) (by decide) (n := 65) rfl ?_
              exact p_iret (z_dec zd_X9_shift 36 rfl) rfl ⟨(by unfold f_X9_shift; rw [if_neg h4, if_neg h11, if_neg h22, if_pos h31, if_pos h45]), rfl, (z_3 rfl (by unfold n_X9_shift; rw [if_neg h4, if_neg h11, if_neg h22, if_pos h31, if_pos h45]))⟩
            · refine p_aload_n (z_dec zd_X9_shift 26 rfl) rfl 0 rfl (n := 49) rfl ?_
              refine q_getR (z_dec zd_X9_shift 27 rfl) zf_X9_70 (i := 75) rfl rfl (n := 52) rfl ?_
              refine p_iload_n (z_dec zd_X9_shift 28 rfl) rfl 1 rfl (n := 53) rfl ?_
              refine q_iald (z_dec zd_X9_shift 29 rfl) rfl (by decide) (sh.toNatClampNeg) hj_sh.1 (by omega) (v := (I 75 sh.toNatClampNeg)) rfl (n := 54) rfl ?_
              refine p_aload_n (z_dec zd_X9_shift 30 rfl) rfl 0 rfl (n := 55) rfl ?_
              refine q_getR (z_dec zd_X9_shift 31 rfl) zf_X9_70 (i := 75) rfl rfl (n := 58) rfl ?_
              refine p_iload_n (z_dec zd_X9_shift 32 rfl) rfl 3 rfl (n := 59) rfl ?_
              refine q_iald (z_dec zd_X9_shift 33 rfl) rfl (by decide) (ot.toNatClampNeg) hj_ot.1 (by omega) (v := (I 75 ot.toNatClampNeg)) rfl (n := 60) rfl ?_
              refine p_icmp_eq (z_dec zd_X9_shift 34 rfl) (t := 66) (by decide) (n := 63) rfl (fun h60 => ?_) (fun h60 => ?_)
              · refine p_iload (z_dec zd_X9_shift 37 rfl) 5 rfl (n := 68) rfl ?_
                refine p_if_lt (z_dec zd_X9_shift 38 rfl) (t := 107) (by decide) (n := 71) rfl (fun h68 => ?_) (fun h68 => ?_)
                · refine p_bipush (z_dec zd_X9_shift 59 rfl) (v := (-13)) (by decide) (n := 109) rfl ?_
                  exact p_iret (z_dec zd_X9_shift 60 rfl) rfl ⟨(by unfold f_X9_shift; rw [if_neg h4, if_neg h11, if_neg h22, if_pos h31, if_neg h45, if_pos h60, if_pos h68]), rfl, (z_3 rfl (by unfold n_X9_shift; rw [if_neg h4, if_neg h11, if_neg h22, if_pos h31, if_neg h45, if_pos h60, if_pos h68]))⟩
                · refine p_iload_n (z_dec zd_X9_shift 39 rfl) rfl 2 rfl (n := 72) rfl ?_
                  refine p_if_lt (z_dec zd_X9_shift 40 rfl) (t := 107) (by decide) (n := 75) rfl (fun h72 => ?_) (fun h72 => ?_)
                  · refine p_bipush (z_dec zd_X9_shift 59 rfl) (v := (-13)) (by decide) (n := 109) rfl ?_
                    exact p_iret (z_dec zd_X9_shift 60 rfl) rfl ⟨(by unfold f_X9_shift; rw [if_neg h4, if_neg h11, if_neg h22, if_pos h31, if_neg h45, if_pos h60, if_neg h68, if_pos h72]), rfl, (z_3 rfl (by unfold n_X9_shift; rw [if_neg h4, if_neg h11, if_neg h22, if_pos h31, if_neg h45, if_pos h60, if_neg h68, if_pos h72]))⟩
                  · refine p_iload (z_dec zd_X9_shift 41 rfl) 4 rfl (n := 77) rfl ?_
                    refine p_if_lt (z_dec zd_X9_shift 42 rfl) (t := 107) (by decide) (n := 80) rfl (fun h77 => ?_) (fun h77 => ?_)
                    · refine p_bipush (z_dec zd_X9_shift 59 rfl) (v := (-13)) (by decide) (n := 109) rfl ?_
                      exact p_iret (z_dec zd_X9_shift 60 rfl) rfl ⟨(by unfold f_X9_shift; rw [if_neg h4, if_neg h11, if_neg h22, if_pos h31, if_neg h45, if_pos h60, if_neg h68, if_neg h72, if_pos h77]), rfl, (z_3 rfl (by unfold n_X9_shift; rw [if_neg h4, if_neg h11, if_neg h22, if_pos h31, if_neg h45, if_pos h60, if_neg h68, if_neg h72, if_pos h77]))⟩
                    · refine p_iload_n (z_dec zd_X9_shift 43 rfl) rfl 2 rfl (n := 81) rfl ?_
                      refine p_aload_n (z_dec zd_X9_shift 44 rfl) rfl 0 rfl (n := 82) rfl ?_
                      refine q_getR (z_dec zd_X9_shift 45 rfl) zf_X9_73 (i := 76) rfl rfl (n := 85) rfl ?_
                      refine p_iload_n (z_dec zd_X9_shift 46 rfl) rfl 1 rfl (n := 86) rfl ?_
                      refine q_iald (z_dec zd_X9_shift 47 rfl) rfl (by decide) (sh.toNatClampNeg) hj_sh.1 (by omega) (v := (I 76 sh.toNatClampNeg)) rfl (n := 87) rfl ?_
                      refine p_iload (z_dec zd_X9_shift 48 rfl) 5 rfl (n := 89) rfl ?_
                      refine p_isub (z_dec zd_X9_shift 49 rfl) (n := 90) rfl ?_
                      refine p_icmp_gt (z_dec zd_X9_shift 50 rfl) (t := 107) (by decide) (n := 93) rfl (fun h90 => ?_) (fun h90 => ?_)
                      · refine p_bipush (z_dec zd_X9_shift 59 rfl) (v := (-13)) (by decide) (n := 109) rfl ?_
                        exact p_iret (z_dec zd_X9_shift 60 rfl) rfl ⟨(by unfold f_X9_shift; rw [if_neg h4, if_neg h11, if_neg h22, if_pos h31, if_neg h45, if_pos h60, if_neg h68, if_neg h72, if_neg h77, if_pos h90]), rfl, (z_3 rfl (by unfold n_X9_shift; rw [if_neg h4, if_neg h11, if_neg h22, if_pos h31, if_neg h45, if_pos h60, if_neg h68, if_neg h72, if_neg h77, if_pos h90]))⟩
                      · refine p_iload (z_dec zd_X9_shift 51 rfl) 4 rfl (n := 95) rfl ?_
                        refine p_aload_n (z_dec zd_X9_shift 52 rfl) rfl 0 rfl (n := 96) rfl ?_
                        refine q_getR (z_dec zd_X9_shift 53 rfl) zf_X9_73 (i := 76) rfl rfl (n := 99) rfl ?_
                        refine p_iload_n (z_dec zd_X9_shift 54 rfl) rfl 3 rfl (n := 100) rfl ?_
                        refine q_iald (z_dec zd_X9_shift 55 rfl) rfl (by decide) (ot.toNatClampNeg) hj_ot.1 (by omega) (v := (I 76 ot.toNatClampNeg)) rfl (n := 101) rfl ?_
                        refine p_iload (z_dec zd_X9_shift 56 rfl) 5 rfl (n := 103) rfl ?_
                        refine p_isub (z_dec zd_X9_shift 57 rfl) (n := 104) rfl ?_
                        refine p_icmp_le (z_dec zd_X9_shift 58 rfl) (t := 110) (by decide) (n := 107) rfl (fun h104 => ?_) (fun h104 => ?_)
                        · have hp1 := z_fit (hmn _ hj_sh.2).1 (hmn _ hj_sh.2).2 h68 h72 h90
                          have hp2 := z_fit (hmn _ hj_ot.2).1 (hmn _ hj_ot.2).2 h68 h77 (Int32.not_lt.mpr h104)
                          have hp3 := (hmn _ hj_sh.2).2
                          have hp4 := (hmn _ hj_ot.2).2
                          refine p_iconst (z_dec zd_X9_shift 61 rfl) (v := 0) (by decide) (n := 111) rfl ?_
                          refine p_istore (z_dec zd_X9_shift 62 rfl) (lv2 := [(6, .int 0), (0, .ref 54), (1, .int sh), (2, .int i), (3, .int ot), (4, .int j), (5, .int n)]) (by decide) rfl (n := 113) rfl ?_
                          have hL113 : ∀ i113, i113 ≤ n.toNatClampNeg → PW zm_X9_shift d 113 [(6, .int (nI i113)), (0, .ref 54), (1, .int sh), (2, .int i), (3, .int ot), (4, .int j), (5, .int n)] [] SH (I, (g_X9_shift_113 L sh i i113), z_R b) 0 0 (z_ret (some (.int (f_X9_shift I L sh i ot j n))) (I, (n_X9_shift I L sh i ot j n), z_R b)) := by
                            refine z_down n.toNatClampNeg (fun i113 hi113 ih113 => ?_)
                            refine p_iload (z_dec zd_X9_shift 63 rfl) 0 rfl (n := 115) rfl ?_
                            refine p_iload (z_dec zd_X9_shift 64 rfl) 6 rfl (n := 117) rfl ?_
                            refine p_icmp_ge (z_dec zd_X9_shift 65 rfl) (t := 147) (by decide) (n := 120) rfl (fun h117 => ?_) (fun h117 => ?_)
                            · have hx113 : i113 = n.toNatClampNeg := by have := z_ge (a := n.toNatClampNeg) (b := i113) (by rw [← hp1.1.2]; exact h117); omega
                              rw [hx113]
                              refine p_iconst (z_dec zd_X9_shift 82 rfl) (v := 0) (by decide) (n := 148) rfl ?_
                              refine p_istore (z_dec zd_X9_shift 83 rfl) (lv2 := [(6, .int 0), (0, .ref 54), (1, .int sh), (2, .int i), (3, .int ot), (4, .int j), (5, .int n)]) (by decide) rfl (n := 150) rfl ?_
                              have hL150 : ∀ i150, i150 ≤ n.toNatClampNeg → PW zm_X9_shift d 150 [(6, .int (nI i150)), (0, .ref 54), (1, .int sh), (2, .int i), (3, .int ot), (4, .int j), (5, .int n)] [] SH (I, (g_X9_shift_150 L sh i ot j n i150), z_R b) 0 0 (z_ret (some (.int (f_X9_shift I L sh i ot j n))) (I, (n_X9_shift I L sh i ot j n), z_R b)) := by
                                refine z_down n.toNatClampNeg (fun i150 hi150 ih150 => ?_)
                                refine p_iload (z_dec zd_X9_shift 84 rfl) 0 rfl (n := 152) rfl ?_
                                refine p_iload (z_dec zd_X9_shift 85 rfl) 6 rfl (n := 154) rfl ?_
                                refine p_icmp_ge (z_dec zd_X9_shift 86 rfl) (t := 185) (by decide) (n := 157) rfl (fun h154 => ?_) (fun h154 => ?_)
                                · have hx150 : i150 = n.toNatClampNeg := by have := z_ge (a := n.toNatClampNeg) (b := i150) (by rw [← hp1.1.2]; exact h154); omega
                                  rw [hx150]
                                  refine p_iload (z_dec zd_X9_shift 103 rfl) 6 rfl (n := 187) rfl ?_
                                  exact p_iret (z_dec zd_X9_shift 104 rfl) rfl ⟨(by unfold f_X9_shift; rw [if_neg h4, if_neg h11, if_neg h22, if_pos h31, if_neg h45, if_pos h60, if_neg h68, if_neg h72, if_neg h77, if_neg h90, if_pos h104]), rfl, (z_3 rfl (by unfold n_X9_shift; rw [if_neg h4, if_neg h11, if_neg h22, if_pos h31, if_neg h45, if_pos h60, if_neg h68, if_neg h72, if_neg h77, if_neg h90, if_pos h104]))⟩
                                · have hx150 : i150 < n.toNatClampNeg := by have := z_nge (a := n.toNatClampNeg) (b := i150) (by rw [← hp1.1.2]; exact h154); omega
                                  refine p_aload_n (z_dec zd_X9_shift 87 rfl) rfl 1 rfl (n := 158) rfl ?_
                                  refine q_getR (z_dec zd_X9_shift 88 rfl) zf_X9_76 (i := 77) rfl rfl (n := 161) rfl ?_
                                  refine p_bipush (z_dec zd_X9_shift 89 rfl) (v := 60) (by decide) (n := 163) rfl ?_
                                  refine p_iload_n (z_dec zd_X9_shift 90 rfl) rfl 4 rfl (n := 164) rfl ?_
                                  refine p_imul (z_dec zd_X9_shift 91 rfl) (n := 165) rfl ?_
                                  refine p_iload (z_dec zd_X9_shift 92 rfl) 5 rfl (n := 167) rfl ?_
                                  refine p_iadd (z_dec zd_X9_shift 93 rfl) (n := 168) rfl ?_
                                  refine p_iload (z_dec zd_X9_shift 94 rfl) 0 rfl (n := 170) rfl ?_
                                  refine p_iadd (z_dec zd_X9_shift 95 rfl) (n := 171) rfl ?_
                                  refine p_aload_n (z_dec zd_X9_shift 96 rfl) rfl 1 rfl (n := 172) rfl ?_
                                  refine q_getR (z_dec zd_X9_shift 97 rfl) zf_X9_80 (i := 78) rfl rfl (n := 175) rfl ?_
                                  refine p_iload (z_dec zd_X9_shift 98 rfl) 0 rfl (n := 177) rfl ?_
                                  refine q_lald (z_dec zd_X9_shift 99 rfl) rfl (by decide) (i150) rfl (by omega) (v := ((g_X9_shift_150 L sh i ot j n i150) 78 i150)) rfl (n := 178) rfl ?_
                                  refine q_last (z_dec zd_X9_shift 100 rfl) rfl (by decide) (((60 * ot.toNatClampNeg) + j.toNatClampNeg) + i150) (z_addE (z_addE (z_mulE rfl hj_ot.1) hp2.1.1) rfl) (by omega) (n := 179) rfl ?_
                                  refine p_iinc (z_dec zd_X9_shift 101 rfl) 0 rfl (v := (nI (i150 + 1))) (nI_1 _) (lv2 := [(6, .int (nI (i150 + 1))), (0, .ref 54), (1, .int sh), (2, .int i), (3, .int ot), (4, .int j), (5, .int n)]) (by decide) rfl (n := 182) rfl ?_
                                  refine p_goto (z_dec zd_X9_shift 102 rfl) (t := 150) (by decide) ?_
                                  have eb : (g_X9_shift_150 L sh i ot j n) (i150 + 1) = (z_up (g_X9_shift_150 L sh i ot j n i150) 77 (((60 * ot.toNatClampNeg) + j.toNatClampNeg) + i150) ((g_X9_shift_150 L sh i ot j n i150) 78 i150)) := by show gb_X9_shift_150 L sh i ot j n i150 ((g_X9_shift_150 L sh i ot j n) i150) = _; unfold gb_X9_shift_150; rfl
                                  refine z_lv (lv' := [(6, .int (nI (i150 + 1))), (0, .ref 54), (1, .int sh), (2, .int i), (3, .int ot), (4, .int j), (5, .int n)]) rfl rfl (by rw [eb]) (ih150 (by omega))
                              refine z_lv (lv' := [(6, .int (nI 0)), (0, .ref 54), (1, .int sh), (2, .int i), (3, .int ot), (4, .int j), (5, .int n)]) rfl rfl rfl (hL150 0 (Nat.zero_le _))
                            · have hx113 : i113 < n.toNatClampNeg := by have := z_nge (a := n.toNatClampNeg) (b := i113) (by rw [← hp1.1.2]; exact h117); omega
                              refine p_aload_n (z_dec zd_X9_shift 66 rfl) rfl 1 rfl (n := 121) rfl ?_
                              refine q_getR (z_dec zd_X9_shift 67 rfl) zf_X9_80 (i := 78) rfl rfl (n := 124) rfl ?_
                              refine p_iload (z_dec zd_X9_shift 68 rfl) 0 rfl (n := 126) rfl ?_
                              refine p_aload_n (z_dec zd_X9_shift 69 rfl) rfl 1 rfl (n := 127) rfl ?_
                              refine q_getR (z_dec zd_X9_shift 70 rfl) zf_X9_76 (i := 77) rfl rfl (n := 130) rfl ?_
                              refine p_bipush (z_dec zd_X9_shift 71 rfl) (v := 60) (by decide) (n := 132) rfl ?_
                              refine p_iload_n (z_dec zd_X9_shift 72 rfl) rfl 2 rfl (n := 133) rfl ?_
                              refine p_imul (z_dec zd_X9_shift 73 rfl) (n := 134) rfl ?_
                              refine p_iload_n (z_dec zd_X9_shift 74 rfl) rfl 3 rfl (n := 135) rfl ?_
                              refine p_iadd (z_dec zd_X9_shift 75 rfl) (n := 136) rfl ?_
                              refine p_iload (z_dec zd_X9_shift 76 rfl) 0 rfl (n := 138) rfl ?_
                              refine p_iadd (z_dec zd_X9_shift 77 rfl) (n := 139) rfl ?_
                              refine q_lald (z_dec zd_X9_shift 78 rfl) rfl (by decide) (((60 * sh.toNatClampNeg) + i.toNatClampNeg) + i113) (z_addE (z_addE (z_mulE rfl hj_sh.1) hp1.1.1) rfl) (by omega) (v := ((g_X9_shift_113 L sh i i113) 77 (((60 * sh.toNatClampNeg) + i.toNatClampNeg) + i113))) rfl (n := 140) rfl ?_
                              refine q_last (z_dec zd_X9_shift 79 rfl) rfl (by decide) (i113) rfl (by omega) (n := 141) rfl ?_
                              refine p_iinc (z_dec zd_X9_shift 80 rfl) 0 rfl (v := (nI (i113 + 1))) (nI_1 _) (lv2 := [(6, .int (nI (i113 + 1))), (0, .ref 54), (1, .int sh), (2, .int i), (3, .int ot), (4, .int j), (5, .int n)]) (by decide) rfl (n := 144) rfl ?_
                              refine p_goto (z_dec zd_X9_shift 81 rfl) (t := 113) (by decide) ?_
                              have eb : (g_X9_shift_113 L sh i) (i113 + 1) = (z_up (g_X9_shift_113 L sh i i113) 78 i113 ((g_X9_shift_113 L sh i i113) 77 (((60 * sh.toNatClampNeg) + i.toNatClampNeg) + i113))) := by show gb_X9_shift_113 L sh i i113 ((g_X9_shift_113 L sh i) i113) = _; unfold gb_X9_shift_113; rfl
                              refine z_lv (lv' := [(6, .int (nI (i113 + 1))), (0, .ref 54), (1, .int sh), (2, .int i), (3, .int ot), (4, .int j), (5, .int n)]) rfl rfl (by rw [eb]) (ih113 (by omega))
                          refine z_lv (lv' := [(6, .int (nI 0)), (0, .ref 54), (1, .int sh), (2, .int i), (3, .int ot), (4, .int j), (5, .int n)]) rfl rfl rfl (hL113 0 (Nat.zero_le _))
                        · refine p_bipush (z_dec zd_X9_shift 59 rfl) (v := (-13)) (by decide) (n := 109) rfl ?_
                          exact p_iret (z_dec zd_X9_shift 60 rfl) rfl ⟨(by unfold f_X9_shift; rw [if_neg h4, if_neg h11, if_neg h22, if_pos h31, if_neg h45, if_pos h60, if_neg h68, if_neg h72, if_neg h77, if_neg h90, if_neg h104]), rfl, (z_3 rfl (by unfold n_X9_shift; rw [if_neg h4, if_neg h11, if_neg h22, if_pos h31, if_neg h45, if_pos h60, if_neg h68, if_neg h72, if_neg h77, if_neg h90, if_neg h104]))⟩
              · refine p_bipush (z_dec zd_X9_shift 35 rfl) (v := (-12)) (by decide) (n := 65) rfl ?_
                exact p_iret (z_dec zd_X9_shift 36 rfl) rfl ⟨(by unfold f_X9_shift; rw [if_neg h4, if_neg h11, if_neg h22, if_pos h31, if_neg h45, if_neg h60]), rfl, (z_3 rfl (by unfold n_X9_shift; rw [if_neg h4, if_neg h11, if_neg h22, if_pos h31, if_neg h45, if_neg h60]))⟩
          · refine p_bipush (z_dec zd_X9_shift 18 rfl) (v := (-11)) (by decide) (n := 36) rfl ?_
            exact p_iret (z_dec zd_X9_shift 19 rfl) rfl ⟨(by unfold f_X9_shift; rw [if_neg h4, if_neg h11, if_neg h22, if_neg h31]), rfl, (z_3 rfl (by unfold n_X9_shift; rw [if_neg h4, if_neg h11, if_neg h22, if_neg h31]))⟩
      · refine p_iconst (z_dec zd_X9_shift 6 rfl) (v := (-1)) (by decide) (n := 15) rfl ?_
        exact p_iret (z_dec zd_X9_shift 7 rfl) rfl ⟨(by unfold f_X9_shift; rw [if_neg h4, if_pos h11]), rfl, (z_3 rfl (by unfold n_X9_shift; rw [if_neg h4, if_pos h11]))⟩
  exact hentry
