theorem z_abv {x : Int32} (h : ¬ x ≤ 0) (h7 : x ≤ 7) : (f_X9_above x).toNatClampNeg < x.toNatClampNeg ∧ f_X9_above x ≤ 7 := by
  have h0 : ¬ x < 0 := fun q => h (Int32.le_of_lt q)
  obtain ⟨j, hj, rfl⟩ := nI_of h0
  have hj7 : j ≤ 7 := (nI_leI (a := j) (b := 7) hj (by omega)).mp h7
  have key : ∀ k : Fin 8, ¬ nI k.val ≤ 0 → (f_X9_above (nI k.val)).toNatClampNeg < (nI k.val).toNatClampNeg ∧ f_X9_above (nI k.val) ≤ 7 := by decide
  exact key ⟨j, by omega⟩ h
def gx_X9_taken_58 (I : Nat → Nat → Int32) (sh : Int32) (k : Int32) : Nat → Nat → (Int32) → Int32
  | 0, t58, v3 => 0
  | r58 + 1, t58, v3 => if v3 = k then if v3 = k then (f_X9_kindOf I ((I 75 sh.toNatClampNeg).toNatClampNeg)) else (-12) else if v3 ≤ 0 then if v3 = k then (f_X9_kindOf I ((I 75 sh.toNatClampNeg).toNatClampNeg)) else (-12) else gx_X9_taken_58 I sh k r58 (t58 + 1) (f_X9_above v3)
def f_X9_taken (I : Nat → Nat → Int32) (sh : Int32) (k : Int32) : Int32 := if (f_X9_isShelf sh) = 0 then (-1) else if (f_X9_within (k.toInt64) 0 7) = 0 then (-1) else if 0 ≤ (I 75 sh.toNatClampNeg) then if (I 75 sh.toNatClampNeg) < 50 then (gx_X9_taken_58 I sh k ((I 73 (I 75 sh.toNatClampNeg).toNatClampNeg).toNatClampNeg + 1) 0 (f_X9_kindOf I ((I 75 sh.toNatClampNeg).toNatClampNeg))) else (-12) else (-11)
set_option maxHeartbeats 2000000 in
set_option maxRecDepth 100000 in
theorem c_X9_taken (d : Nat) (hd : 2 ≤ d) (b : Bool) (I : Nat → Nat → Int32) (L : Nat → Nat → Int64) (bo : Nat) (hbo : I 54 32 = nI bo) (hb50 : bo ≤ 50) (sh : Int32) (k : Int32) (hsb : ∀ j, j < 6 → ¬ I 75 j < 0 → I 75 j < 50 → I 75 j = nI (I 75 j).toNatClampNeg ∧ (I 75 j).toNatClampNeg < 50) (hbk : ∀ j, j < 50 → I 73 j ≤ 7) : z_CT zm_X9_taken d [.ref 54, .int sh, .int k] SH (I, L, z_R b) 0 0 (z_ret (some (.int (f_X9_taken I sh k))) (I, L, z_R b)) := by
  refine z_enter (by decide +kernel) (Nat.le_of_ble_eq_true rfl) ?_
  have hentry : PW zm_X9_taken d 0 [(0, .ref 54), (1, .int sh), (2, .int k)] [] SH (I, L, z_R b) 0 0 (z_ret (some (.int (f_X9_taken I sh k))) (I, L, z_R b)) := by
    refine p_iload_n (z_dec zd_X9_taken 0 rfl) rfl 1 rfl (n := 1) rfl ?_
    refine q_callS (As := [.int sh]) (rest := []) (z_dec zd_X9_taken 1 rfl) zk_X9_113 zs_X9_isShelf (c_X9_isShelf (d - 1) (by omega) b I L sh) rfl rfl (Nat.le_of_ble_eq_true rfl) (by omega) (n := 4) rfl ?_
    show PW zm_X9_taken d 4 [(0, .ref 54), (1, .int sh), (2, .int k)] [.int (f_X9_isShelf sh)] SH (I, L, z_R b) 0 0 _
    refine p_if_eq (z_dec zd_X9_taken 2 rfl) (t := 19) (by decide) (n := 7) rfl (fun h4 => ?_) (fun h4 => ?_)
    · refine p_iconst (z_dec zd_X9_taken 9 rfl) (v := (-1)) (by decide) (n := 20) rfl ?_
      exact p_iret (z_dec zd_X9_taken 10 rfl) rfl ⟨(by unfold f_X9_taken; rw [if_pos h4]), rfl, rfl⟩
    · have hj_sh := z_shf h4
      refine p_iload_n (z_dec zd_X9_taken 3 rfl) rfl 2 rfl (n := 8) rfl ?_
      refine p_i2l (z_dec zd_X9_taken 4 rfl) (n := 9) rfl ?_
      refine p_lconst (z_dec zd_X9_taken 5 rfl) (v := 0) (by decide) (n := 10) rfl ?_
      refine p_ldc2 (z_dec zd_X9_taken 6 rfl) zq_X9_295 (n := 13) rfl ?_
      refine q_callS (As := [.long (k.toInt64), .long 0, .long 7]) (rest := []) (z_dec zd_X9_taken 7 rfl) zk_X9_96 zs_X9_within (c_X9_within (d - 1) (by omega) b I L (k.toInt64) 0 7) rfl rfl (Nat.le_of_ble_eq_true rfl) (by omega) (n := 16) rfl ?_
      show PW zm_X9_taken d 16 [(0, .ref 54), (1, .int sh), (2, .int k)] [.int (f_X9_within (k.toInt64) 0 7)] SH (I, L, z_R b) 0 0 _
      refine p_if_ne (z_dec zd_X9_taken 8 rfl) (t := 21) (by decide) (n := 19) rfl (fun h16 => ?_) (fun h16 => ?_)
      · refine p_aload_n (z_dec zd_X9_taken 11 rfl) rfl 0 rfl (n := 22) rfl ?_
        refine q_getR (z_dec zd_X9_taken 12 rfl) zf_X9_70 (i := 75) rfl rfl (n := 25) rfl ?_
        refine p_iload_n (z_dec zd_X9_taken 13 rfl) rfl 1 rfl (n := 26) rfl ?_
        refine q_iald (z_dec zd_X9_taken 14 rfl) rfl (by decide) (sh.toNatClampNeg) hj_sh.1 hj_sh.2 (v := (I 75 sh.toNatClampNeg)) rfl (n := 27) rfl ?_
        refine p_if_ge (z_dec zd_X9_taken 15 rfl) (t := 33) (by decide) (n := 30) rfl (fun h27 => ?_) (fun h27 => ?_)
        · refine p_aload_n (z_dec zd_X9_taken 18 rfl) rfl 0 rfl (n := 34) rfl ?_
          refine q_getR (z_dec zd_X9_taken 19 rfl) zf_X9_70 (i := 75) rfl rfl (n := 37) rfl ?_
          refine p_iload_n (z_dec zd_X9_taken 20 rfl) rfl 1 rfl (n := 38) rfl ?_
          refine q_iald (z_dec zd_X9_taken 21 rfl) rfl (by decide) (sh.toNatClampNeg) hj_sh.1 hj_sh.2 (v := (I 75 sh.toNatClampNeg)) rfl (n := 39) rfl ?_
          refine p_bipush (z_dec zd_X9_taken 22 rfl) (v := 50) (by decide) (n := 41) rfl ?_
          refine p_icmp_lt (z_dec zd_X9_taken 23 rfl) (t := 47) (by decide) (n := 44) rfl (fun h41 => ?_) (fun h41 => ?_)
          · have hst := hsb _ hj_sh.2 (Int32.not_lt.mpr h27) h41
            refine p_aload_n (z_dec zd_X9_taken 26 rfl) rfl 0 rfl (n := 48) rfl ?_
            refine p_aload_n (z_dec zd_X9_taken 27 rfl) rfl 0 rfl (n := 49) rfl ?_
            refine q_getR (z_dec zd_X9_taken 28 rfl) zf_X9_70 (i := 75) rfl rfl (n := 52) rfl ?_
            refine p_iload_n (z_dec zd_X9_taken 29 rfl) rfl 1 rfl (n := 53) rfl ?_
            refine q_iald (z_dec zd_X9_taken 30 rfl) rfl (by decide) (sh.toNatClampNeg) hj_sh.1 hj_sh.2 (v := (I 75 sh.toNatClampNeg)) rfl (n := 54) rfl ?_
            refine q_callV (As := [.int (nI ((I 75 sh.toNatClampNeg).toNatClampNeg))]) (rest := []) (z_dec zd_X9_taken 31 rfl) zk_X9_331 zv_X9_kindOf (c_X9_kindOf (d - 1) (by omega) b I L ((I 75 sh.toNatClampNeg).toNatClampNeg) hst.2) rfl ⟨_, _, rfl⟩ (by simp only [← hst.1]; rfl) rfl (Nat.le_of_ble_eq_true rfl) (by omega) (n := 57) rfl ?_
            show PW zm_X9_taken d 57 [(0, .ref 54), (1, .int sh), (2, .int k)] [.int (f_X9_kindOf I ((I 75 sh.toNatClampNeg).toNatClampNeg))] SH (I, L, z_R b) 0 0 _
            refine p_istore_n (z_dec zd_X9_taken 32 rfl) rfl (lv2 := [(3, .int (f_X9_kindOf I ((I 75 sh.toNatClampNeg).toNatClampNeg))), (0, .ref 54), (1, .int sh), (2, .int k)]) (by decide) rfl (n := 58) rfl ?_
            have hL58 : ∀ (r58 t58 : Nat) (v3 : Int32), v3.toNatClampNeg < r58 → v3 ≤ 7 → PW zm_X9_taken d 58 [(3, .int v3), (0, .ref 54), (1, .int sh), (2, .int k)] [] SH (I, L, z_R b) 0 0 (z_ret (some (.int (gx_X9_taken_58 I sh k r58 t58 v3))) (I, L, z_R b)) := by
              intro r58
              induction r58 with
              | zero =>
                intro t58 v3 ht58 hlo
                exact absurd ht58 (Nat.not_lt_zero _)
              | succ r58 ih58 =>
                intro t58 v3 ht58 hlo
                refine p_iload_n (z_dec zd_X9_taken 33 rfl) rfl 0 rfl (n := 59) rfl ?_
                refine p_iload_n (z_dec zd_X9_taken 34 rfl) rfl 3 rfl (n := 60) rfl ?_
                refine p_icmp_eq (z_dec zd_X9_taken 35 rfl) (t := 75) (by decide) (n := 63) rfl (fun h60 => ?_) (fun h60 => ?_)
                · refine p_iload_n (z_dec zd_X9_taken 42 rfl) rfl 0 rfl (n := 76) rfl ?_
                  refine p_iload_n (z_dec zd_X9_taken 43 rfl) rfl 3 rfl (n := 77) rfl ?_
                  refine p_icmp_ne (z_dec zd_X9_taken 44 rfl) (t := 93) (by decide) (n := 80) rfl (fun h77 => ?_) (fun h77 => ?_)
                  · refine p_bipush (z_dec zd_X9_taken 52 rfl) (v := (-12)) (by decide) (n := 95) rfl ?_
                    exact p_iret (z_dec zd_X9_taken 53 rfl) rfl ⟨(by (conv => rhs; unfold gx_X9_taken_58); rw [if_pos h60, if_neg h77]), rfl, rfl⟩
                  · refine p_aload_n (z_dec zd_X9_taken 45 rfl) rfl 1 rfl (n := 81) rfl ?_
                    refine p_aload_n (z_dec zd_X9_taken 46 rfl) rfl 1 rfl (n := 82) rfl ?_
                    refine q_getR (z_dec zd_X9_taken 47 rfl) zf_X9_70 (i := 75) rfl rfl (n := 85) rfl ?_
                    refine p_iload_n (z_dec zd_X9_taken 48 rfl) rfl 2 rfl (n := 86) rfl ?_
                    refine q_iald (z_dec zd_X9_taken 49 rfl) rfl (by decide) (sh.toNatClampNeg) hj_sh.1 hj_sh.2 (v := (I 75 sh.toNatClampNeg)) rfl (n := 87) rfl ?_
                    refine q_callV (As := [.int (nI ((I 75 sh.toNatClampNeg).toNatClampNeg))]) (rest := []) (z_dec zd_X9_taken 50 rfl) zk_X9_331 zv_X9_kindOf (c_X9_kindOf (d - 1) (by omega) b I L ((I 75 sh.toNatClampNeg).toNatClampNeg) hst.2) rfl ⟨_, _, rfl⟩ (by simp only [← hst.1]; rfl) rfl (Nat.le_of_ble_eq_true rfl) (by omega) (n := 90) rfl ?_
                    show PW zm_X9_taken d 90 [(3, .int v3), (0, .ref 54), (1, .int sh), (2, .int k)] [.int (f_X9_kindOf I ((I 75 sh.toNatClampNeg).toNatClampNeg))] SH (I, L, z_R b) 0 0 _
                    refine p_goto (z_dec zd_X9_taken 51 rfl) (t := 95) (by decide) ?_
                    exact p_iret (z_dec zd_X9_taken 53 rfl) rfl ⟨(by (conv => rhs; unfold gx_X9_taken_58); rw [if_pos h60, if_pos h77]), rfl, rfl⟩
                · refine p_iload_n (z_dec zd_X9_taken 36 rfl) rfl 0 rfl (n := 64) rfl ?_
                  refine p_if_le (z_dec zd_X9_taken 37 rfl) (t := 75) (by decide) (n := 67) rfl (fun h64 => ?_) (fun h64 => ?_)
                  · refine p_iload_n (z_dec zd_X9_taken 42 rfl) rfl 0 rfl (n := 76) rfl ?_
                    refine p_iload_n (z_dec zd_X9_taken 43 rfl) rfl 3 rfl (n := 77) rfl ?_
                    refine p_icmp_ne (z_dec zd_X9_taken 44 rfl) (t := 93) (by decide) (n := 80) rfl (fun h77 => ?_) (fun h77 => ?_)
                    · refine p_bipush (z_dec zd_X9_taken 52 rfl) (v := (-12)) (by decide) (n := 95) rfl ?_
                      exact p_iret (z_dec zd_X9_taken 53 rfl) rfl ⟨(by (conv => rhs; unfold gx_X9_taken_58); rw [if_neg h60, if_pos h64, if_neg h77]), rfl, rfl⟩
                    · refine p_aload_n (z_dec zd_X9_taken 45 rfl) rfl 1 rfl (n := 81) rfl ?_
                      refine p_aload_n (z_dec zd_X9_taken 46 rfl) rfl 1 rfl (n := 82) rfl ?_
                      refine q_getR (z_dec zd_X9_taken 47 rfl) zf_X9_70 (i := 75) rfl rfl (n := 85) rfl ?_
                      refine p_iload_n (z_dec zd_X9_taken 48 rfl) rfl 2 rfl (n := 86) rfl ?_
                      refine q_iald (z_dec zd_X9_taken 49 rfl) rfl (by decide) (sh.toNatClampNeg) hj_sh.1 hj_sh.2 (v := (I 75 sh.toNatClampNeg)) rfl (n := 87) rfl ?_
                      refine q_callV (As := [.int (nI ((I 75 sh.toNatClampNeg).toNatClampNeg))]) (rest := []) (z_dec zd_X9_taken 50 rfl) zk_X9_331 zv_X9_kindOf (c_X9_kindOf (d - 1) (by omega) b I L ((I 75 sh.toNatClampNeg).toNatClampNeg) hst.2) rfl ⟨_, _, rfl⟩ (by simp only [← hst.1]; rfl) rfl (Nat.le_of_ble_eq_true rfl) (by omega) (n := 90) rfl ?_
                      show PW zm_X9_taken d 90 [(3, .int v3), (0, .ref 54), (1, .int sh), (2, .int k)] [.int (f_X9_kindOf I ((I 75 sh.toNatClampNeg).toNatClampNeg))] SH (I, L, z_R b) 0 0 _
                      refine p_goto (z_dec zd_X9_taken 51 rfl) (t := 95) (by decide) ?_
                      exact p_iret (z_dec zd_X9_taken 53 rfl) rfl ⟨(by (conv => rhs; unfold gx_X9_taken_58); rw [if_neg h60, if_pos h64, if_pos h77]), rfl, rfl⟩
                  · refine p_iload_n (z_dec zd_X9_taken 38 rfl) rfl 0 rfl (n := 68) rfl ?_
                    refine q_callS (As := [.int v3]) (rest := []) (z_dec zd_X9_taken 39 rfl) zk_X9_334 zs_X9_above (c_X9_above (d - 1) (by omega) b I L v3) rfl rfl (Nat.le_of_ble_eq_true rfl) (by omega) (n := 71) rfl ?_
                    show PW zm_X9_taken d 71 [(3, .int v3), (0, .ref 54), (1, .int sh), (2, .int k)] [.int (f_X9_above v3)] SH (I, L, z_R b) 0 0 _
                    refine p_istore_n (z_dec zd_X9_taken 40 rfl) rfl (lv2 := [(3, .int (f_X9_above v3)), (0, .ref 54), (1, .int sh), (2, .int k)]) (by decide) rfl (n := 72) rfl ?_
                    have hab := z_abv h64 hlo
                    refine p_goto (z_dec zd_X9_taken 41 rfl) (t := 58) (by decide) ?_
                    rw [show gx_X9_taken_58 I sh k (r58 + 1) t58 v3 = gx_X9_taken_58 I sh k r58 (t58 + 1) (f_X9_above v3) from by (conv => lhs; unfold gx_X9_taken_58); rw [if_neg h60, if_neg h64]]
                    exact ih58 (t58 + 1) (f_X9_above v3) (by omega) hab.2
            exact (by have q := (hL58 ((I 73 (I 75 sh.toNatClampNeg).toNatClampNeg).toNatClampNeg + 1) 0 (f_X9_kindOf I ((I 75 sh.toNatClampNeg).toNatClampNeg)) (Nat.lt_succ_self _) (hbk _ hst.2)); (rw [show f_X9_taken I sh k = _ from by unfold f_X9_taken; rw [if_neg h4, if_neg h16, if_pos h27, if_pos h41]]); exact q)
          · refine p_bipush (z_dec zd_X9_taken 24 rfl) (v := (-12)) (by decide) (n := 46) rfl ?_
            exact p_iret (z_dec zd_X9_taken 25 rfl) rfl ⟨(by unfold f_X9_taken; rw [if_neg h4, if_neg h16, if_pos h27, if_neg h41]), rfl, rfl⟩
        · refine p_bipush (z_dec zd_X9_taken 16 rfl) (v := (-11)) (by decide) (n := 32) rfl ?_
          exact p_iret (z_dec zd_X9_taken 17 rfl) rfl ⟨(by unfold f_X9_taken; rw [if_neg h4, if_neg h16, if_neg h27]), rfl, rfl⟩
      · refine p_iconst (z_dec zd_X9_taken 9 rfl) (v := (-1)) (by decide) (n := 20) rfl ?_
        exact p_iret (z_dec zd_X9_taken 10 rfl) rfl ⟨(by unfold f_X9_taken; rw [if_neg h4, if_pos h16]), rfl, rfl⟩
  exact hentry
