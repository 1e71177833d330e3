def m_X0_forgetOldest (I : Nat → Nat → Int32) : Nat → Nat → Int32 := (z_up (z_ro (z_ro (z_ro (z_ro I 34 (va_cpy (I 34) (I 34) 1 0 39)) 35 (va_cpy ((z_ro I 34 (va_cpy (I 34) (I 34) 1 0 39)) 35) ((z_ro I 34 (va_cpy (I 34) (I 34) 1 0 39)) 35) 1 0 39)) 36 (va_cpy ((z_ro (z_ro I 34 (va_cpy (I 34) (I 34) 1 0 39)) 35 (va_cpy ((z_ro I 34 (va_cpy (I 34) (I 34) 1 0 39)) 35) ((z_ro I 34 (va_cpy (I 34) (I 34) 1 0 39)) 35) 1 0 39)) 36) ((z_ro (z_ro I 34 (va_cpy (I 34) (I 34) 1 0 39)) 35 (va_cpy ((z_ro I 34 (va_cpy (I 34) (I 34) 1 0 39)) 35) ((z_ro I 34 (va_cpy (I 34) (I 34) 1 0 39)) 35) 1 0 39)) 36) 1 0 39)) 37 (va_cpy ((z_ro (z_ro (z_ro I 34 (va_cpy (I 34) (I 34) 1 0 39)) 35 (va_cpy ((z_ro I 34 (va_cpy (I 34) (I 34) 1 0 39)) 35) ((z_ro I 34 (va_cpy (I 34) (I 34) 1 0 39)) 35) 1 0 39)) 36 (va_cpy ((z_ro (z_ro I 34 (va_cpy (I 34) (I 34) 1 0 39)) 35 (va_cpy ((z_ro I 34 (va_cpy (I 34) (I 34) 1 0 39)) 35) ((z_ro I 34 (va_cpy (I 34) (I 34) 1 0 39)) 35) 1 0 39)) 36) ((z_ro (z_ro I 34 (va_cpy (I 34) (I 34) 1 0 39)) 35 (va_cpy ((z_ro I 34 (va_cpy (I 34) (I 34) 1 0 39)) 35) ((z_ro I 34 (va_cpy (I 34) (I 34) 1 0 39)) 35) 1 0 39)) 36) 1 0 39)) 37) ((z_ro (z_ro (z_ro I 34 (va_cpy (I 34) (I 34) 1 0 39)) 35 (va_cpy ((z_ro I 34 (va_cpy (I 34) (I 34) 1 0 39)) 35) ((z_ro I 34 (va_cpy (I 34) (I 34) 1 0 39)) 35) 1 0 39)) 36 (va_cpy ((z_ro (z_ro I 34 (va_cpy (I 34) (I 34) 1 0 39)) 35 (va_cpy ((z_ro I 34 (va_cpy (I 34) (I 34) 1 0 39)) 35) ((z_ro I 34 (va_cpy (I 34) (I 34) 1 0 39)) 35) 1 0 39)) 36) ((z_ro (z_ro I 34 (va_cpy (I 34) (I 34) 1 0 39)) 35 (va_cpy ((z_ro I 34 (va_cpy (I 34) (I 34) 1 0 39)) 35) ((z_ro I 34 (va_cpy (I 34) (I 34) 1 0 39)) 35) 1 0 39)) 36) 1 0 39)) 37) 1 0 39)) 33 4 39)
set_option maxHeartbeats 4000000 in
set_option maxRecDepth 100000 in
theorem c_X0_forgetOldest (d : Nat) (hd : 1 ≤ d) (b : Bool) (I : Nat → Nat → Int32) (L : Nat → Nat → Int64) : z_CT zm_X0_forgetOldest d [.ref 33] SH (I, L, z_R b) 0 0 (z_ret (none) ((m_X0_forgetOldest I), L, z_R b)) := by
  refine z_enter (by decide +kernel) (Nat.le_of_ble_eq_true rfl) ?_
  have hentry : PW zm_X0_forgetOldest d 0 [(0, .ref 33)] [] SH (I, L, z_R b) 0 0 (z_ret (none) ((m_X0_forgetOldest I), L, z_R b)) := by
    refine p_bipush (z_dec zd_X0_forgetOldest 0 rfl) (v := 39) (by decide) (n := 2) rfl ?_
    refine p_istore_n (z_dec zd_X0_forgetOldest 1 rfl) rfl (lv2 := [(1, .int 39), (0, .ref 33)]) (by decide) rfl (n := 3) rfl ?_
    refine p_aload_n (z_dec zd_X0_forgetOldest 2 rfl) rfl 1 rfl (n := 4) rfl ?_
    refine q_getR (z_dec zd_X0_forgetOldest 3 rfl) zf_X0_9 (i := 34) rfl rfl (n := 7) rfl ?_
    refine p_iconst (z_dec zd_X0_forgetOldest 4 rfl) (v := 1) (by decide) (n := 8) rfl ?_
    refine p_aload_n (z_dec zd_X0_forgetOldest 5 rfl) rfl 1 rfl (n := 9) rfl ?_
    refine q_getR (z_dec zd_X0_forgetOldest 6 rfl) zf_X0_9 (i := 34) rfl rfl (n := 12) rfl ?_
    refine p_iconst (z_dec zd_X0_forgetOldest 7 rfl) (v := 0) (by decide) (n := 13) rfl ?_
    refine p_iload_n (z_dec zd_X0_forgetOldest 8 rfl) rfl 0 rfl (n := 14) rfl ?_
    refine q_copyI (z_dec zd_X0_forgetOldest 9 rfl) zk_X0_32 zk_copy rfl rfl (by decide) (by decide) (1) (0) (39) rfl rfl rfl (by decide) (by decide) (by omega) (Nat.le_of_ble_eq_true rfl) (n := 17) rfl ?_
    refine p_aload_n (z_dec zd_X0_forgetOldest 10 rfl) rfl 1 rfl (n := 18) rfl ?_
    refine q_getR (z_dec zd_X0_forgetOldest 11 rfl) zf_X0_13 (i := 35) rfl rfl (n := 21) rfl ?_
    refine p_iconst (z_dec zd_X0_forgetOldest 12 rfl) (v := 1) (by decide) (n := 22) rfl ?_
    refine p_aload_n (z_dec zd_X0_forgetOldest 13 rfl) rfl 1 rfl (n := 23) rfl ?_
    refine q_getR (z_dec zd_X0_forgetOldest 14 rfl) zf_X0_13 (i := 35) rfl rfl (n := 26) rfl ?_
    refine p_iconst (z_dec zd_X0_forgetOldest 15 rfl) (v := 0) (by decide) (n := 27) rfl ?_
    refine p_iload_n (z_dec zd_X0_forgetOldest 16 rfl) rfl 0 rfl (n := 28) rfl ?_
    refine q_copyI (z_dec zd_X0_forgetOldest 17 rfl) zk_X0_32 zk_copy rfl rfl (by decide) (by decide) (1) (0) (39) rfl rfl rfl (by decide) (by decide) (by omega) (Nat.le_of_ble_eq_true rfl) (n := 31) rfl ?_
    refine p_aload_n (z_dec zd_X0_forgetOldest 18 rfl) rfl 1 rfl (n := 32) rfl ?_
    refine q_getR (z_dec zd_X0_forgetOldest 19 rfl) zf_X0_16 (i := 36) rfl rfl (n := 35) rfl ?_
    refine p_iconst (z_dec zd_X0_forgetOldest 20 rfl) (v := 1) (by decide) (n := 36) rfl ?_
    refine p_aload_n (z_dec zd_X0_forgetOldest 21 rfl) rfl 1 rfl (n := 37) rfl ?_
    refine q_getR (z_dec zd_X0_forgetOldest 22 rfl) zf_X0_16 (i := 36) rfl rfl (n := 40) rfl ?_
    refine p_iconst (z_dec zd_X0_forgetOldest 23 rfl) (v := 0) (by decide) (n := 41) rfl ?_
    refine p_iload_n (z_dec zd_X0_forgetOldest 24 rfl) rfl 0 rfl (n := 42) rfl ?_
    refine q_copyI (z_dec zd_X0_forgetOldest 25 rfl) zk_X0_32 zk_copy rfl rfl (by decide) (by decide) (1) (0) (39) rfl rfl rfl (by decide) (by decide) (by omega) (Nat.le_of_ble_eq_true rfl) (n := 45) rfl ?_
    refine p_aload_n (z_dec zd_X0_forgetOldest 26 rfl) rfl 1 rfl (n := 46) rfl ?_
    refine q_getR (z_dec zd_X0_forgetOldest 27 rfl) zf_X0_19 (i := 37) rfl rfl (n := 49) rfl ?_
    refine p_iconst (z_dec zd_X0_forgetOldest 28 rfl) (v := 1) (by decide) (n := 50) rfl ?_
    refine p_aload_n (z_dec zd_X0_forgetOldest 29 rfl) rfl 1 rfl (n := 51) rfl ?_
    refine q_getR (z_dec zd_X0_forgetOldest 30 rfl) zf_X0_19 (i := 37) rfl rfl (n := 54) rfl ?_
    refine p_iconst (z_dec zd_X0_forgetOldest 31 rfl) (v := 0) (by decide) (n := 55) rfl ?_
    refine p_iload_n (z_dec zd_X0_forgetOldest 32 rfl) rfl 0 rfl (n := 56) rfl ?_
    refine q_copyI (z_dec zd_X0_forgetOldest 33 rfl) zk_X0_32 zk_copy rfl rfl (by decide) (by decide) (1) (0) (39) rfl rfl rfl (by decide) (by decide) (by omega) (Nat.le_of_ble_eq_true rfl) (n := 59) rfl ?_
    refine p_aload_n (z_dec zd_X0_forgetOldest 34 rfl) rfl 1 rfl (n := 60) rfl ?_
    refine p_iload_n (z_dec zd_X0_forgetOldest 35 rfl) rfl 0 rfl (n := 61) rfl ?_
    refine q_putI (z_dec zd_X0_forgetOldest 36 rfl) zp_X0_22 (fun q => by cases q) rfl (n := 64) rfl ?_
    exact p_vret (z_dec zd_X0_forgetOldest 37 rfl) rfl ⟨rfl, rfl, (z_3 (by unfold m_X0_forgetOldest; rfl) rfl)⟩
  exact hentry
def m_X0_remember (I : Nat → Nat → Int32) (dn : Nat) (nu : Int32) (wh : Int32) (wa : Int32) (be : Int32) : Nat → Nat → Int32 := if (nI dn) < 40 then (z_up (z_up (z_up (z_up (z_up (z_up I 34 dn nu) 35 dn wh) 36 dn wa) 37 dn be) 33 4 ((nI dn) + 1)) 33 5 0) else (z_up (z_up (z_up (z_up (z_up (z_up (m_X0_forgetOldest I) 34 39 nu) 35 39 wh) 36 39 wa) 37 39 be) 33 4 (39 + 1)) 33 5 0)
set_option maxHeartbeats 4000000 in
set_option maxRecDepth 100000 in
theorem c_X0_remember (d : Nat) (hd : 2 ≤ d) (b : Bool) (I : Nat → Nat → Int32) (L : Nat → Nat → Int64) (dn : Nat) (hdn : I 33 4 = nI dn) (hd40 : dn ≤ 40) (nu : Int32) (wh : Int32) (wa : Int32) (be : Int32) : z_CT zm_X0_remember d [.ref 33, .int nu, .int wh, .int wa, .int be] SH (I, L, z_R b) 0 0 (z_ret (none) ((m_X0_remember I dn nu wh wa be), L, z_R b)) := by
  refine z_enter (by decide +kernel) (Nat.le_of_ble_eq_true rfl) ?_
  have hentry : PW zm_X0_remember d 0 [(0, .ref 33), (1, .int nu), (2, .int wh), (3, .int wa), (4, .int be)] [] SH (I, L, z_R b) 0 0 (z_ret (none) ((m_X0_remember I dn nu wh wa be), L, z_R b)) := by
    refine p_aload_n (z_dec zd_X0_remember 0 rfl) rfl 0 rfl (n := 1) rfl ?_
    refine q_getI (z_dec zd_X0_remember 1 rfl) zf_X0_22 (by decide) rfl (v := (nI dn)) hdn (n := 4) rfl ?_
    refine p_bipush (z_dec zd_X0_remember 2 rfl) (v := 40) (by decide) (n := 6) rfl ?_
    refine p_icmp_lt (z_dec zd_X0_remember 3 rfl) (t := 13) (by decide) (n := 9) rfl (fun h6 => ?_) (fun h6 => ?_)
    · have hdl : dn < 40 := z_lt (b := 40) h6
      refine p_aload_n (z_dec zd_X0_remember 6 rfl) rfl 0 rfl (n := 14) rfl ?_
      refine q_getR (z_dec zd_X0_remember 7 rfl) zf_X0_9 (i := 34) rfl rfl (n := 17) rfl ?_
      refine p_aload_n (z_dec zd_X0_remember 8 rfl) rfl 0 rfl (n := 18) rfl ?_
      refine q_getI (z_dec zd_X0_remember 9 rfl) zf_X0_22 (by decide) rfl (v := (nI dn)) hdn (n := 21) rfl ?_
      refine p_iload_n (z_dec zd_X0_remember 10 rfl) rfl 1 rfl (n := 22) rfl ?_
      refine q_iast (z_dec zd_X0_remember 11 rfl) rfl (by decide) (dn) rfl (by omega) (n := 23) rfl ?_
      refine p_aload_n (z_dec zd_X0_remember 12 rfl) rfl 0 rfl (n := 24) rfl ?_
      refine q_getR (z_dec zd_X0_remember 13 rfl) zf_X0_13 (i := 35) rfl rfl (n := 27) rfl ?_
      refine p_aload_n (z_dec zd_X0_remember 14 rfl) rfl 0 rfl (n := 28) rfl ?_
      refine q_getI (z_dec zd_X0_remember 15 rfl) zf_X0_22 (by decide) rfl (v := (nI dn)) hdn (n := 31) rfl ?_
      refine p_iload_n (z_dec zd_X0_remember 16 rfl) rfl 2 rfl (n := 32) rfl ?_
      refine q_iast (z_dec zd_X0_remember 17 rfl) rfl (by decide) (dn) rfl (by omega) (n := 33) rfl ?_
      refine p_aload_n (z_dec zd_X0_remember 18 rfl) rfl 0 rfl (n := 34) rfl ?_
      refine q_getR (z_dec zd_X0_remember 19 rfl) zf_X0_16 (i := 36) rfl rfl (n := 37) rfl ?_
      refine p_aload_n (z_dec zd_X0_remember 20 rfl) rfl 0 rfl (n := 38) rfl ?_
      refine q_getI (z_dec zd_X0_remember 21 rfl) zf_X0_22 (by decide) rfl (v := (nI dn)) hdn (n := 41) rfl ?_
      refine p_iload_n (z_dec zd_X0_remember 22 rfl) rfl 3 rfl (n := 42) rfl ?_
      refine q_iast (z_dec zd_X0_remember 23 rfl) rfl (by decide) (dn) rfl (by omega) (n := 43) rfl ?_
      refine p_aload_n (z_dec zd_X0_remember 24 rfl) rfl 0 rfl (n := 44) rfl ?_
      refine q_getR (z_dec zd_X0_remember 25 rfl) zf_X0_19 (i := 37) rfl rfl (n := 47) rfl ?_
      refine p_aload_n (z_dec zd_X0_remember 26 rfl) rfl 0 rfl (n := 48) rfl ?_
      refine q_getI (z_dec zd_X0_remember 27 rfl) zf_X0_22 (by decide) rfl (v := (nI dn)) hdn (n := 51) rfl ?_
      refine p_iload (z_dec zd_X0_remember 28 rfl) 4 rfl (n := 53) rfl ?_
      refine q_iast (z_dec zd_X0_remember 29 rfl) rfl (by decide) (dn) rfl (by omega) (n := 54) rfl ?_
      refine p_aload_n (z_dec zd_X0_remember 30 rfl) rfl 0 rfl (n := 55) rfl ?_
      refine p_dup (z_dec zd_X0_remember 31 rfl) rfl (n := 56) rfl ?_
      refine q_getI (z_dec zd_X0_remember 32 rfl) zf_X0_22 (by decide) rfl (v := (nI dn)) hdn (n := 59) rfl ?_
      refine p_iconst (z_dec zd_X0_remember 33 rfl) (v := 1) (by decide) (n := 60) rfl ?_
      refine p_iadd (z_dec zd_X0_remember 34 rfl) (n := 61) rfl ?_
      refine q_putI (z_dec zd_X0_remember 35 rfl) zp_X0_22 (fun q => by cases q) rfl (n := 64) rfl ?_
      refine p_aload_n (z_dec zd_X0_remember 36 rfl) rfl 0 rfl (n := 65) rfl ?_
      refine p_iconst (z_dec zd_X0_remember 37 rfl) (v := 0) (by decide) (n := 66) rfl ?_
      refine q_putI (z_dec zd_X0_remember 38 rfl) zp_X0_26 (fun q => by cases q) rfl (n := 69) rfl ?_
      exact p_vret (z_dec zd_X0_remember 39 rfl) rfl ⟨rfl, rfl, (z_3 (by unfold m_X0_remember; rw [if_pos h6]) rfl)⟩
    · refine p_aload_n (z_dec zd_X0_remember 4 rfl) rfl 0 rfl (n := 10) rfl ?_
      refine q_callV (As := []) (rest := []) (z_dec zd_X0_remember 5 rfl) zk_X0_29 zv_X0_forgetOldest (c_X0_forgetOldest (d - 1) (by omega) b I L) rfl ⟨_, _, rfl⟩ rfl rfl (Nat.le_of_ble_eq_true rfl) (by omega) (n := 13) rfl ?_
      show PW zm_X0_remember d 13 [(0, .ref 33), (1, .int nu), (2, .int wh), (3, .int wa), (4, .int be)] [] SH ((m_X0_forgetOldest I), L, z_R b) 0 0 _
      refine p_aload_n (z_dec zd_X0_remember 6 rfl) rfl 0 rfl (n := 14) rfl ?_
      refine q_getR (z_dec zd_X0_remember 7 rfl) zf_X0_9 (i := 34) rfl rfl (n := 17) rfl ?_
      refine p_aload_n (z_dec zd_X0_remember 8 rfl) rfl 0 rfl (n := 18) rfl ?_
      refine q_getI (z_dec zd_X0_remember 9 rfl) zf_X0_22 (by decide) rfl (v := 39) rfl (n := 21) rfl ?_
      refine p_iload_n (z_dec zd_X0_remember 10 rfl) rfl 1 rfl (n := 22) rfl ?_
      refine q_iast (z_dec zd_X0_remember 11 rfl) rfl (by decide) (39) rfl (by decide) (n := 23) rfl ?_
      refine p_aload_n (z_dec zd_X0_remember 12 rfl) rfl 0 rfl (n := 24) rfl ?_
      refine q_getR (z_dec zd_X0_remember 13 rfl) zf_X0_13 (i := 35) rfl rfl (n := 27) rfl ?_
      refine p_aload_n (z_dec zd_X0_remember 14 rfl) rfl 0 rfl (n := 28) rfl ?_
      refine q_getI (z_dec zd_X0_remember 15 rfl) zf_X0_22 (by decide) rfl (v := 39) rfl (n := 31) rfl ?_
      refine p_iload_n (z_dec zd_X0_remember 16 rfl) rfl 2 rfl (n := 32) rfl ?_
      refine q_iast (z_dec zd_X0_remember 17 rfl) rfl (by decide) (39) rfl (by decide) (n := 33) rfl ?_
      refine p_aload_n (z_dec zd_X0_remember 18 rfl) rfl 0 rfl (n := 34) rfl ?_
      refine q_getR (z_dec zd_X0_remember 19 rfl) zf_X0_16 (i := 36) rfl rfl (n := 37) rfl ?_
      refine p_aload_n (z_dec zd_X0_remember 20 rfl) rfl 0 rfl (n := 38) rfl ?_
      refine q_getI (z_dec zd_X0_remember 21 rfl) zf_X0_22 (by decide) rfl (v := 39) rfl (n := 41) rfl ?_
      refine p_iload_n (z_dec zd_X0_remember 22 rfl) rfl 3 rfl (n := 42) rfl ?_
      refine q_iast (z_dec zd_X0_remember 23 rfl) rfl (by decide) (39) rfl (by decide) (n := 43) rfl ?_
      refine p_aload_n (z_dec zd_X0_remember 24 rfl) rfl 0 rfl (n := 44) rfl ?_
      refine q_getR (z_dec zd_X0_remember 25 rfl) zf_X0_19 (i := 37) rfl rfl (n := 47) rfl ?_
      refine p_aload_n (z_dec zd_X0_remember 26 rfl) rfl 0 rfl (n := 48) rfl ?_
      refine q_getI (z_dec zd_X0_remember 27 rfl) zf_X0_22 (by decide) rfl (v := 39) rfl (n := 51) rfl ?_
      refine p_iload (z_dec zd_X0_remember 28 rfl) 4 rfl (n := 53) rfl ?_
      refine q_iast (z_dec zd_X0_remember 29 rfl) rfl (by decide) (39) rfl (by decide) (n := 54) rfl ?_
      refine p_aload_n (z_dec zd_X0_remember 30 rfl) rfl 0 rfl (n := 55) rfl ?_
      refine p_dup (z_dec zd_X0_remember 31 rfl) rfl (n := 56) rfl ?_
      refine q_getI (z_dec zd_X0_remember 32 rfl) zf_X0_22 (by decide) rfl (v := 39) rfl (n := 59) rfl ?_
      refine p_iconst (z_dec zd_X0_remember 33 rfl) (v := 1) (by decide) (n := 60) rfl ?_
      refine p_iadd (z_dec zd_X0_remember 34 rfl) (n := 61) rfl ?_
      refine q_putI (z_dec zd_X0_remember 35 rfl) zp_X0_22 (fun q => by cases q) rfl (n := 64) rfl ?_
      refine p_aload_n (z_dec zd_X0_remember 36 rfl) rfl 0 rfl (n := 65) rfl ?_
      refine p_iconst (z_dec zd_X0_remember 37 rfl) (v := 0) (by decide) (n := 66) rfl ?_
      refine q_putI (z_dec zd_X0_remember 38 rfl) zp_X0_26 (fun q => by cases q) rfl (n := 69) rfl ?_
      exact p_vret (z_dec zd_X0_remember 39 rfl) rfl ⟨rfl, rfl, (z_3 (by unfold m_X0_remember; rw [if_neg h6]) rfl)⟩
  exact hentry
theorem z_becO (I : Nat → Nat → Int32) (one what v : Int32) {k a : Nat} (j : Nat) (h : a < k ∨ k + 5 < a) : m_X7_become I k one what v a j = I a j := by
  unfold m_X7_become
  (repeat' split) <;> first | rfl | exact z_up_k _ _ (by omega)
def m_X0_undoOn (I : Nat → Nat → Int32) (dn : Nat) : Nat → Nat → Int32 := if (nI dn) ≤ 0 then I else (m_X7_become (z_up (z_up I 33 4 (nI (dn - 1))) 33 5 ((I 33 5) + 1)) 1 (I 34 (dn - 1)) (I 35 (dn - 1)) (I 36 (dn - 1)))
set_option maxHeartbeats 4000000 in
set_option maxRecDepth 100000 in
theorem c_X0_undoOn (d : Nat) (hd : 2 ≤ d) (b : Bool) (I : Nat → Nat → Int32) (L : Nat → Nat → Int64) (np : Nat) (hnp : I 1 0 = nI np) (hn10 : np ≤ 10) (dn : Nat) (hdn : I 33 4 = nI dn) (hd40 : dn ≤ 40) : z_CT zm_X0_undoOn d [.ref 33, .ref 1] SH (I, L, z_R b) 0 0 (z_ret (none) ((m_X0_undoOn I dn), L, z_R b)) := by
  refine z_enter (by decide +kernel) (Nat.le_of_ble_eq_true rfl) ?_
  have hentry : PW zm_X0_undoOn d 0 [(0, .ref 33), (1, .ref 1)] [] SH (I, L, z_R b) 0 0 (z_ret (none) ((m_X0_undoOn I dn), L, z_R b)) := by
    refine p_aload_n (z_dec zd_X0_undoOn 0 rfl) rfl 0 rfl (n := 1) rfl ?_
    refine q_getI (z_dec zd_X0_undoOn 1 rfl) zf_X0_22 (by decide) rfl (v := (nI dn)) hdn (n := 4) rfl ?_
    refine p_if_le (z_dec zd_X0_undoOn 2 rfl) (t := 58) (by decide) (n := 7) rfl (fun h4 => ?_) (fun h4 => ?_)
    · exact p_vret (z_dec zd_X0_undoOn 32 rfl) rfl ⟨rfl, rfl, (z_3 (by unfold m_X0_undoOn; rw [if_pos h4]) rfl)⟩
    · have hdl : 0 < dn := z_nge (a := dn) (b := 0) h4
      refine p_aload_n (z_dec zd_X0_undoOn 3 rfl) rfl 0 rfl (n := 8) rfl ?_
      refine p_dup (z_dec zd_X0_undoOn 4 rfl) rfl (n := 9) rfl ?_
      refine q_getI (z_dec zd_X0_undoOn 5 rfl) zf_X0_22 (by decide) rfl (v := (nI dn)) hdn (n := 12) rfl ?_
      refine p_iconst (z_dec zd_X0_undoOn 6 rfl) (v := 1) (by decide) (n := 13) rfl ?_
      refine p_isub (z_dec zd_X0_undoOn 7 rfl) (n := 14) rfl ?_
      refine z_lv rfl (show _ = [.int (nI (dn - 1)), .ref 33] from (by rw [z_pred hdl])) rfl ?_
      refine q_putI (z_dec zd_X0_undoOn 8 rfl) zp_X0_22 (fun q => by cases q) rfl (n := 17) rfl ?_
      refine p_aload_n (z_dec zd_X0_undoOn 9 rfl) rfl 0 rfl (n := 18) rfl ?_
      refine p_dup (z_dec zd_X0_undoOn 10 rfl) rfl (n := 19) rfl ?_
      refine q_getI (z_dec zd_X0_undoOn 11 rfl) zf_X0_26 (by decide) rfl (v := (I 33 5)) rfl (n := 22) rfl ?_
      refine p_iconst (z_dec zd_X0_undoOn 12 rfl) (v := 1) (by decide) (n := 23) rfl ?_
      refine p_iadd (z_dec zd_X0_undoOn 13 rfl) (n := 24) rfl ?_
      refine q_putI (z_dec zd_X0_undoOn 14 rfl) zp_X0_26 (fun q => by cases q) rfl (n := 27) rfl ?_
      refine p_aload_n (z_dec zd_X0_undoOn 15 rfl) rfl 1 rfl (n := 28) rfl ?_
      refine p_aload_n (z_dec zd_X0_undoOn 16 rfl) rfl 0 rfl (n := 29) rfl ?_
      refine q_getR (z_dec zd_X0_undoOn 17 rfl) zf_X0_9 (i := 34) rfl rfl (n := 32) rfl ?_
      refine p_aload_n (z_dec zd_X0_undoOn 18 rfl) rfl 0 rfl (n := 33) rfl ?_
      refine q_getI (z_dec zd_X0_undoOn 19 rfl) zf_X0_22 (by decide) rfl (v := (nI (dn - 1))) rfl (n := 36) rfl ?_
      refine q_iald (z_dec zd_X0_undoOn 20 rfl) rfl (by decide) ((dn - 1)) rfl (by omega) (v := (I 34 (dn - 1))) rfl (n := 37) rfl ?_
      refine p_aload_n (z_dec zd_X0_undoOn 21 rfl) rfl 0 rfl (n := 38) rfl ?_
      refine q_getR (z_dec zd_X0_undoOn 22 rfl) zf_X0_13 (i := 35) rfl rfl (n := 41) rfl ?_
      refine p_aload_n (z_dec zd_X0_undoOn 23 rfl) rfl 0 rfl (n := 42) rfl ?_
      refine q_getI (z_dec zd_X0_undoOn 24 rfl) zf_X0_22 (by decide) rfl (v := (nI (dn - 1))) rfl (n := 45) rfl ?_
      refine q_iald (z_dec zd_X0_undoOn 25 rfl) rfl (by decide) ((dn - 1)) rfl (by omega) (v := (I 35 (dn - 1))) rfl (n := 46) rfl ?_
      refine p_aload_n (z_dec zd_X0_undoOn 26 rfl) rfl 0 rfl (n := 47) rfl ?_
      refine q_getR (z_dec zd_X0_undoOn 27 rfl) zf_X0_16 (i := 36) rfl rfl (n := 50) rfl ?_
      refine p_aload_n (z_dec zd_X0_undoOn 28 rfl) rfl 0 rfl (n := 51) rfl ?_
      refine q_getI (z_dec zd_X0_undoOn 29 rfl) zf_X0_22 (by decide) rfl (v := (nI (dn - 1))) rfl (n := 54) rfl ?_
      refine q_iald (z_dec zd_X0_undoOn 30 rfl) rfl (by decide) ((dn - 1)) rfl (by omega) (v := (I 36 (dn - 1))) rfl (n := 55) rfl ?_
      refine q_callV (As := [.int (I 34 (dn - 1)), .int (I 35 (dn - 1)), .int (I 36 (dn - 1))]) (rest := []) (z_dec zd_X0_undoOn 31 rfl) zk_X0_38 zv_X7_become (c_X7_become (d - 1) (by omega) b (z_up (z_up I 33 4 (nI (dn - 1))) 33 5 ((I 33 5) + 1)) L 1 (z_Yd1 b) np hnp hn10 (I 34 (dn - 1)) (I 35 (dn - 1)) (I 36 (dn - 1))) rfl ⟨_, _, rfl⟩ rfl rfl (Nat.le_of_ble_eq_true rfl) (by omega) (n := 58) rfl ?_
      show PW zm_X0_undoOn d 58 [(0, .ref 33), (1, .ref 1)] [] SH ((m_X7_become (z_up (z_up I 33 4 (nI (dn - 1))) 33 5 ((I 33 5) + 1)) 1 (I 34 (dn - 1)) (I 35 (dn - 1)) (I 36 (dn - 1))), L, z_R b) 0 0 _
      exact p_vret (z_dec zd_X0_undoOn 32 rfl) rfl ⟨rfl, rfl, (z_3 (by unfold m_X0_undoOn; rw [if_neg h4]) rfl)⟩
  exact hentry
def m_X0_redoOn (I : Nat → Nat → Int32) (dn : Nat) : Nat → Nat → Int32 := if (I 33 5) ≤ 0 then I else if 40 ≤ (nI dn) then I else (z_up (z_up (m_X7_become I 1 (I 34 dn) (I 35 dn) (I 37 dn)) 33 4 ((nI dn) + 1)) 33 5 ((I 33 5) - 1))
set_option maxHeartbeats 4000000 in
set_option maxRecDepth 100000 in
theorem c_X0_redoOn (d : Nat) (hd : 2 ≤ d) (b : Bool) (I : Nat → Nat → Int32) (L : Nat → Nat → Int64) (np : Nat) (hnp : I 1 0 = nI np) (hn10 : np ≤ 10) (dn : Nat) (hdn : I 33 4 = nI dn) (hd40 : dn ≤ 40) : z_CT zm_X0_redoOn d [.ref 33, .ref 1] SH (I, L, z_R b) 0 0 (z_ret (none) ((m_X0_redoOn I dn), L, z_R b)) := by
  refine z_enter (by decide +kernel) (Nat.le_of_ble_eq_true rfl) ?_
  have hentry : PW zm_X0_redoOn d 0 [(0, .ref 33), (1, .ref 1)] [] SH (I, L, z_R b) 0 0 (z_ret (none) ((m_X0_redoOn I dn), L, z_R b)) := by
    refine p_aload_n (z_dec zd_X0_redoOn 0 rfl) rfl 0 rfl (n := 1) rfl ?_
    refine q_getI (z_dec zd_X0_redoOn 1 rfl) zf_X0_26 (by decide) rfl (v := (I 33 5)) rfl (n := 4) rfl ?_
    refine p_if_le (z_dec zd_X0_redoOn 2 rfl) (t := 67) (by decide) (n := 7) rfl (fun h4 => ?_) (fun h4 => ?_)
    · exact p_vret (z_dec zd_X0_redoOn 36 rfl) rfl ⟨rfl, rfl, (z_3 (by unfold m_X0_redoOn; rw [if_pos h4]) rfl)⟩
    · refine p_aload_n (z_dec zd_X0_redoOn 3 rfl) rfl 0 rfl (n := 8) rfl ?_
      refine q_getI (z_dec zd_X0_redoOn 4 rfl) zf_X0_22 (by decide) rfl (v := (nI dn)) hdn (n := 11) rfl ?_
      refine p_bipush (z_dec zd_X0_redoOn 5 rfl) (v := 40) (by decide) (n := 13) rfl ?_
      refine p_icmp_ge (z_dec zd_X0_redoOn 6 rfl) (t := 67) (by decide) (n := 16) rfl (fun h13 => ?_) (fun h13 => ?_)
      · exact p_vret (z_dec zd_X0_redoOn 36 rfl) rfl ⟨rfl, rfl, (z_3 (by unfold m_X0_redoOn; rw [if_neg h4, if_pos h13]) rfl)⟩
      · have hdl : dn < 40 := z_nge (a := 40) h13
        refine p_aload_n (z_dec zd_X0_redoOn 7 rfl) rfl 1 rfl (n := 17) rfl ?_
        refine p_aload_n (z_dec zd_X0_redoOn 8 rfl) rfl 0 rfl (n := 18) rfl ?_
        refine q_getR (z_dec zd_X0_redoOn 9 rfl) zf_X0_9 (i := 34) rfl rfl (n := 21) rfl ?_
        refine p_aload_n (z_dec zd_X0_redoOn 10 rfl) rfl 0 rfl (n := 22) rfl ?_
        refine q_getI (z_dec zd_X0_redoOn 11 rfl) zf_X0_22 (by decide) rfl (v := (nI dn)) hdn (n := 25) rfl ?_
        refine q_iald (z_dec zd_X0_redoOn 12 rfl) rfl (by decide) (dn) rfl (by omega) (v := (I 34 dn)) rfl (n := 26) rfl ?_
        refine p_aload_n (z_dec zd_X0_redoOn 13 rfl) rfl 0 rfl (n := 27) rfl ?_
        refine q_getR (z_dec zd_X0_redoOn 14 rfl) zf_X0_13 (i := 35) rfl rfl (n := 30) rfl ?_
        refine p_aload_n (z_dec zd_X0_redoOn 15 rfl) rfl 0 rfl (n := 31) rfl ?_
        refine q_getI (z_dec zd_X0_redoOn 16 rfl) zf_X0_22 (by decide) rfl (v := (nI dn)) hdn (n := 34) rfl ?_
        refine q_iald (z_dec zd_X0_redoOn 17 rfl) rfl (by decide) (dn) rfl (by omega) (v := (I 35 dn)) rfl (n := 35) rfl ?_
        refine p_aload_n (z_dec zd_X0_redoOn 18 rfl) rfl 0 rfl (n := 36) rfl ?_
        refine q_getR (z_dec zd_X0_redoOn 19 rfl) zf_X0_19 (i := 37) rfl rfl (n := 39) rfl ?_
        refine p_aload_n (z_dec zd_X0_redoOn 20 rfl) rfl 0 rfl (n := 40) rfl ?_
        refine q_getI (z_dec zd_X0_redoOn 21 rfl) zf_X0_22 (by decide) rfl (v := (nI dn)) hdn (n := 43) rfl ?_
        refine q_iald (z_dec zd_X0_redoOn 22 rfl) rfl (by decide) (dn) rfl (by omega) (v := (I 37 dn)) rfl (n := 44) rfl ?_
        refine q_callV (As := [.int (I 34 dn), .int (I 35 dn), .int (I 37 dn)]) (rest := []) (z_dec zd_X0_redoOn 23 rfl) zk_X0_38 zv_X7_become (c_X7_become (d - 1) (by omega) b I L 1 (z_Yd1 b) np hnp hn10 (I 34 dn) (I 35 dn) (I 37 dn)) rfl ⟨_, _, rfl⟩ rfl rfl (Nat.le_of_ble_eq_true rfl) (by omega) (n := 47) rfl ?_
        show PW zm_X0_redoOn d 47 [(0, .ref 33), (1, .ref 1)] [] SH ((m_X7_become I 1 (I 34 dn) (I 35 dn) (I 37 dn)), L, z_R b) 0 0 _
        refine p_aload_n (z_dec zd_X0_redoOn 24 rfl) rfl 0 rfl (n := 48) rfl ?_
        refine p_dup (z_dec zd_X0_redoOn 25 rfl) rfl (n := 49) rfl ?_
        refine q_getI (z_dec zd_X0_redoOn 26 rfl) zf_X0_22 (by decide) rfl (v := (nI dn)) ((z_becO _ _ _ _ _ (by decide)).trans hdn) (n := 52) rfl ?_
        refine p_iconst (z_dec zd_X0_redoOn 27 rfl) (v := 1) (by decide) (n := 53) rfl ?_
        refine p_iadd (z_dec zd_X0_redoOn 28 rfl) (n := 54) rfl ?_
        refine q_putI (z_dec zd_X0_redoOn 29 rfl) zp_X0_22 (fun q => by cases q) rfl (n := 57) rfl ?_
        refine p_aload_n (z_dec zd_X0_redoOn 30 rfl) rfl 0 rfl (n := 58) rfl ?_
        refine p_dup (z_dec zd_X0_redoOn 31 rfl) rfl (n := 59) rfl ?_
        refine q_getI (z_dec zd_X0_redoOn 32 rfl) zf_X0_26 (by decide) rfl (v := (I 33 5)) (z_becO _ _ _ _ _ (by decide)) (n := 62) rfl ?_
        refine p_iconst (z_dec zd_X0_redoOn 33 rfl) (v := 1) (by decide) (n := 63) rfl ?_
        refine p_isub (z_dec zd_X0_redoOn 34 rfl) (n := 64) rfl ?_
        refine q_putI (z_dec zd_X0_redoOn 35 rfl) zp_X0_26 (fun q => by cases q) rfl (n := 67) rfl ?_
        exact p_vret (z_dec zd_X0_redoOn 36 rfl) rfl ⟨rfl, rfl, (z_3 (by unfold m_X0_redoOn; rw [if_neg h4, if_neg h13]) rfl)⟩
  exact hentry
