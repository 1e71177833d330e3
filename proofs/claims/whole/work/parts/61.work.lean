/-- a reading begins -/
def z_w0 (I : Nat → Nat → Int32) (fr : Int32) (n : Nat) : Nat → Nat → Int32 := z_up (z_up (z_up (z_up (z_up I 54 11 fr) 54 12 0) 54 13 (nI n)) 54 14 (-1)) 54 15 0
theorem z_Qw0 (I : Nat → Nat → Int32) {fr : Int32} {n : Nat} (hfr : fr < 0 ∨ fr = 0) (hn : n < 121) : z_Q (z_w0 I fr n) := by
  have e13 : (z_w0 I fr n 54 13).toNatClampNeg = n := by show (nI n).toNatClampNeg = n; exact nI_clamp (by omega)
  refine ⟨⟨?_, ?_⟩, ⟨rfl, Nat.zero_le _⟩, hfr, rfl, Nat.zero_le _⟩
  · rw [e13]; rfl
  · rw [e13]; omega
theorem z_ws1 {M : Nat → Nat → Int32} (h : z_Q M) : z_me M + (1 : Int32).toNatClampNeg < 122 := by
  have := z_meQ h
  have e : (1 : Int32).toNatClampNeg = 1 := rfl
  omega
theorem z_wm {Iv M : Nat → Nat → Int32} {v : Int32} (h : z_K Iv M) (hv : v = 0 ∨ v = 1) (h5 : ¬ v = 0) : z_me (m_X9_takes M 59) + (f_X9_takes M 59).toNatClampNeg < z_me Iv + v.toNatClampNeg := by
  have hv1 : v = 1 := hv.resolve_left h5
  subst hv1
  have e : (1 : Int32).toNatClampNeg = 1 := rfl
  have h1 := z_K_me h
  rcases fb_X9_takes M 59 with q | q
  · have h2 := z_K_me (z_K_tk h.1 (c := 59) (by decide))
    rw [q, show (0 : Int32).toNatClampNeg = 0 from rfl]
    omega
  · have h2 := z_tk_me h.1 (c := 59) (by decide) (by rw [q]; decide)
    rw [q]
    omega
def gx_X9_workOut_33  : Nat → Nat → (Int32) → (Int32) → (Int32) → (Nat → Nat → Int32) → Int32 × (Nat → Nat → Int32)
  | 0, t33, v3, v4, v5, Iv => (0, Iv)
  | r33 + 1, t33, v3, v4, v5, Iv => if v5 = 0 then if 0 ≤ (Iv 54 14) then (v4, Iv) else if (Iv 54 13) ≤ (Iv 54 12) then (v4, Iv) else ((f_X9_wrong Iv), (m_X9_wrong Iv)) else if (f_X9_takes ((z_eE Iv).2) 63) = 0 then if 0 ≤ ((m_X9_takes ((z_eE Iv).2) 63) 54 14) then gx_X9_workOut_33 r33 (t33 + 1) v3 v4 (f_X9_takes (m_X9_takes ((z_eE Iv).2) 63) 59) (m_X9_takes (m_X9_takes ((z_eE Iv).2) 63) 59) else if v3 = 0 then gx_X9_workOut_33 r33 (t33 + 1) 1 ((z_eE Iv).1) (f_X9_takes (m_X9_takes ((z_eE Iv).2) 63) 59) (m_X9_takes (m_X9_takes ((z_eE Iv).2) 63) 59) else gx_X9_workOut_33 r33 (t33 + 1) v3 v4 (f_X9_takes (m_X9_takes ((z_eE Iv).2) 63) 59) (m_X9_takes (m_X9_takes ((z_eE Iv).2) 63) 59) else if (z_eE Iv).1 = 0 then if 0 ≤ ((z_eE (m_X9_takes ((z_eE Iv).2) 63)).2 54 14) then gx_X9_workOut_33 r33 (t33 + 1) v3 v4 (f_X9_takes ((z_eE (m_X9_takes ((z_eE Iv).2) 63)).2) 59) (m_X9_takes ((z_eE (m_X9_takes ((z_eE Iv).2) 63)).2) 59) else gx_X9_workOut_33 r33 (t33 + 1) v3 v4 (f_X9_takes ((z_eE (m_X9_takes ((z_eE Iv).2) 63)).2) 59) (m_X9_takes ((z_eE (m_X9_takes ((z_eE Iv).2) 63)).2) 59) else if 0 ≤ ((z_eE (m_X9_takes ((z_eE Iv).2) 63)).2 54 14) then gx_X9_workOut_33 r33 (t33 + 1) v3 v4 (f_X9_takes ((z_eE (m_X9_takes ((z_eE Iv).2) 63)).2) 59) (m_X9_takes ((z_eE (m_X9_takes ((z_eE Iv).2) 63)).2) 59) else if v3 = 0 then gx_X9_workOut_33 r33 (t33 + 1) 1 ((z_eE (m_X9_takes ((z_eE Iv).2) 63)).1) (f_X9_takes ((z_eE (m_X9_takes ((z_eE Iv).2) 63)).2) 59) (m_X9_takes ((z_eE (m_X9_takes ((z_eE Iv).2) 63)).2) 59) else gx_X9_workOut_33 r33 (t33 + 1) v3 v4 (f_X9_takes ((z_eE (m_X9_takes ((z_eE Iv).2) 63)).2) 59) (m_X9_takes ((z_eE (m_X9_takes ((z_eE Iv).2) 63)).2) 59)
def f_X9_workOut (I : Nat → Nat → Int32) (fr : Int32) (n : Nat) : Int32 := (gx_X9_workOut_33 122 0 0 0 1 (z_w0 I fr n)).1
def m_X9_workOut (I : Nat → Nat → Int32) (fr : Int32) (n : Nat) : Nat → Nat → Int32 := (gx_X9_workOut_33 122 0 0 0 1 (z_w0 I fr n)).2
set_option maxHeartbeats 4000000 in
set_option maxRecDepth 100000 in
theorem c_X9_workOut (d : Nat) (hd : 54 ≤ d) (b : Bool) (I : Nat → Nat → Int32) (L : Nat → Nat → Int64) (fr : Int32) (hfr : fr < 0 ∨ fr = 0) (n : Nat) (hn : n < 121) : z_CT zm_X9_workOut d [.ref 54, .int fr, .int (nI n)] SH (I, L, z_R b) 0 0 (z_ret (some (.int (f_X9_workOut I fr n))) ((m_X9_workOut I fr n), L, z_R b)) := by
  refine z_enter (by decide +kernel) (Nat.le_of_ble_eq_true rfl) ?_
  have hentry : PW zm_X9_workOut d 0 [(0, .ref 54), (1, .int fr), (2, .int (nI n))] [] SH (I, L, z_R b) 0 0 (z_ret (some (.int (f_X9_workOut I fr n))) ((m_X9_workOut I fr n), L, z_R b)) := by
    refine p_aload_n (z_dec zd_X9_workOut 0 rfl) rfl 0 rfl (n := 1) rfl ?_
    refine p_iload_n (z_dec zd_X9_workOut 1 rfl) rfl 1 rfl (n := 2) rfl ?_
    refine q_putI (z_dec zd_X9_workOut 2 rfl) zp_X9_150 (fun q => by cases q) rfl (n := 5) rfl ?_
    refine p_aload_n (z_dec zd_X9_workOut 3 rfl) rfl 0 rfl (n := 6) rfl ?_
    refine p_iconst (z_dec zd_X9_workOut 4 rfl) (v := 0) (by decide) (n := 7) rfl ?_
    refine q_putI (z_dec zd_X9_workOut 5 rfl) zp_X9_144 (fun q => by cases q) rfl (n := 10) rfl ?_
    refine p_aload_n (z_dec zd_X9_workOut 6 rfl) rfl 0 rfl (n := 11) rfl ?_
    refine p_iload_n (z_dec zd_X9_workOut 7 rfl) rfl 2 rfl (n := 12) rfl ?_
    refine q_putI (z_dec zd_X9_workOut 8 rfl) zp_X9_147 (fun q => by cases q) rfl (n := 15) rfl ?_
    refine p_aload_n (z_dec zd_X9_workOut 9 rfl) rfl 0 rfl (n := 16) rfl ?_
    refine p_iconst (z_dec zd_X9_workOut 10 rfl) (v := (-1)) (by decide) (n := 17) rfl ?_
    refine q_putI (z_dec zd_X9_workOut 11 rfl) zp_X9_153 (fun q => by cases q) rfl (n := 20) rfl ?_
    refine p_aload_n (z_dec zd_X9_workOut 12 rfl) rfl 0 rfl (n := 21) rfl ?_
    refine p_iconst (z_dec zd_X9_workOut 13 rfl) (v := 0) (by decide) (n := 22) rfl ?_
    refine q_putI (z_dec zd_X9_workOut 14 rfl) zp_X9_178 (fun q => by cases q) rfl (n := 25) rfl ?_
    refine z_lv rfl rfl (show _ = ((z_w0 I fr n), L, z_R b) from rfl) ?_
    have hQ0 := z_Qw0 I hfr hn
    refine p_iconst (z_dec zd_X9_workOut 15 rfl) (v := 0) (by decide) (n := 26) rfl ?_
    refine p_istore_n (z_dec zd_X9_workOut 16 rfl) rfl (lv2 := [(3, .int 0), (0, .ref 54), (1, .int fr), (2, .int (nI n))]) (by decide) rfl (n := 27) rfl ?_
    refine p_iconst (z_dec zd_X9_workOut 17 rfl) (v := 0) (by decide) (n := 28) rfl ?_
    refine p_istore (z_dec zd_X9_workOut 18 rfl) (lv2 := [(4, .int 0), (3, .int 0), (0, .ref 54), (1, .int fr), (2, .int (nI n))]) (by decide) rfl (n := 30) rfl ?_
    refine p_iconst (z_dec zd_X9_workOut 19 rfl) (v := 1) (by decide) (n := 31) rfl ?_
    refine p_istore (z_dec zd_X9_workOut 20 rfl) (lv2 := [(5, .int 1), (4, .int 0), (3, .int 0), (0, .ref 54), (1, .int fr), (2, .int (nI n))]) (by decide) rfl (n := 33) rfl ?_
    have hL33 : ∀ (r33 t33 : Nat) (v3 : Int32) (v4 : Int32) (v5 : Int32) (Iv : Nat → Nat → Int32), z_me Iv + v5.toNatClampNeg < r33 → (z_K (z_w0 I fr n) Iv ∧ (v5 = 0 ∨ v5 = 1)) → PW zm_X9_workOut d 33 [(5, .int v5), (4, .int v4), (3, .int v3), (0, .ref 54), (1, .int fr), (2, .int (nI n))] [] SH (Iv, L, z_R b) 0 0 (z_ret (some (.int (gx_X9_workOut_33 r33 t33 v3 v4 v5 Iv).1)) ((gx_X9_workOut_33 r33 t33 v3 v4 v5 Iv).2, L, z_R b)) := by
      intro r33
      induction r33 with
      | zero =>
        intro t33 v3 v4 v5 Iv ht33 hlo
        exact absurd ht33 (Nat.not_lt_zero _)
      | succ r33 ih33 =>
        intro t33 v3 v4 v5 Iv ht33 hlo
        refine p_iload (z_dec zd_X9_workOut 21 rfl) 0 rfl (n := 35) rfl ?_
        refine p_if_eq (z_dec zd_X9_workOut 22 rfl) (t := 107) (by decide) (n := 38) rfl (fun h35 => ?_) (fun h35 => ?_)
        · refine p_aload_n (z_dec zd_X9_workOut 57 rfl) rfl 3 rfl (n := 108) rfl ?_
          refine q_getI (z_dec zd_X9_workOut 58 rfl) zf_X9_153 (by decide) rfl (v := (Iv 54 14)) rfl (n := 111) rfl ?_
          refine p_if_ge (z_dec zd_X9_workOut 59 rfl) (t := 130) (by decide) (n := 114) rfl (fun h111 => ?_) (fun h111 => ?_)
          · refine p_iload (z_dec zd_X9_workOut 68 rfl) 1 rfl (n := 132) rfl ?_
            exact p_iret (z_dec zd_X9_workOut 69 rfl) rfl ⟨(by (conv => rhs; unfold gx_X9_workOut_33); rw [if_pos h35, if_pos h111]), rfl, (z_3 (by (conv => rhs; unfold gx_X9_workOut_33); rw [if_pos h35, if_pos h111]) rfl)⟩
          · refine p_aload_n (z_dec zd_X9_workOut 60 rfl) rfl 3 rfl (n := 115) rfl ?_
            refine q_getI (z_dec zd_X9_workOut 61 rfl) zf_X9_144 (by decide) rfl (v := (Iv 54 12)) rfl (n := 118) rfl ?_
            refine p_aload_n (z_dec zd_X9_workOut 62 rfl) rfl 3 rfl (n := 119) rfl ?_
            refine q_getI (z_dec zd_X9_workOut 63 rfl) zf_X9_147 (by decide) rfl (v := (Iv 54 13)) rfl (n := 122) rfl ?_
            refine p_icmp_ge (z_dec zd_X9_workOut 64 rfl) (t := 130) (by decide) (n := 125) rfl (fun h122 => ?_) (fun h122 => ?_)
            · refine p_iload (z_dec zd_X9_workOut 68 rfl) 1 rfl (n := 132) rfl ?_
              exact p_iret (z_dec zd_X9_workOut 69 rfl) rfl ⟨(by (conv => rhs; unfold gx_X9_workOut_33); rw [if_pos h35, if_neg h111, if_pos h122]), rfl, (z_3 (by (conv => rhs; unfold gx_X9_workOut_33); rw [if_pos h35, if_neg h111, if_pos h122]) rfl)⟩
            · refine p_aload_n (z_dec zd_X9_workOut 65 rfl) rfl 3 rfl (n := 126) rfl ?_
              refine q_callV (As := []) (rest := []) (z_dec zd_X9_workOut 66 rfl) zk_X9_181 zv_X9_wrong (c_X9_wrong (d - 1) (by omega) b Iv L) rfl ⟨_, _, rfl⟩ rfl rfl (Nat.le_of_ble_eq_true rfl) (by omega) (n := 129) rfl ?_
              show PW zm_X9_workOut d 129 [(5, .int v5), (4, .int v4), (3, .int v3), (0, .ref 54), (1, .int fr), (2, .int (nI n))] [.int (f_X9_wrong Iv)] SH ((m_X9_wrong Iv), L, z_R b) 0 0 _
              exact p_iret (z_dec zd_X9_workOut 67 rfl) rfl ⟨(by (conv => rhs; unfold gx_X9_workOut_33); rw [if_pos h35, if_neg h111, if_neg h122]), rfl, (z_3 (by (conv => rhs; unfold gx_X9_workOut_33); rw [if_pos h35, if_neg h111, if_neg h122]) rfl)⟩
        · refine p_aload_n (z_dec zd_X9_workOut 23 rfl) rfl 3 rfl (n := 39) rfl ?_
          refine q_callV (As := []) (rest := []) (z_dec zd_X9_workOut 24 rfl) zk_X9_184 zv_X9_either (c_zE (d - 1) (by omega) b Iv L (z_K_rf hlo.1.1).1) rfl ⟨_, _, rfl⟩ rfl rfl (Nat.le_of_ble_eq_true rfl) (by omega) (n := 42) rfl ?_
          show PW zm_X9_workOut d 42 [(5, .int v5), (4, .int v4), (3, .int v3), (0, .ref 54), (1, .int fr), (2, .int (nI n))] [.int ((z_eE Iv).1)] SH ((z_eE Iv).2, L, z_R b) 0 0 _
          have hP42 : z_K Iv ((z_eE Iv).2) := z_eEK _ hlo.1.1
          refine p_istore (z_dec zd_X9_workOut 25 rfl) (lv2 := [(6, .int ((z_eE Iv).1)), (5, .int v5), (4, .int v4), (3, .int v3), (0, .ref 54), (1, .int fr), (2, .int (nI n))]) (by decide) rfl (n := 44) rfl ?_
          refine p_iconst (z_dec zd_X9_workOut 26 rfl) (v := 1) (by decide) (n := 45) rfl ?_
          refine p_istore (z_dec zd_X9_workOut 27 rfl) (lv2 := [(7, .int 1), (6, .int ((z_eE Iv).1)), (5, .int v5), (4, .int v4), (3, .int v3), (0, .ref 54), (1, .int fr), (2, .int (nI n))]) (by decide) rfl (n := 47) rfl ?_
          refine p_aload_n (z_dec zd_X9_workOut 28 rfl) rfl 5 rfl (n := 48) rfl ?_
          refine p_bipush (z_dec zd_X9_workOut 29 rfl) (v := 63) (by decide) (n := 50) rfl ?_
          refine q_callV (As := [.int 63]) (rest := []) (z_dec zd_X9_workOut 30 rfl) zk_X9_163 zv_X9_takes (c_X9_takes (d - 1) (by omega) b ((z_eE Iv).2) L 63 hP42.1) rfl ⟨_, _, rfl⟩ rfl rfl (Nat.le_of_ble_eq_true rfl) (by omega) (n := 53) rfl ?_
          show PW zm_X9_workOut d 53 [(7, .int 1), (6, .int ((z_eE Iv).1)), (5, .int v5), (4, .int v4), (3, .int v3), (0, .ref 54), (1, .int fr), (2, .int (nI n))] [.int (f_X9_takes ((z_eE Iv).2) 63)] SH ((m_X9_takes ((z_eE Iv).2) 63), L, z_R b) 0 0 _
          have hP53 : z_K Iv ((m_X9_takes ((z_eE Iv).2) 63)) := z_K_tr hP42 (z_K_tk hP42.1 (by decide))
          refine p_if_eq (z_dec zd_X9_workOut 31 rfl) (t := 74) (by decide) (n := 56) rfl (fun h53 => ?_) (fun h53 => ?_)
          · refine p_aload_n (z_dec zd_X9_workOut 41 rfl) rfl 5 rfl (n := 75) rfl ?_
            refine q_getI (z_dec zd_X9_workOut 42 rfl) zf_X9_153 (by decide) rfl (v := ((m_X9_takes ((z_eE Iv).2) 63) 54 14)) rfl (n := 78) rfl ?_
            refine p_if_ge (z_dec zd_X9_workOut 43 rfl) (t := 96) (by decide) (n := 81) rfl (fun h78 => ?_) (fun h78 => ?_)
            · have hP96 : z_K Iv ((m_X9_takes ((z_eE Iv).2) 63)) := hP53
              refine p_aload_n (z_dec zd_X9_workOut 52 rfl) rfl 5 rfl (n := 97) rfl ?_
              refine p_bipush (z_dec zd_X9_workOut 53 rfl) (v := 59) (by decide) (n := 99) rfl ?_
              refine q_callV (As := [.int 59]) (rest := []) (z_dec zd_X9_workOut 54 rfl) zk_X9_163 zv_X9_takes (c_X9_takes (d - 1) (by omega) b (m_X9_takes ((z_eE Iv).2) 63) L 59 hP53.1) rfl ⟨_, _, rfl⟩ rfl rfl (Nat.le_of_ble_eq_true rfl) (by omega) (n := 102) rfl ?_
              show PW zm_X9_workOut d 102 [(7, .int 1), (6, .int ((z_eE Iv).1)), (5, .int v5), (4, .int v4), (3, .int v3), (0, .ref 54), (1, .int fr), (2, .int (nI n))] [.int (f_X9_takes (m_X9_takes ((z_eE Iv).2) 63) 59)] SH ((m_X9_takes (m_X9_takes ((z_eE Iv).2) 63) 59), L, z_R b) 0 0 _
              have hP102 : z_K Iv ((m_X9_takes (m_X9_takes ((z_eE Iv).2) 63) 59)) := z_K_tr hP96 (z_K_tk hP96.1 (by decide))
              refine p_istore (z_dec zd_X9_workOut 55 rfl) (lv2 := [(5, .int (f_X9_takes (m_X9_takes ((z_eE Iv).2) 63) 59)), (7, .int 1), (6, .int ((z_eE Iv).1)), (4, .int v4), (3, .int v3), (0, .ref 54), (1, .int fr), (2, .int (nI n))]) (by decide) rfl (n := 104) rfl ?_
              refine p_goto (z_dec zd_X9_workOut 56 rfl) (t := 33) (by decide) ?_
              refine z_sub (lv' := [(5, .int (f_X9_takes (m_X9_takes ((z_eE Iv).2) 63) 59)), (4, .int v4), (3, .int v3), (0, .ref 54), (1, .int fr), (2, .int (nI n))]) [0, 3, 4, 5, 6, 7] rfl ?_
              rw [show gx_X9_workOut_33 (r33 + 1) t33 v3 v4 v5 Iv = gx_X9_workOut_33 r33 (t33 + 1) v3 v4 (f_X9_takes (m_X9_takes ((z_eE Iv).2) 63) 59) (m_X9_takes (m_X9_takes ((z_eE Iv).2) 63) 59) from by (conv => lhs; unfold gx_X9_workOut_33); rw [if_neg h35, if_pos h53, if_pos h78]]
              exact ih33 (t33 + 1) v3 v4 (f_X9_takes (m_X9_takes ((z_eE Iv).2) 63) 59) (m_X9_takes (m_X9_takes ((z_eE Iv).2) 63) 59) (z_lt_le (z_wm hP96 hlo.2 h35) ht33) ⟨z_K_tr hlo.1 hP102, fb_X9_takes _ _⟩
            · refine p_iload (z_dec zd_X9_workOut 44 rfl) 0 rfl (n := 83) rfl ?_
              refine p_if_eq (z_dec zd_X9_workOut 45 rfl) (t := 96) (by decide) (n := 86) rfl (fun h83 => ?_) (fun h83 => ?_)
              · exact absurd h83 (by decide)
              · refine p_iload_n (z_dec zd_X9_workOut 46 rfl) rfl 4 rfl (n := 87) rfl ?_
                refine p_if_ne (z_dec zd_X9_workOut 47 rfl) (t := 96) (by decide) (n := 90) rfl (fun h87 => ?_) (fun h87 => ?_)
                · have hP96 : z_K Iv ((m_X9_takes ((z_eE Iv).2) 63)) := hP53
                  refine p_aload_n (z_dec zd_X9_workOut 52 rfl) rfl 5 rfl (n := 97) rfl ?_
                  refine p_bipush (z_dec zd_X9_workOut 53 rfl) (v := 59) (by decide) (n := 99) rfl ?_
                  refine q_callV (As := [.int 59]) (rest := []) (z_dec zd_X9_workOut 54 rfl) zk_X9_163 zv_X9_takes (c_X9_takes (d - 1) (by omega) b (m_X9_takes ((z_eE Iv).2) 63) L 59 hP53.1) rfl ⟨_, _, rfl⟩ rfl rfl (Nat.le_of_ble_eq_true rfl) (by omega) (n := 102) rfl ?_
                  show PW zm_X9_workOut d 102 [(7, .int 1), (6, .int ((z_eE Iv).1)), (5, .int v5), (4, .int v4), (3, .int v3), (0, .ref 54), (1, .int fr), (2, .int (nI n))] [.int (f_X9_takes (m_X9_takes ((z_eE Iv).2) 63) 59)] SH ((m_X9_takes (m_X9_takes ((z_eE Iv).2) 63) 59), L, z_R b) 0 0 _
                  have hP102 : z_K Iv ((m_X9_takes (m_X9_takes ((z_eE Iv).2) 63) 59)) := z_K_tr hP96 (z_K_tk hP96.1 (by decide))
                  refine p_istore (z_dec zd_X9_workOut 55 rfl) (lv2 := [(5, .int (f_X9_takes (m_X9_takes ((z_eE Iv).2) 63) 59)), (7, .int 1), (6, .int ((z_eE Iv).1)), (4, .int v4), (3, .int v3), (0, .ref 54), (1, .int fr), (2, .int (nI n))]) (by decide) rfl (n := 104) rfl ?_
                  refine p_goto (z_dec zd_X9_workOut 56 rfl) (t := 33) (by decide) ?_
                  refine z_sub (lv' := [(5, .int (f_X9_takes (m_X9_takes ((z_eE Iv).2) 63) 59)), (4, .int v4), (3, .int v3), (0, .ref 54), (1, .int fr), (2, .int (nI n))]) [0, 3, 4, 5, 6, 7] rfl ?_
                  rw [show gx_X9_workOut_33 (r33 + 1) t33 v3 v4 v5 Iv = gx_X9_workOut_33 r33 (t33 + 1) v3 v4 (f_X9_takes (m_X9_takes ((z_eE Iv).2) 63) 59) (m_X9_takes (m_X9_takes ((z_eE Iv).2) 63) 59) from by (conv => lhs; unfold gx_X9_workOut_33); rw [if_neg h35, if_pos h53, if_neg h78, if_neg h87]]
                  exact ih33 (t33 + 1) v3 v4 (f_X9_takes (m_X9_takes ((z_eE Iv).2) 63) 59) (m_X9_takes (m_X9_takes ((z_eE Iv).2) 63) 59) (z_lt_le (z_wm hP96 hlo.2 h35) ht33) ⟨z_K_tr hlo.1 hP102, fb_X9_takes _ _⟩
                · refine p_iconst (z_dec zd_X9_workOut 48 rfl) (v := 1) (by decide) (n := 91) rfl ?_
                  refine p_istore_n (z_dec zd_X9_workOut 49 rfl) rfl (lv2 := [(3, .int 1), (7, .int 1), (6, .int ((z_eE Iv).1)), (5, .int v5), (4, .int v4), (0, .ref 54), (1, .int fr), (2, .int (nI n))]) (by decide) rfl (n := 92) rfl ?_
                  refine p_iload (z_dec zd_X9_workOut 50 rfl) 2 rfl (n := 94) rfl ?_
                  refine p_istore (z_dec zd_X9_workOut 51 rfl) (lv2 := [(4, .int ((z_eE Iv).1)), (3, .int 1), (7, .int 1), (6, .int ((z_eE Iv).1)), (5, .int v5), (0, .ref 54), (1, .int fr), (2, .int (nI n))]) (by decide) rfl (n := 96) rfl ?_
                  have hP96 : z_K Iv ((m_X9_takes ((z_eE Iv).2) 63)) := hP53
                  refine p_aload_n (z_dec zd_X9_workOut 52 rfl) rfl 5 rfl (n := 97) rfl ?_
                  refine p_bipush (z_dec zd_X9_workOut 53 rfl) (v := 59) (by decide) (n := 99) rfl ?_
                  refine q_callV (As := [.int 59]) (rest := []) (z_dec zd_X9_workOut 54 rfl) zk_X9_163 zv_X9_takes (c_X9_takes (d - 1) (by omega) b (m_X9_takes ((z_eE Iv).2) 63) L 59 hP53.1) rfl ⟨_, _, rfl⟩ rfl rfl (Nat.le_of_ble_eq_true rfl) (by omega) (n := 102) rfl ?_
                  show PW zm_X9_workOut d 102 [(4, .int ((z_eE Iv).1)), (3, .int 1), (7, .int 1), (6, .int ((z_eE Iv).1)), (5, .int v5), (0, .ref 54), (1, .int fr), (2, .int (nI n))] [.int (f_X9_takes (m_X9_takes ((z_eE Iv).2) 63) 59)] SH ((m_X9_takes (m_X9_takes ((z_eE Iv).2) 63) 59), L, z_R b) 0 0 _
                  have hP102 : z_K Iv ((m_X9_takes (m_X9_takes ((z_eE Iv).2) 63) 59)) := z_K_tr hP96 (z_K_tk hP96.1 (by decide))
                  refine p_istore (z_dec zd_X9_workOut 55 rfl) (lv2 := [(5, .int (f_X9_takes (m_X9_takes ((z_eE Iv).2) 63) 59)), (4, .int ((z_eE Iv).1)), (3, .int 1), (7, .int 1), (6, .int ((z_eE Iv).1)), (0, .ref 54), (1, .int fr), (2, .int (nI n))]) (by decide) rfl (n := 104) rfl ?_
                  refine p_goto (z_dec zd_X9_workOut 56 rfl) (t := 33) (by decide) ?_
                  refine z_sub (lv' := [(5, .int (f_X9_takes (m_X9_takes ((z_eE Iv).2) 63) 59)), (4, .int ((z_eE Iv).1)), (3, .int 1), (0, .ref 54), (1, .int fr), (2, .int (nI n))]) [0, 1, 2, 5, 6, 7] rfl ?_
                  rw [show gx_X9_workOut_33 (r33 + 1) t33 v3 v4 v5 Iv = gx_X9_workOut_33 r33 (t33 + 1) 1 ((z_eE Iv).1) (f_X9_takes (m_X9_takes ((z_eE Iv).2) 63) 59) (m_X9_takes (m_X9_takes ((z_eE Iv).2) 63) 59) from by (conv => lhs; unfold gx_X9_workOut_33); rw [if_neg h35, if_pos h53, if_neg h78, if_pos h87]]
                  exact ih33 (t33 + 1) 1 ((z_eE Iv).1) (f_X9_takes (m_X9_takes ((z_eE Iv).2) 63) 59) (m_X9_takes (m_X9_takes ((z_eE Iv).2) 63) 59) (z_lt_le (z_wm hP96 hlo.2 h35) ht33) ⟨z_K_tr hlo.1 hP102, fb_X9_takes _ _⟩
          · refine p_iload (z_dec zd_X9_workOut 32 rfl) 1 rfl (n := 58) rfl ?_
            refine p_if_eq (z_dec zd_X9_workOut 33 rfl) (t := 65) (by decide) (n := 61) rfl (fun h58 => ?_) (fun h58 => ?_)
            · refine p_iconst (z_dec zd_X9_workOut 36 rfl) (v := 0) (by decide) (n := 66) rfl ?_
              refine p_istore (z_dec zd_X9_workOut 37 rfl) (lv2 := [(7, .int 0), (6, .int ((z_eE Iv).1)), (5, .int v5), (4, .int v4), (3, .int v3), (0, .ref 54), (1, .int fr), (2, .int (nI n))]) (by decide) rfl (n := 68) rfl ?_
              refine p_aload_n (z_dec zd_X9_workOut 38 rfl) rfl 5 rfl (n := 69) rfl ?_
              refine q_callV (As := []) (rest := []) (z_dec zd_X9_workOut 39 rfl) zk_X9_184 zv_X9_either (c_zE (d - 1) (by omega) b (m_X9_takes ((z_eE Iv).2) 63) L hP53.1) rfl ⟨_, _, rfl⟩ rfl rfl (Nat.le_of_ble_eq_true rfl) (by omega) (n := 72) rfl ?_
              show PW zm_X9_workOut d 72 [(7, .int 0), (6, .int ((z_eE Iv).1)), (5, .int v5), (4, .int v4), (3, .int v3), (0, .ref 54), (1, .int fr), (2, .int (nI n))] [.int ((z_eE (m_X9_takes ((z_eE Iv).2) 63)).1)] SH ((z_eE (m_X9_takes ((z_eE Iv).2) 63)).2, L, z_R b) 0 0 _
              have hP72 : z_K Iv ((z_eE (m_X9_takes ((z_eE Iv).2) 63)).2) := z_K_tr hP53 (z_eEK _ hP53.1)
              refine p_istore (z_dec zd_X9_workOut 40 rfl) (lv2 := [(6, .int ((z_eE (m_X9_takes ((z_eE Iv).2) 63)).1)), (7, .int 0), (5, .int v5), (4, .int v4), (3, .int v3), (0, .ref 54), (1, .int fr), (2, .int (nI n))]) (by decide) rfl (n := 74) rfl ?_
              refine p_aload_n (z_dec zd_X9_workOut 41 rfl) rfl 5 rfl (n := 75) rfl ?_
              refine q_getI (z_dec zd_X9_workOut 42 rfl) zf_X9_153 (by decide) rfl (v := ((z_eE (m_X9_takes ((z_eE Iv).2) 63)).2 54 14)) rfl (n := 78) rfl ?_
              refine p_if_ge (z_dec zd_X9_workOut 43 rfl) (t := 96) (by decide) (n := 81) rfl (fun h78 => ?_) (fun h78 => ?_)
              · have hP96 : z_K Iv ((z_eE (m_X9_takes ((z_eE Iv).2) 63)).2) := hP72
                refine p_aload_n (z_dec zd_X9_workOut 52 rfl) rfl 5 rfl (n := 97) rfl ?_
                refine p_bipush (z_dec zd_X9_workOut 53 rfl) (v := 59) (by decide) (n := 99) rfl ?_
                refine q_callV (As := [.int 59]) (rest := []) (z_dec zd_X9_workOut 54 rfl) zk_X9_163 zv_X9_takes (c_X9_takes (d - 1) (by omega) b ((z_eE (m_X9_takes ((z_eE Iv).2) 63)).2) L 59 hP72.1) rfl ⟨_, _, rfl⟩ rfl rfl (Nat.le_of_ble_eq_true rfl) (by omega) (n := 102) rfl ?_
                show PW zm_X9_workOut d 102 [(6, .int ((z_eE (m_X9_takes ((z_eE Iv).2) 63)).1)), (7, .int 0), (5, .int v5), (4, .int v4), (3, .int v3), (0, .ref 54), (1, .int fr), (2, .int (nI n))] [.int (f_X9_takes ((z_eE (m_X9_takes ((z_eE Iv).2) 63)).2) 59)] SH ((m_X9_takes ((z_eE (m_X9_takes ((z_eE Iv).2) 63)).2) 59), L, z_R b) 0 0 _
                have hP102 : z_K Iv ((m_X9_takes ((z_eE (m_X9_takes ((z_eE Iv).2) 63)).2) 59)) := z_K_tr hP96 (z_K_tk hP96.1 (by decide))
                refine p_istore (z_dec zd_X9_workOut 55 rfl) (lv2 := [(5, .int (f_X9_takes ((z_eE (m_X9_takes ((z_eE Iv).2) 63)).2) 59)), (6, .int ((z_eE (m_X9_takes ((z_eE Iv).2) 63)).1)), (7, .int 0), (4, .int v4), (3, .int v3), (0, .ref 54), (1, .int fr), (2, .int (nI n))]) (by decide) rfl (n := 104) rfl ?_
                refine p_goto (z_dec zd_X9_workOut 56 rfl) (t := 33) (by decide) ?_
                refine z_sub (lv' := [(5, .int (f_X9_takes ((z_eE (m_X9_takes ((z_eE Iv).2) 63)).2) 59)), (4, .int v4), (3, .int v3), (0, .ref 54), (1, .int fr), (2, .int (nI n))]) [0, 3, 4, 5, 6, 7] rfl ?_
                rw [show gx_X9_workOut_33 (r33 + 1) t33 v3 v4 v5 Iv = gx_X9_workOut_33 r33 (t33 + 1) v3 v4 (f_X9_takes ((z_eE (m_X9_takes ((z_eE Iv).2) 63)).2) 59) (m_X9_takes ((z_eE (m_X9_takes ((z_eE Iv).2) 63)).2) 59) from by (conv => lhs; unfold gx_X9_workOut_33); rw [if_neg h35, if_neg h53, if_pos h58, if_pos h78]]
                exact ih33 (t33 + 1) v3 v4 (f_X9_takes ((z_eE (m_X9_takes ((z_eE Iv).2) 63)).2) 59) (m_X9_takes ((z_eE (m_X9_takes ((z_eE Iv).2) 63)).2) 59) (z_lt_le (z_wm hP96 hlo.2 h35) ht33) ⟨z_K_tr hlo.1 hP102, fb_X9_takes _ _⟩
              · refine p_iload (z_dec zd_X9_workOut 44 rfl) 1 rfl (n := 83) rfl ?_
                refine p_if_eq (z_dec zd_X9_workOut 45 rfl) (t := 96) (by decide) (n := 86) rfl (fun h83 => ?_) (fun h83 => ?_)
                · have hP96 : z_K Iv ((z_eE (m_X9_takes ((z_eE Iv).2) 63)).2) := hP72
                  refine p_aload_n (z_dec zd_X9_workOut 52 rfl) rfl 5 rfl (n := 97) rfl ?_
                  refine p_bipush (z_dec zd_X9_workOut 53 rfl) (v := 59) (by decide) (n := 99) rfl ?_
                  refine q_callV (As := [.int 59]) (rest := []) (z_dec zd_X9_workOut 54 rfl) zk_X9_163 zv_X9_takes (c_X9_takes (d - 1) (by omega) b ((z_eE (m_X9_takes ((z_eE Iv).2) 63)).2) L 59 hP72.1) rfl ⟨_, _, rfl⟩ rfl rfl (Nat.le_of_ble_eq_true rfl) (by omega) (n := 102) rfl ?_
                  show PW zm_X9_workOut d 102 [(6, .int ((z_eE (m_X9_takes ((z_eE Iv).2) 63)).1)), (7, .int 0), (5, .int v5), (4, .int v4), (3, .int v3), (0, .ref 54), (1, .int fr), (2, .int (nI n))] [.int (f_X9_takes ((z_eE (m_X9_takes ((z_eE Iv).2) 63)).2) 59)] SH ((m_X9_takes ((z_eE (m_X9_takes ((z_eE Iv).2) 63)).2) 59), L, z_R b) 0 0 _
                  have hP102 : z_K Iv ((m_X9_takes ((z_eE (m_X9_takes ((z_eE Iv).2) 63)).2) 59)) := z_K_tr hP96 (z_K_tk hP96.1 (by decide))
                  refine p_istore (z_dec zd_X9_workOut 55 rfl) (lv2 := [(5, .int (f_X9_takes ((z_eE (m_X9_takes ((z_eE Iv).2) 63)).2) 59)), (6, .int ((z_eE (m_X9_takes ((z_eE Iv).2) 63)).1)), (7, .int 0), (4, .int v4), (3, .int v3), (0, .ref 54), (1, .int fr), (2, .int (nI n))]) (by decide) rfl (n := 104) rfl ?_
                  refine p_goto (z_dec zd_X9_workOut 56 rfl) (t := 33) (by decide) ?_
                  refine z_sub (lv' := [(5, .int (f_X9_takes ((z_eE (m_X9_takes ((z_eE Iv).2) 63)).2) 59)), (4, .int v4), (3, .int v3), (0, .ref 54), (1, .int fr), (2, .int (nI n))]) [0, 3, 4, 5, 6, 7] rfl ?_
                  rw [show gx_X9_workOut_33 (r33 + 1) t33 v3 v4 v5 Iv = gx_X9_workOut_33 r33 (t33 + 1) v3 v4 (f_X9_takes ((z_eE (m_X9_takes ((z_eE Iv).2) 63)).2) 59) (m_X9_takes ((z_eE (m_X9_takes ((z_eE Iv).2) 63)).2) 59) from by (conv => lhs; unfold gx_X9_workOut_33); rw [if_neg h35, if_neg h53, if_pos h58, if_neg h78]]
                  exact ih33 (t33 + 1) v3 v4 (f_X9_takes ((z_eE (m_X9_takes ((z_eE Iv).2) 63)).2) 59) (m_X9_takes ((z_eE (m_X9_takes ((z_eE Iv).2) 63)).2) 59) (z_lt_le (z_wm hP96 hlo.2 h35) ht33) ⟨z_K_tr hlo.1 hP102, fb_X9_takes _ _⟩
                · exact absurd h83 (by decide)
            · refine p_iconst (z_dec zd_X9_workOut 34 rfl) (v := 1) (by decide) (n := 62) rfl ?_
              refine p_goto (z_dec zd_X9_workOut 35 rfl) (t := 66) (by decide) ?_
              refine p_istore (z_dec zd_X9_workOut 37 rfl) (lv2 := [(7, .int 1), (6, .int ((z_eE Iv).1)), (5, .int v5), (4, .int v4), (3, .int v3), (0, .ref 54), (1, .int fr), (2, .int (nI n))]) (by decide) rfl (n := 68) rfl ?_
              refine p_aload_n (z_dec zd_X9_workOut 38 rfl) rfl 5 rfl (n := 69) rfl ?_
              refine q_callV (As := []) (rest := []) (z_dec zd_X9_workOut 39 rfl) zk_X9_184 zv_X9_either (c_zE (d - 1) (by omega) b (m_X9_takes ((z_eE Iv).2) 63) L hP53.1) rfl ⟨_, _, rfl⟩ rfl rfl (Nat.le_of_ble_eq_true rfl) (by omega) (n := 72) rfl ?_
              show PW zm_X9_workOut d 72 [(7, .int 1), (6, .int ((z_eE Iv).1)), (5, .int v5), (4, .int v4), (3, .int v3), (0, .ref 54), (1, .int fr), (2, .int (nI n))] [.int ((z_eE (m_X9_takes ((z_eE Iv).2) 63)).1)] SH ((z_eE (m_X9_takes ((z_eE Iv).2) 63)).2, L, z_R b) 0 0 _
              have hP72 : z_K Iv ((z_eE (m_X9_takes ((z_eE Iv).2) 63)).2) := z_K_tr hP53 (z_eEK _ hP53.1)
              refine p_istore (z_dec zd_X9_workOut 40 rfl) (lv2 := [(6, .int ((z_eE (m_X9_takes ((z_eE Iv).2) 63)).1)), (7, .int 1), (5, .int v5), (4, .int v4), (3, .int v3), (0, .ref 54), (1, .int fr), (2, .int (nI n))]) (by decide) rfl (n := 74) rfl ?_
              refine p_aload_n (z_dec zd_X9_workOut 41 rfl) rfl 5 rfl (n := 75) rfl ?_
              refine q_getI (z_dec zd_X9_workOut 42 rfl) zf_X9_153 (by decide) rfl (v := ((z_eE (m_X9_takes ((z_eE Iv).2) 63)).2 54 14)) rfl (n := 78) rfl ?_
              refine p_if_ge (z_dec zd_X9_workOut 43 rfl) (t := 96) (by decide) (n := 81) rfl (fun h78 => ?_) (fun h78 => ?_)
              · have hP96 : z_K Iv ((z_eE (m_X9_takes ((z_eE Iv).2) 63)).2) := hP72
                refine p_aload_n (z_dec zd_X9_workOut 52 rfl) rfl 5 rfl (n := 97) rfl ?_
                refine p_bipush (z_dec zd_X9_workOut 53 rfl) (v := 59) (by decide) (n := 99) rfl ?_
                refine q_callV (As := [.int 59]) (rest := []) (z_dec zd_X9_workOut 54 rfl) zk_X9_163 zv_X9_takes (c_X9_takes (d - 1) (by omega) b ((z_eE (m_X9_takes ((z_eE Iv).2) 63)).2) L 59 hP72.1) rfl ⟨_, _, rfl⟩ rfl rfl (Nat.le_of_ble_eq_true rfl) (by omega) (n := 102) rfl ?_
                show PW zm_X9_workOut d 102 [(6, .int ((z_eE (m_X9_takes ((z_eE Iv).2) 63)).1)), (7, .int 1), (5, .int v5), (4, .int v4), (3, .int v3), (0, .ref 54), (1, .int fr), (2, .int (nI n))] [.int (f_X9_takes ((z_eE (m_X9_takes ((z_eE Iv).2) 63)).2) 59)] SH ((m_X9_takes ((z_eE (m_X9_takes ((z_eE Iv).2) 63)).2) 59), L, z_R b) 0 0 _
                have hP102 : z_K Iv ((m_X9_takes ((z_eE (m_X9_takes ((z_eE Iv).2) 63)).2) 59)) := z_K_tr hP96 (z_K_tk hP96.1 (by decide))
                refine p_istore (z_dec zd_X9_workOut 55 rfl) (lv2 := [(5, .int (f_X9_takes ((z_eE (m_X9_takes ((z_eE Iv).2) 63)).2) 59)), (6, .int ((z_eE (m_X9_takes ((z_eE Iv).2) 63)).1)), (7, .int 1), (4, .int v4), (3, .int v3), (0, .ref 54), (1, .int fr), (2, .int (nI n))]) (by decide) rfl (n := 104) rfl ?_
                refine p_goto (z_dec zd_X9_workOut 56 rfl) (t := 33) (by decide) ?_
                refine z_sub (lv' := [(5, .int (f_X9_takes ((z_eE (m_X9_takes ((z_eE Iv).2) 63)).2) 59)), (4, .int v4), (3, .int v3), (0, .ref 54), (1, .int fr), (2, .int (nI n))]) [0, 3, 4, 5, 6, 7] rfl ?_
                rw [show gx_X9_workOut_33 (r33 + 1) t33 v3 v4 v5 Iv = gx_X9_workOut_33 r33 (t33 + 1) v3 v4 (f_X9_takes ((z_eE (m_X9_takes ((z_eE Iv).2) 63)).2) 59) (m_X9_takes ((z_eE (m_X9_takes ((z_eE Iv).2) 63)).2) 59) from by (conv => lhs; unfold gx_X9_workOut_33); rw [if_neg h35, if_neg h53, if_neg h58, if_pos h78]]
                exact ih33 (t33 + 1) v3 v4 (f_X9_takes ((z_eE (m_X9_takes ((z_eE Iv).2) 63)).2) 59) (m_X9_takes ((z_eE (m_X9_takes ((z_eE Iv).2) 63)).2) 59) (z_lt_le (z_wm hP96 hlo.2 h35) ht33) ⟨z_K_tr hlo.1 hP102, fb_X9_takes _ _⟩
              · refine p_iload (z_dec zd_X9_workOut 44 rfl) 1 rfl (n := 83) rfl ?_
                refine p_if_eq (z_dec zd_X9_workOut 45 rfl) (t := 96) (by decide) (n := 86) rfl (fun h83 => ?_) (fun h83 => ?_)
                · exact absurd h83 (by decide)
                · refine p_iload_n (z_dec zd_X9_workOut 46 rfl) rfl 4 rfl (n := 87) rfl ?_
                  refine p_if_ne (z_dec zd_X9_workOut 47 rfl) (t := 96) (by decide) (n := 90) rfl (fun h87 => ?_) (fun h87 => ?_)
                  · have hP96 : z_K Iv ((z_eE (m_X9_takes ((z_eE Iv).2) 63)).2) := hP72
                    refine p_aload_n (z_dec zd_X9_workOut 52 rfl) rfl 5 rfl (n := 97) rfl ?_
                    refine p_bipush (z_dec zd_X9_workOut 53 rfl) (v := 59) (by decide) (n := 99) rfl ?_
                    refine q_callV (As := [.int 59]) (rest := []) (z_dec zd_X9_workOut 54 rfl) zk_X9_163 zv_X9_takes (c_X9_takes (d - 1) (by omega) b ((z_eE (m_X9_takes ((z_eE Iv).2) 63)).2) L 59 hP72.1) rfl ⟨_, _, rfl⟩ rfl rfl (Nat.le_of_ble_eq_true rfl) (by omega) (n := 102) rfl ?_
                    show PW zm_X9_workOut d 102 [(6, .int ((z_eE (m_X9_takes ((z_eE Iv).2) 63)).1)), (7, .int 1), (5, .int v5), (4, .int v4), (3, .int v3), (0, .ref 54), (1, .int fr), (2, .int (nI n))] [.int (f_X9_takes ((z_eE (m_X9_takes ((z_eE Iv).2) 63)).2) 59)] SH ((m_X9_takes ((z_eE (m_X9_takes ((z_eE Iv).2) 63)).2) 59), L, z_R b) 0 0 _
                    have hP102 : z_K Iv ((m_X9_takes ((z_eE (m_X9_takes ((z_eE Iv).2) 63)).2) 59)) := z_K_tr hP96 (z_K_tk hP96.1 (by decide))
                    refine p_istore (z_dec zd_X9_workOut 55 rfl) (lv2 := [(5, .int (f_X9_takes ((z_eE (m_X9_takes ((z_eE Iv).2) 63)).2) 59)), (6, .int ((z_eE (m_X9_takes ((z_eE Iv).2) 63)).1)), (7, .int 1), (4, .int v4), (3, .int v3), (0, .ref 54), (1, .int fr), (2, .int (nI n))]) (by decide) rfl (n := 104) rfl ?_
                    refine p_goto (z_dec zd_X9_workOut 56 rfl) (t := 33) (by decide) ?_
                    refine z_sub (lv' := [(5, .int (f_X9_takes ((z_eE (m_X9_takes ((z_eE Iv).2) 63)).2) 59)), (4, .int v4), (3, .int v3), (0, .ref 54), (1, .int fr), (2, .int (nI n))]) [0, 3, 4, 5, 6, 7] rfl ?_
                    rw [show gx_X9_workOut_33 (r33 + 1) t33 v3 v4 v5 Iv = gx_X9_workOut_33 r33 (t33 + 1) v3 v4 (f_X9_takes ((z_eE (m_X9_takes ((z_eE Iv).2) 63)).2) 59) (m_X9_takes ((z_eE (m_X9_takes ((z_eE Iv).2) 63)).2) 59) from by (conv => lhs; unfold gx_X9_workOut_33); rw [if_neg h35, if_neg h53, if_neg h58, if_neg h78, if_neg h87]]
                    exact ih33 (t33 + 1) v3 v4 (f_X9_takes ((z_eE (m_X9_takes ((z_eE Iv).2) 63)).2) 59) (m_X9_takes ((z_eE (m_X9_takes ((z_eE Iv).2) 63)).2) 59) (z_lt_le (z_wm hP96 hlo.2 h35) ht33) ⟨z_K_tr hlo.1 hP102, fb_X9_takes _ _⟩
                  · refine p_iconst (z_dec zd_X9_workOut 48 rfl) (v := 1) (by decide) (n := 91) rfl ?_
                    refine p_istore_n (z_dec zd_X9_workOut 49 rfl) rfl (lv2 := [(3, .int 1), (6, .int ((z_eE (m_X9_takes ((z_eE Iv).2) 63)).1)), (7, .int 1), (5, .int v5), (4, .int v4), (0, .ref 54), (1, .int fr), (2, .int (nI n))]) (by decide) rfl (n := 92) rfl ?_
                    refine p_iload (z_dec zd_X9_workOut 50 rfl) 1 rfl (n := 94) rfl ?_
                    refine p_istore (z_dec zd_X9_workOut 51 rfl) (lv2 := [(4, .int ((z_eE (m_X9_takes ((z_eE Iv).2) 63)).1)), (3, .int 1), (6, .int ((z_eE (m_X9_takes ((z_eE Iv).2) 63)).1)), (7, .int 1), (5, .int v5), (0, .ref 54), (1, .int fr), (2, .int (nI n))]) (by decide) rfl (n := 96) rfl ?_
                    have hP96 : z_K Iv ((z_eE (m_X9_takes ((z_eE Iv).2) 63)).2) := hP72
                    refine p_aload_n (z_dec zd_X9_workOut 52 rfl) rfl 5 rfl (n := 97) rfl ?_
                    refine p_bipush (z_dec zd_X9_workOut 53 rfl) (v := 59) (by decide) (n := 99) rfl ?_
                    refine q_callV (As := [.int 59]) (rest := []) (z_dec zd_X9_workOut 54 rfl) zk_X9_163 zv_X9_takes (c_X9_takes (d - 1) (by omega) b ((z_eE (m_X9_takes ((z_eE Iv).2) 63)).2) L 59 hP72.1) rfl ⟨_, _, rfl⟩ rfl rfl (Nat.le_of_ble_eq_true rfl) (by omega) (n := 102) rfl ?_
                    show PW zm_X9_workOut d 102 [(4, .int ((z_eE (m_X9_takes ((z_eE Iv).2) 63)).1)), (3, .int 1), (6, .int ((z_eE (m_X9_takes ((z_eE Iv).2) 63)).1)), (7, .int 1), (5, .int v5), (0, .ref 54), (1, .int fr), (2, .int (nI n))] [.int (f_X9_takes ((z_eE (m_X9_takes ((z_eE Iv).2) 63)).2) 59)] SH ((m_X9_takes ((z_eE (m_X9_takes ((z_eE Iv).2) 63)).2) 59), L, z_R b) 0 0 _
                    have hP102 : z_K Iv ((m_X9_takes ((z_eE (m_X9_takes ((z_eE Iv).2) 63)).2) 59)) := z_K_tr hP96 (z_K_tk hP96.1 (by decide))
                    refine p_istore (z_dec zd_X9_workOut 55 rfl) (lv2 := [(5, .int (f_X9_takes ((z_eE (m_X9_takes ((z_eE Iv).2) 63)).2) 59)), (4, .int ((z_eE (m_X9_takes ((z_eE Iv).2) 63)).1)), (3, .int 1), (6, .int ((z_eE (m_X9_takes ((z_eE Iv).2) 63)).1)), (7, .int 1), (0, .ref 54), (1, .int fr), (2, .int (nI n))]) (by decide) rfl (n := 104) rfl ?_
                    refine p_goto (z_dec zd_X9_workOut 56 rfl) (t := 33) (by decide) ?_
                    refine z_sub (lv' := [(5, .int (f_X9_takes ((z_eE (m_X9_takes ((z_eE Iv).2) 63)).2) 59)), (4, .int ((z_eE (m_X9_takes ((z_eE Iv).2) 63)).1)), (3, .int 1), (0, .ref 54), (1, .int fr), (2, .int (nI n))]) [0, 1, 2, 5, 6, 7] rfl ?_
                    rw [show gx_X9_workOut_33 (r33 + 1) t33 v3 v4 v5 Iv = gx_X9_workOut_33 r33 (t33 + 1) 1 ((z_eE (m_X9_takes ((z_eE Iv).2) 63)).1) (f_X9_takes ((z_eE (m_X9_takes ((z_eE Iv).2) 63)).2) 59) (m_X9_takes ((z_eE (m_X9_takes ((z_eE Iv).2) 63)).2) 59) from by (conv => lhs; unfold gx_X9_workOut_33); rw [if_neg h35, if_neg h53, if_neg h58, if_neg h78, if_pos h87]]
                    exact ih33 (t33 + 1) 1 ((z_eE (m_X9_takes ((z_eE Iv).2) 63)).1) (f_X9_takes ((z_eE (m_X9_takes ((z_eE Iv).2) 63)).2) 59) (m_X9_takes ((z_eE (m_X9_takes ((z_eE Iv).2) 63)).2) 59) (z_lt_le (z_wm hP96 hlo.2 h35) ht33) ⟨z_K_tr hlo.1 hP102, fb_X9_takes _ _⟩
    exact (by have q := (hL33 122 0 0 0 1 (z_w0 I fr n) (z_ws1 hQ0) ⟨z_K_rf hQ0, Or.inr rfl⟩); (rw [show f_X9_workOut I fr n = _ from by unfold f_X9_workOut; rfl]); (rw [show m_X9_workOut I fr n = _ from by unfold m_X9_workOut; rfl]); exact q)
  exact hentry
