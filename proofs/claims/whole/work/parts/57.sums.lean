theorem z_Kgx10 {FO : (Nat → Nat → Int32) → Int32 × (Nat → Nat → Int32)} (hKO : z_FK FO) : ∀ (r t : Nat) (v1 v2 : Int32) (Iv : Nat → Nat → Int32), z_Q Iv → v2 = f_X9_byteAt Iv → z_K Iv (gx_X9_product_10 FO r t v1 v2 Iv).2
  | 0, t, v1, v2, Iv, h, hv => z_K_rf h
  | r + 1, t, v1, v2, Iv, h, hv => by
    have key : ∀ (v c : Int32), v2 = c → ¬ c = 0 → z_K Iv (gx_X9_product_10 FO r (t + 1) v (f_X9_byteAt ((FO (z_up Iv 54 12 ((Iv 54 12) + 1))).2)) ((FO (z_up Iv 54 12 ((Iv 54 12) + 1))).2)).2 := fun v c h1 h2 => by
      have ha := (z_K_ad h (z_b0 hv h1 h2)).1
      have hb := z_K_tr ha (hKO _ ha.1)
      exact z_K_tr hb (z_Kgx10 hKO r (t + 1) v _ _ hb.1 rfl)
    unfold gx_X9_product_10
    (repeat' split) <;> first | exact z_K_rf h | exact key _ 42 (by assumption) (by decide) | exact key _ 47 (by assumption) (by decide) | exact key _ 37 (by assumption) (by decide)
theorem z_K_product {FO : (Nat → Nat → Int32) → Int32 × (Nat → Nat → Int32)} (hKO : z_FK FO) {J : Nat → Nat → Int32} (h : z_Q J) : z_K J (m_X9_product J FO) := by
  have ha := hKO _ h
  exact z_K_tr ha (z_Kgx10 hKO 121 0 _ _ _ ha.1 rfl)
def gx_X9_sums_5 (FO : (Nat → Nat → Int32) → Int32 × (Nat → Nat → Int32)) : Nat → Nat → (Int32) → (Nat → Nat → Int32) → Int32 × (Nat → Nat → Int32)
  | 0, t5, v1, Iv => (0, Iv)
  | r5 + 1, t5, v1, Iv => if 0 ≤ (Iv 54 14) then (v1, Iv) else if (f_X9_byteAt Iv) = 43 then gx_X9_sums_5 FO r5 (t5 + 1) (v1 + (f_X9_product (z_up Iv 54 12 ((Iv 54 12) + 1)) FO)) (m_X9_product (z_up Iv 54 12 ((Iv 54 12) + 1)) FO) else if (f_X9_byteAt Iv) = 45 then gx_X9_sums_5 FO r5 (t5 + 1) (v1 - (f_X9_product (z_up Iv 54 12 ((Iv 54 12) + 1)) FO)) (m_X9_product (z_up Iv 54 12 ((Iv 54 12) + 1)) FO) else (v1, Iv)
def f_X9_sums (I : Nat → Nat → Int32) (FO : (Nat → Nat → Int32) → Int32 × (Nat → Nat → Int32)) : Int32 := (gx_X9_sums_5 FO 121 0 (f_X9_product I FO) (m_X9_product I FO)).1
def m_X9_sums (I : Nat → Nat → Int32) (FO : (Nat → Nat → Int32) → Int32 × (Nat → Nat → Int32)) : Nat → Nat → Int32 := (gx_X9_sums_5 FO 121 0 (f_X9_product I FO) (m_X9_product I FO)).2
set_option maxHeartbeats 2000000 in
set_option maxRecDepth 100000 in
theorem c_X9_sums (d : Nat) (b : Bool) (I : Nat → Nat → Int32) (L : Nat → Nat → Int64) (hQ : z_Q I) (e n : Nat) (FO : (Nat → Nat → Int32) → Int32 × (Nat → Nat → Int32)) (hFO : ∀ (d : Nat) (J : Nat → Nat → Int32), e ≤ d → z_Q J → 7 - (J 54 15).toNatClampNeg < n → z_CT zm_X9_one d [.ref 54] SH (J, L, z_R b) 0 0 (z_ret (some (.int (FO J).1)) ((FO J).2, L, z_R b))) (hKO : z_FK FO) (hn : 7 - (I 54 15).toNatClampNeg < n) (hd : e + 2 ≤ d) : z_CT zm_X9_sums d [.ref 54] SH (I, L, z_R b) 0 0 (z_ret (some (.int (f_X9_sums I FO))) ((m_X9_sums I FO), L, z_R b)) := by
  refine z_enter (by decide +kernel) (Nat.le_of_ble_eq_true rfl) ?_
  have hentry : PW zm_X9_sums d 0 [(0, .ref 54)] [] SH (I, L, z_R b) 0 0 (z_ret (some (.int (f_X9_sums I FO))) ((m_X9_sums I FO), L, z_R b)) := by
    refine p_aload_n (z_dec zd_X9_sums 0 rfl) rfl 0 rfl (n := 1) rfl ?_
    refine q_callV (As := []) (rest := []) (z_dec zd_X9_sums 1 rfl) zk_X9_172 zv_X9_product (c_X9_product (d - 1) b I L ((z_K_rf hQ).1) e n FO hFO hKO (z_K_n (z_K_rf hQ) hn) (by omega)) rfl ⟨_, _, rfl⟩ rfl rfl (Nat.le_of_ble_eq_true rfl) (by omega) (n := 4) rfl ?_
    show PW zm_X9_sums d 4 [(0, .ref 54)] [.int (f_X9_product I FO)] SH ((m_X9_product I FO), L, z_R b) 0 0 _
    have hP4 : z_K I ((m_X9_product I FO)) := z_K_product hKO hQ
    refine p_istore_n (z_dec zd_X9_sums 2 rfl) rfl (lv2 := [(1, .int (f_X9_product I FO)), (0, .ref 54)]) (by decide) rfl (n := 5) rfl ?_
    have hL5 : ∀ (r5 t5 : Nat) (v1 : Int32) (Iv : Nat → Nat → Int32), z_me Iv < r5 → z_K I Iv → PW zm_X9_sums d 5 [(1, .int v1), (0, .ref 54)] [] SH (Iv, L, z_R b) 0 0 (z_ret (some (.int (gx_X9_sums_5 FO r5 t5 v1 Iv).1)) ((gx_X9_sums_5 FO r5 t5 v1 Iv).2, L, z_R b)) := by
      intro r5
      induction r5 with
      | zero =>
        intro t5 v1 Iv ht5 hlo
        exact absurd ht5 (Nat.not_lt_zero _)
      | succ r5 ih5 =>
        intro t5 v1 Iv ht5 hlo
        refine p_aload_n (z_dec zd_X9_sums 3 rfl) rfl 1 rfl (n := 6) rfl ?_
        refine q_getI (z_dec zd_X9_sums 4 rfl) zf_X9_153 (by decide) rfl (v := (Iv 54 14)) rfl (n := 9) rfl ?_
        refine p_if_ge (z_dec zd_X9_sums 5 rfl) (t := 77) (by decide) (n := 12) rfl (fun h9 => ?_) (fun h9 => ?_)
        · refine p_iload_n (z_dec zd_X9_sums 42 rfl) rfl 0 rfl (n := 78) rfl ?_
          exact p_iret (z_dec zd_X9_sums 43 rfl) rfl ⟨(by (conv => rhs; unfold gx_X9_sums_5); rw [if_pos h9]), rfl, (z_3 (by (conv => rhs; unfold gx_X9_sums_5); rw [if_pos h9]) rfl)⟩
        · refine p_aload_n (z_dec zd_X9_sums 6 rfl) rfl 1 rfl (n := 13) rfl ?_
          refine q_callV (As := []) (rest := []) (z_dec zd_X9_sums 7 rfl) zk_X9_156 zv_X9_byteAt (c_X9_byteAt (d - 1) (by omega) b Iv L hlo.1) rfl ⟨_, _, rfl⟩ rfl rfl (Nat.le_of_ble_eq_true rfl) (by omega) (n := 16) rfl ?_
          show PW zm_X9_sums d 16 [(1, .int v1), (0, .ref 54)] [.int (f_X9_byteAt Iv)] SH (Iv, L, z_R b) 0 0 _
          refine p_bipush (z_dec zd_X9_sums 8 rfl) (v := 43) (by decide) (n := 18) rfl ?_
          refine p_icmp_eq (z_dec zd_X9_sums 9 rfl) (t := 30) (by decide) (n := 21) rfl (fun h18 => ?_) (fun h18 => ?_)
          · refine p_aload_n (z_dec zd_X9_sums 14 rfl) rfl 1 rfl (n := 31) rfl ?_
            refine q_callV (As := []) (rest := []) (z_dec zd_X9_sums 15 rfl) zk_X9_156 zv_X9_byteAt (c_X9_byteAt (d - 1) (by omega) b Iv L hlo.1) rfl ⟨_, _, rfl⟩ rfl rfl (Nat.le_of_ble_eq_true rfl) (by omega) (n := 34) rfl ?_
            show PW zm_X9_sums d 34 [(1, .int v1), (0, .ref 54)] [.int (f_X9_byteAt Iv)] SH (Iv, L, z_R b) 0 0 _
            refine p_bipush (z_dec zd_X9_sums 16 rfl) (v := 43) (by decide) (n := 36) rfl ?_
            refine p_icmp_ne (z_dec zd_X9_sums 17 rfl) (t := 43) (by decide) (n := 39) rfl (fun h36 => ?_) (fun h36 => ?_)
            · exact absurd h18 h36
            · refine p_iconst (z_dec zd_X9_sums 18 rfl) (v := 1) (by decide) (n := 40) rfl ?_
              refine p_goto (z_dec zd_X9_sums 19 rfl) (t := 44) (by decide) ?_
              refine p_istore_n (z_dec zd_X9_sums 21 rfl) rfl (lv2 := [(2, .int 1), (1, .int v1), (0, .ref 54)]) (by decide) rfl (n := 45) rfl ?_
              refine p_aload_n (z_dec zd_X9_sums 22 rfl) rfl 2 rfl (n := 46) rfl ?_
              refine p_dup (z_dec zd_X9_sums 23 rfl) rfl (n := 47) rfl ?_
              refine q_getI (z_dec zd_X9_sums 24 rfl) zf_X9_144 (by decide) rfl (v := (Iv 54 12)) rfl (n := 50) rfl ?_
              refine p_iconst (z_dec zd_X9_sums 25 rfl) (v := 1) (by decide) (n := 51) rfl ?_
              refine p_iadd (z_dec zd_X9_sums 26 rfl) (n := 52) rfl ?_
              refine q_putI (z_dec zd_X9_sums 27 rfl) zp_X9_144 (fun q => by cases q) rfl (n := 55) rfl ?_
              have ha55 := z_K_ad hlo.1 (by first | exact z_b0 rfl h18 (by decide) | exact z_b0 rfl h27 (by decide))
              have hP55 : z_K I ((z_up Iv 54 12 ((Iv 54 12) + 1))) := z_K_tr hlo ha55.1
              refine p_aload_n (z_dec zd_X9_sums 28 rfl) rfl 2 rfl (n := 56) rfl ?_
              refine q_callV (As := []) (rest := []) (z_dec zd_X9_sums 29 rfl) zk_X9_172 zv_X9_product (c_X9_product (d - 1) b (z_up Iv 54 12 ((Iv 54 12) + 1)) L hP55.1 e n FO hFO hKO (z_K_n hP55 hn) (by omega)) rfl ⟨_, _, rfl⟩ rfl rfl (Nat.le_of_ble_eq_true rfl) (by omega) (n := 59) rfl ?_
              show PW zm_X9_sums d 59 [(2, .int 1), (1, .int v1), (0, .ref 54)] [.int (f_X9_product (z_up Iv 54 12 ((Iv 54 12) + 1)) FO)] SH ((m_X9_product (z_up Iv 54 12 ((Iv 54 12) + 1)) FO), L, z_R b) 0 0 _
              have ha59 := z_K_product hKO hP55.1
              have hP59 : z_K I ((m_X9_product (z_up Iv 54 12 ((Iv 54 12) + 1)) FO)) := z_K_tr hP55 ha59
              refine p_istore_n (z_dec zd_X9_sums 30 rfl) rfl (lv2 := [(3, .int (f_X9_product (z_up Iv 54 12 ((Iv 54 12) + 1)) FO)), (2, .int 1), (1, .int v1), (0, .ref 54)]) (by decide) rfl (n := 60) rfl ?_
              refine p_iload_n (z_dec zd_X9_sums 31 rfl) rfl 1 rfl (n := 61) rfl ?_
              refine p_if_eq (z_dec zd_X9_sums 32 rfl) (t := 70) (by decide) (n := 64) rfl (fun h61 => ?_) (fun h61 => ?_)
              · exact absurd h61 (by decide)
              · refine p_iload_n (z_dec zd_X9_sums 33 rfl) rfl 2 rfl (n := 65) rfl ?_
                refine p_iload_n (z_dec zd_X9_sums 34 rfl) rfl 0 rfl (n := 66) rfl ?_
                refine p_iadd (z_dec zd_X9_sums 35 rfl) (n := 67) rfl ?_
                refine p_goto (z_dec zd_X9_sums 36 rfl) (t := 73) (by decide) ?_
                refine p_istore_n (z_dec zd_X9_sums 40 rfl) rfl (lv2 := [(1, .int (v1 + (f_X9_product (z_up Iv 54 12 ((Iv 54 12) + 1)) FO))), (3, .int (f_X9_product (z_up Iv 54 12 ((Iv 54 12) + 1)) FO)), (2, .int 1), (0, .ref 54)]) (by decide) rfl (n := 74) rfl ?_
                refine p_goto (z_dec zd_X9_sums 41 rfl) (t := 5) (by decide) ?_
                refine z_sub (lv' := [(1, .int (v1 + (f_X9_product (z_up Iv 54 12 ((Iv 54 12) + 1)) FO))), (0, .ref 54)]) [0, 3] rfl ?_
                rw [show gx_X9_sums_5 FO (r5 + 1) t5 v1 Iv = gx_X9_sums_5 FO r5 (t5 + 1) (v1 + (f_X9_product (z_up Iv 54 12 ((Iv 54 12) + 1)) FO)) (m_X9_product (z_up Iv 54 12 ((Iv 54 12) + 1)) FO) from by (conv => lhs; unfold gx_X9_sums_5); rw [if_neg h9, if_pos h18]]
                exact ih5 (t5 + 1) (v1 + (f_X9_product (z_up Iv 54 12 ((Iv 54 12) + 1)) FO)) (m_X9_product (z_up Iv 54 12 ((Iv 54 12) + 1)) FO) (z_lt_le (Nat.lt_of_le_of_lt (z_K_me ha59) ha55.2) ht5) hP59
          · refine p_aload_n (z_dec zd_X9_sums 10 rfl) rfl 1 rfl (n := 22) rfl ?_
            refine q_callV (As := []) (rest := []) (z_dec zd_X9_sums 11 rfl) zk_X9_156 zv_X9_byteAt (c_X9_byteAt (d - 1) (by omega) b Iv L hlo.1) rfl ⟨_, _, rfl⟩ rfl rfl (Nat.le_of_ble_eq_true rfl) (by omega) (n := 25) rfl ?_
            show PW zm_X9_sums d 25 [(1, .int v1), (0, .ref 54)] [.int (f_X9_byteAt Iv)] SH (Iv, L, z_R b) 0 0 _
            refine p_bipush (z_dec zd_X9_sums 12 rfl) (v := 45) (by decide) (n := 27) rfl ?_
            refine p_icmp_ne (z_dec zd_X9_sums 13 rfl) (t := 77) (by decide) (n := 30) rfl (fun h27 => ?_) (fun h27 => ?_)
            · refine p_iload_n (z_dec zd_X9_sums 42 rfl) rfl 0 rfl (n := 78) rfl ?_
              exact p_iret (z_dec zd_X9_sums 43 rfl) rfl ⟨(by (conv => rhs; unfold gx_X9_sums_5); rw [if_neg h9, if_neg h18, if_neg h27]), rfl, (z_3 (by (conv => rhs; unfold gx_X9_sums_5); rw [if_neg h9, if_neg h18, if_neg h27]) rfl)⟩
            · refine p_aload_n (z_dec zd_X9_sums 14 rfl) rfl 1 rfl (n := 31) rfl ?_
              refine q_callV (As := []) (rest := []) (z_dec zd_X9_sums 15 rfl) zk_X9_156 zv_X9_byteAt (c_X9_byteAt (d - 1) (by omega) b Iv L hlo.1) rfl ⟨_, _, rfl⟩ rfl rfl (Nat.le_of_ble_eq_true rfl) (by omega) (n := 34) rfl ?_
              show PW zm_X9_sums d 34 [(1, .int v1), (0, .ref 54)] [.int (f_X9_byteAt Iv)] SH (Iv, L, z_R b) 0 0 _
              refine p_bipush (z_dec zd_X9_sums 16 rfl) (v := 43) (by decide) (n := 36) rfl ?_
              refine p_icmp_ne (z_dec zd_X9_sums 17 rfl) (t := 43) (by decide) (n := 39) rfl (fun h36 => ?_) (fun h36 => ?_)
              · refine p_iconst (z_dec zd_X9_sums 20 rfl) (v := 0) (by decide) (n := 44) rfl ?_
                refine p_istore_n (z_dec zd_X9_sums 21 rfl) rfl (lv2 := [(2, .int 0), (1, .int v1), (0, .ref 54)]) (by decide) rfl (n := 45) rfl ?_
                refine p_aload_n (z_dec zd_X9_sums 22 rfl) rfl 2 rfl (n := 46) rfl ?_
                refine p_dup (z_dec zd_X9_sums 23 rfl) rfl (n := 47) rfl ?_
                refine q_getI (z_dec zd_X9_sums 24 rfl) zf_X9_144 (by decide) rfl (v := (Iv 54 12)) rfl (n := 50) rfl ?_
                refine p_iconst (z_dec zd_X9_sums 25 rfl) (v := 1) (by decide) (n := 51) rfl ?_
                refine p_iadd (z_dec zd_X9_sums 26 rfl) (n := 52) rfl ?_
                refine q_putI (z_dec zd_X9_sums 27 rfl) zp_X9_144 (fun q => by cases q) rfl (n := 55) rfl ?_
                have ha55 := z_K_ad hlo.1 (by first | exact z_b0 rfl h18 (by decide) | exact z_b0 rfl h27 (by decide))
                have hP55 : z_K I ((z_up Iv 54 12 ((Iv 54 12) + 1))) := z_K_tr hlo ha55.1
                refine p_aload_n (z_dec zd_X9_sums 28 rfl) rfl 2 rfl (n := 56) rfl ?_
                refine q_callV (As := []) (rest := []) (z_dec zd_X9_sums 29 rfl) zk_X9_172 zv_X9_product (c_X9_product (d - 1) b (z_up Iv 54 12 ((Iv 54 12) + 1)) L hP55.1 e n FO hFO hKO (z_K_n hP55 hn) (by omega)) rfl ⟨_, _, rfl⟩ rfl rfl (Nat.le_of_ble_eq_true rfl) (by omega) (n := 59) rfl ?_
                show PW zm_X9_sums d 59 [(2, .int 0), (1, .int v1), (0, .ref 54)] [.int (f_X9_product (z_up Iv 54 12 ((Iv 54 12) + 1)) FO)] SH ((m_X9_product (z_up Iv 54 12 ((Iv 54 12) + 1)) FO), L, z_R b) 0 0 _
                have ha59 := z_K_product hKO hP55.1
                have hP59 : z_K I ((m_X9_product (z_up Iv 54 12 ((Iv 54 12) + 1)) FO)) := z_K_tr hP55 ha59
                refine p_istore_n (z_dec zd_X9_sums 30 rfl) rfl (lv2 := [(3, .int (f_X9_product (z_up Iv 54 12 ((Iv 54 12) + 1)) FO)), (2, .int 0), (1, .int v1), (0, .ref 54)]) (by decide) rfl (n := 60) rfl ?_
                refine p_iload_n (z_dec zd_X9_sums 31 rfl) rfl 1 rfl (n := 61) rfl ?_
                refine p_if_eq (z_dec zd_X9_sums 32 rfl) (t := 70) (by decide) (n := 64) rfl (fun h61 => ?_) (fun h61 => ?_)
                · refine p_iload_n (z_dec zd_X9_sums 37 rfl) rfl 2 rfl (n := 71) rfl ?_
                  refine p_iload_n (z_dec zd_X9_sums 38 rfl) rfl 0 rfl (n := 72) rfl ?_
                  refine p_isub (z_dec zd_X9_sums 39 rfl) (n := 73) rfl ?_
                  refine p_istore_n (z_dec zd_X9_sums 40 rfl) rfl (lv2 := [(1, .int (v1 - (f_X9_product (z_up Iv 54 12 ((Iv 54 12) + 1)) FO))), (3, .int (f_X9_product (z_up Iv 54 12 ((Iv 54 12) + 1)) FO)), (2, .int 0), (0, .ref 54)]) (by decide) rfl (n := 74) rfl ?_
                  refine p_goto (z_dec zd_X9_sums 41 rfl) (t := 5) (by decide) ?_
                  refine z_sub (lv' := [(1, .int (v1 - (f_X9_product (z_up Iv 54 12 ((Iv 54 12) + 1)) FO))), (0, .ref 54)]) [0, 3] rfl ?_
                  rw [show gx_X9_sums_5 FO (r5 + 1) t5 v1 Iv = gx_X9_sums_5 FO r5 (t5 + 1) (v1 - (f_X9_product (z_up Iv 54 12 ((Iv 54 12) + 1)) FO)) (m_X9_product (z_up Iv 54 12 ((Iv 54 12) + 1)) FO) from by (conv => lhs; unfold gx_X9_sums_5); rw [if_neg h9, if_neg h18, if_pos h27]]
                  exact ih5 (t5 + 1) (v1 - (f_X9_product (z_up Iv 54 12 ((Iv 54 12) + 1)) FO)) (m_X9_product (z_up Iv 54 12 ((Iv 54 12) + 1)) FO) (z_lt_le (Nat.lt_of_le_of_lt (z_K_me ha59) ha55.2) ht5) hP59
                · exact absurd h61 (by decide)
              · exact absurd (h27.symm.trans h36) (by decide)
    exact (by have q := (hL5 121 0 (f_X9_product I FO) (m_X9_product I FO) (z_meQ hP4.1) hP4); (rw [show f_X9_sums I FO = _ from by unfold f_X9_sums; rfl]); (rw [show m_X9_sums I FO = _ from by unfold m_X9_sums; rfl]); exact q)
  exact hentry
theorem z_Kgx5s {FO : (Nat → Nat → Int32) → Int32 × (Nat → Nat → Int32)} (hKO : z_FK FO) : ∀ (r t : Nat) (v1 : Int32) (Iv : Nat → Nat → Int32), z_Q Iv → z_K Iv (gx_X9_sums_5 FO r t v1 Iv).2
  | 0, t, v1, Iv, h => z_K_rf h
  | r + 1, t, v1, Iv, h => by
    have key : ∀ (v c : Int32), f_X9_byteAt Iv = c → ¬ c = 0 → z_K Iv (gx_X9_sums_5 FO r (t + 1) v (m_X9_product (z_up Iv 54 12 ((Iv 54 12) + 1)) FO)).2 := fun v c h1 h2 => by
      have ha := (z_K_ad h (z_b0 rfl h1 h2)).1
      have hb := z_K_tr ha (z_K_product hKO ha.1)
      exact z_K_tr hb (z_Kgx5s hKO r (t + 1) v _ hb.1)
    unfold gx_X9_sums_5
    (repeat' split) <;> first | exact z_K_rf h | exact key _ 43 (by assumption) (by decide) | exact key _ 45 (by assumption) (by decide)
theorem z_K_sums {FO : (Nat → Nat → Int32) → Int32 × (Nat → Nat → Int32)} (hKO : z_FK FO) {J : Nat → Nat → Int32} (h : z_Q J) : z_K J (m_X9_sums J FO) := by
  have ha := z_K_product hKO h
  exact z_K_tr ha (z_Kgx5s hKO 121 0 _ _ ha.1)
def f_X9_compared (I : Nat → Nat → Int32) (FO : (Nat → Nat → Int32) → Int32 × (Nat → Nat → Int32)) : Int32 := if 0 ≤ ((m_X9_sums I FO) 54 14) then (f_X9_sums I FO) else if (f_X9_byteAt (m_X9_sums I FO)) = 60 then if (f_X9_sums (z_up (m_X9_sums I FO) 54 12 (((m_X9_sums I FO) 54 12) + 1)) FO) ≤ (f_X9_sums I FO) then 0 else 1 else if (f_X9_byteAt (m_X9_sums I FO)) = 61 then if (f_X9_sums I FO) = (f_X9_sums (z_up (m_X9_sums I FO) 54 12 (((m_X9_sums I FO) 54 12) + 1)) FO) then 1 else 0 else if (f_X9_byteAt (m_X9_sums I FO)) = 62 then if (f_X9_sums I FO) ≤ (f_X9_sums (z_up (m_X9_sums I FO) 54 12 (((m_X9_sums I FO) 54 12) + 1)) FO) then 0 else 1 else (f_X9_sums I FO)
def m_X9_compared (I : Nat → Nat → Int32) (FO : (Nat → Nat → Int32) → Int32 × (Nat → Nat → Int32)) : Nat → Nat → Int32 := if 0 ≤ ((m_X9_sums I FO) 54 14) then (m_X9_sums I FO) else if (f_X9_byteAt (m_X9_sums I FO)) = 60 then if (f_X9_sums (z_up (m_X9_sums I FO) 54 12 (((m_X9_sums I FO) 54 12) + 1)) FO) ≤ (f_X9_sums I FO) then (m_X9_sums (z_up (m_X9_sums I FO) 54 12 (((m_X9_sums I FO) 54 12) + 1)) FO) else (m_X9_sums (z_up (m_X9_sums I FO) 54 12 (((m_X9_sums I FO) 54 12) + 1)) FO) else if (f_X9_byteAt (m_X9_sums I FO)) = 61 then if (f_X9_sums I FO) = (f_X9_sums (z_up (m_X9_sums I FO) 54 12 (((m_X9_sums I FO) 54 12) + 1)) FO) then (m_X9_sums (z_up (m_X9_sums I FO) 54 12 (((m_X9_sums I FO) 54 12) + 1)) FO) else (m_X9_sums (z_up (m_X9_sums I FO) 54 12 (((m_X9_sums I FO) 54 12) + 1)) FO) else if (f_X9_byteAt (m_X9_sums I FO)) = 62 then if (f_X9_sums I FO) ≤ (f_X9_sums (z_up (m_X9_sums I FO) 54 12 (((m_X9_sums I FO) 54 12) + 1)) FO) then (m_X9_sums (z_up (m_X9_sums I FO) 54 12 (((m_X9_sums I FO) 54 12) + 1)) FO) else (m_X9_sums (z_up (m_X9_sums I FO) 54 12 (((m_X9_sums I FO) 54 12) + 1)) FO) else (m_X9_sums I FO)
set_option maxHeartbeats 2000000 in
set_option maxRecDepth 100000 in
theorem c_X9_compared (d : Nat) (b : Bool) (I : Nat → Nat → Int32) (L : Nat → Nat → Int64) (hQ : z_Q I) (e n : Nat) (FO : (Nat → Nat → Int32) → Int32 × (Nat → Nat → Int32)) (hFO : ∀ (d : Nat) (J : Nat → Nat → Int32), e ≤ d → z_Q J → 7 - (J 54 15).toNatClampNeg < n → z_CT zm_X9_one d [.ref 54] SH (J, L, z_R b) 0 0 (z_ret (some (.int (FO J).1)) ((FO J).2, L, z_R b))) (hKO : z_FK FO) (hn : 7 - (I 54 15).toNatClampNeg < n) (hd : e + 3 ≤ d) : z_CT zm_X9_compared d [.ref 54] SH (I, L, z_R b) 0 0 (z_ret (some (.int (f_X9_compared I FO))) ((m_X9_compared I FO), L, z_R b)) := by
  refine z_enter (by decide +kernel) (Nat.le_of_ble_eq_true rfl) ?_
  have hentry : PW zm_X9_compared d 0 [(0, .ref 54)] [] SH (I, L, z_R b) 0 0 (z_ret (some (.int (f_X9_compared I FO))) ((m_X9_compared I FO), L, z_R b)) := by
    refine p_aload_n (z_dec zd_X9_compared 0 rfl) rfl 0 rfl (n := 1) rfl ?_
    refine q_callV (As := []) (rest := []) (z_dec zd_X9_compared 1 rfl) zk_X9_169 zv_X9_sums (c_X9_sums (d - 1) b I L ((z_K_rf hQ).1) e n FO hFO hKO (z_K_n (z_K_rf hQ) hn) (by omega)) rfl ⟨_, _, rfl⟩ rfl rfl (Nat.le_of_ble_eq_true rfl) (by omega) (n := 4) rfl ?_
    show PW zm_X9_compared d 4 [(0, .ref 54)] [.int (f_X9_sums I FO)] SH ((m_X9_sums I FO), L, z_R b) 0 0 _
    have hP4 : z_K I ((m_X9_sums I FO)) := z_K_sums hKO hQ
    refine p_istore_n (z_dec zd_X9_compared 2 rfl) rfl (lv2 := [(1, .int (f_X9_sums I FO)), (0, .ref 54)]) (by decide) rfl (n := 5) rfl ?_
    refine p_aload_n (z_dec zd_X9_compared 3 rfl) rfl 1 rfl (n := 6) rfl ?_
    refine q_callV (As := []) (rest := []) (z_dec zd_X9_compared 4 rfl) zk_X9_156 zv_X9_byteAt (c_X9_byteAt (d - 1) (by omega) b (m_X9_sums I FO) L hP4.1) rfl ⟨_, _, rfl⟩ rfl rfl (Nat.le_of_ble_eq_true rfl) (by omega) (n := 9) rfl ?_
    show PW zm_X9_compared d 9 [(1, .int (f_X9_sums I FO)), (0, .ref 54)] [.int (f_X9_byteAt (m_X9_sums I FO))] SH ((m_X9_sums I FO), L, z_R b) 0 0 _
    refine p_istore_n (z_dec zd_X9_compared 5 rfl) rfl (lv2 := [(2, .int (f_X9_byteAt (m_X9_sums I FO))), (1, .int (f_X9_sums I FO)), (0, .ref 54)]) (by decide) rfl (n := 10) rfl ?_
    refine p_aload_n (z_dec zd_X9_compared 6 rfl) rfl 2 rfl (n := 11) rfl ?_
    refine q_getI (z_dec zd_X9_compared 7 rfl) zf_X9_153 (by decide) rfl (v := ((m_X9_sums I FO) 54 14)) rfl (n := 14) rfl ?_
    refine p_if_ge (z_dec zd_X9_compared 8 rfl) (t := 35) (by decide) (n := 17) rfl (fun h14 => ?_) (fun h14 => ?_)
    · refine p_iload_n (z_dec zd_X9_compared 18 rfl) rfl 1 rfl (n := 36) rfl ?_
      exact p_iret (z_dec zd_X9_compared 19 rfl) rfl ⟨(by unfold f_X9_compared; rw [if_pos h14]), rfl, (z_3 (by unfold m_X9_compared; rw [if_pos h14]) rfl)⟩
    · refine p_iload_n (z_dec zd_X9_compared 9 rfl) rfl 0 rfl (n := 18) rfl ?_
      refine p_bipush (z_dec zd_X9_compared 10 rfl) (v := 60) (by decide) (n := 20) rfl ?_
      refine p_icmp_eq (z_dec zd_X9_compared 11 rfl) (t := 37) (by decide) (n := 23) rfl (fun h20 => ?_) (fun h20 => ?_)
      · refine p_aload_n (z_dec zd_X9_compared 20 rfl) rfl 2 rfl (n := 38) rfl ?_
        refine p_dup (z_dec zd_X9_compared 21 rfl) rfl (n := 39) rfl ?_
        refine q_getI (z_dec zd_X9_compared 22 rfl) zf_X9_144 (by decide) rfl (v := ((m_X9_sums I FO) 54 12)) rfl (n := 42) rfl ?_
        refine p_iconst (z_dec zd_X9_compared 23 rfl) (v := 1) (by decide) (n := 43) rfl ?_
        refine p_iadd (z_dec zd_X9_compared 24 rfl) (n := 44) rfl ?_
        refine q_putI (z_dec zd_X9_compared 25 rfl) zp_X9_144 (fun q => by cases q) rfl (n := 47) rfl ?_
        have hP47 : z_K I ((z_up (m_X9_sums I FO) 54 12 (((m_X9_sums I FO) 54 12) + 1))) := z_K_tr hP4 (z_K_ad hP4.1 (by first | exact z_b0 rfl h20 (by decide) | exact z_b0 rfl h26 (by decide) | exact z_b0 rfl h32 (by decide))).1
        refine p_aload_n (z_dec zd_X9_compared 26 rfl) rfl 2 rfl (n := 48) rfl ?_
        refine q_callV (As := []) (rest := []) (z_dec zd_X9_compared 27 rfl) zk_X9_169 zv_X9_sums (c_X9_sums (d - 1) b (z_up (m_X9_sums I FO) 54 12 (((m_X9_sums I FO) 54 12) + 1)) L hP47.1 e n FO hFO hKO (z_K_n hP47 hn) (by omega)) rfl ⟨_, _, rfl⟩ rfl rfl (Nat.le_of_ble_eq_true rfl) (by omega) (n := 51) rfl ?_
        show PW zm_X9_compared d 51 [(2, .int (f_X9_byteAt (m_X9_sums I FO))), (1, .int (f_X9_sums I FO)), (0, .ref 54)] [.int (f_X9_sums (z_up (m_X9_sums I FO) 54 12 (((m_X9_sums I FO) 54 12) + 1)) FO)] SH ((m_X9_sums (z_up (m_X9_sums I FO) 54 12 (((m_X9_sums I FO) 54 12) + 1)) FO), L, z_R b) 0 0 _
        have hP51 : z_K I ((m_X9_sums (z_up (m_X9_sums I FO) 54 12 (((m_X9_sums I FO) 54 12) + 1)) FO)) := z_K_tr hP47 (z_K_sums hKO hP47.1)
        refine p_istore_n (z_dec zd_X9_compared 28 rfl) rfl (lv2 := [(3, .int (f_X9_sums (z_up (m_X9_sums I FO) 54 12 (((m_X9_sums I FO) 54 12) + 1)) FO)), (2, .int (f_X9_byteAt (m_X9_sums I FO))), (1, .int (f_X9_sums I FO)), (0, .ref 54)]) (by decide) rfl (n := 52) rfl ?_
        refine p_iload_n (z_dec zd_X9_compared 29 rfl) rfl 1 rfl (n := 53) rfl ?_
        refine p_bipush (z_dec zd_X9_compared 30 rfl) (v := 60) (by decide) (n := 55) rfl ?_
        refine p_icmp_ne (z_dec zd_X9_compared 31 rfl) (t := 66) (by decide) (n := 58) rfl (fun h55 => ?_) (fun h55 => ?_)
        · exact absurd h20 h55
        · refine p_iload_n (z_dec zd_X9_compared 32 rfl) rfl 2 rfl (n := 59) rfl ?_
          refine p_iload_n (z_dec zd_X9_compared 33 rfl) rfl 0 rfl (n := 60) rfl ?_
          refine p_icmp_ge (z_dec zd_X9_compared 34 rfl) (t := 89) (by decide) (n := 63) rfl (fun h60 => ?_) (fun h60 => ?_)
          · refine p_iconst (z_dec zd_X9_compared 48 rfl) (v := 0) (by decide) (n := 90) rfl ?_
            exact p_iret (z_dec zd_X9_compared 49 rfl) rfl ⟨(by unfold f_X9_compared; rw [if_neg h14, if_pos h20, if_pos h60]), rfl, (z_3 (by unfold m_X9_compared; rw [if_neg h14, if_pos h20, if_pos h60]) rfl)⟩
          · refine p_goto (z_dec zd_X9_compared 35 rfl) (t := 85) (by decide) ?_
            refine p_iconst (z_dec zd_X9_compared 46 rfl) (v := 1) (by decide) (n := 86) rfl ?_
            refine p_goto (z_dec zd_X9_compared 47 rfl) (t := 90) (by decide) ?_
            exact p_iret (z_dec zd_X9_compared 49 rfl) rfl ⟨(by unfold f_X9_compared; rw [if_neg h14, if_pos h20, if_neg h60]), rfl, (z_3 (by unfold m_X9_compared; rw [if_neg h14, if_pos h20, if_neg h60]) rfl)⟩
      · refine p_iload_n (z_dec zd_X9_compared 12 rfl) rfl 0 rfl (n := 24) rfl ?_
        refine p_bipush (z_dec zd_X9_compared 13 rfl) (v := 61) (by decide) (n := 26) rfl ?_
        refine p_icmp_eq (z_dec zd_X9_compared 14 rfl) (t := 37) (by decide) (n := 29) rfl (fun h26 => ?_) (fun h26 => ?_)
        · refine p_aload_n (z_dec zd_X9_compared 20 rfl) rfl 2 rfl (n := 38) rfl ?_
          refine p_dup (z_dec zd_X9_compared 21 rfl) rfl (n := 39) rfl ?_
          refine q_getI (z_dec zd_X9_compared 22 rfl) zf_X9_144 (by decide) rfl (v := ((m_X9_sums I FO) 54 12)) rfl (n := 42) rfl ?_
          refine p_iconst (z_dec zd_X9_compared 23 rfl) (v := 1) (by decide) (n := 43) rfl ?_
          refine p_iadd (z_dec zd_X9_compared 24 rfl) (n := 44) rfl ?_
          refine q_putI (z_dec zd_X9_compared 25 rfl) zp_X9_144 (fun q => by cases q) rfl (n := 47) rfl ?_
          have hP47 : z_K I ((z_up (m_X9_sums I FO) 54 12 (((m_X9_sums I FO) 54 12) + 1))) := z_K_tr hP4 (z_K_ad hP4.1 (by first | exact z_b0 rfl h20 (by decide) | exact z_b0 rfl h26 (by decide) | exact z_b0 rfl h32 (by decide))).1
          refine p_aload_n (z_dec zd_X9_compared 26 rfl) rfl 2 rfl (n := 48) rfl ?_
          refine q_callV (As := []) (rest := []) (z_dec zd_X9_compared 27 rfl) zk_X9_169 zv_X9_sums (c_X9_sums (d - 1) b (z_up (m_X9_sums I FO) 54 12 (((m_X9_sums I FO) 54 12) + 1)) L hP47.1 e n FO hFO hKO (z_K_n hP47 hn) (by omega)) rfl ⟨_, _, rfl⟩ rfl rfl (Nat.le_of_ble_eq_true rfl) (by omega) (n := 51) rfl ?_
          show PW zm_X9_compared d 51 [(2, .int (f_X9_byteAt (m_X9_sums I FO))), (1, .int (f_X9_sums I FO)), (0, .ref 54)] [.int (f_X9_sums (z_up (m_X9_sums I FO) 54 12 (((m_X9_sums I FO) 54 12) + 1)) FO)] SH ((m_X9_sums (z_up (m_X9_sums I FO) 54 12 (((m_X9_sums I FO) 54 12) + 1)) FO), L, z_R b) 0 0 _
          have hP51 : z_K I ((m_X9_sums (z_up (m_X9_sums I FO) 54 12 (((m_X9_sums I FO) 54 12) + 1)) FO)) := z_K_tr hP47 (z_K_sums hKO hP47.1)
          refine p_istore_n (z_dec zd_X9_compared 28 rfl) rfl (lv2 := [(3, .int (f_X9_sums (z_up (m_X9_sums I FO) 54 12 (((m_X9_sums I FO) 54 12) + 1)) FO)), (2, .int (f_X9_byteAt (m_X9_sums I FO))), (1, .int (f_X9_sums I FO)), (0, .ref 54)]) (by decide) rfl (n := 52) rfl ?_
          refine p_iload_n (z_dec zd_X9_compared 29 rfl) rfl 1 rfl (n := 53) rfl ?_
          refine p_bipush (z_dec zd_X9_compared 30 rfl) (v := 60) (by decide) (n := 55) rfl ?_
          refine p_icmp_ne (z_dec zd_X9_compared 31 rfl) (t := 66) (by decide) (n := 58) rfl (fun h55 => ?_) (fun h55 => ?_)
          · refine p_iload_n (z_dec zd_X9_compared 36 rfl) rfl 1 rfl (n := 67) rfl ?_
            refine p_bipush (z_dec zd_X9_compared 37 rfl) (v := 61) (by decide) (n := 69) rfl ?_
            refine p_icmp_ne (z_dec zd_X9_compared 38 rfl) (t := 80) (by decide) (n := 72) rfl (fun h69 => ?_) (fun h69 => ?_)
            · exact absurd h26 h69
            · refine p_iload_n (z_dec zd_X9_compared 39 rfl) rfl 2 rfl (n := 73) rfl ?_
              refine p_iload_n (z_dec zd_X9_compared 40 rfl) rfl 0 rfl (n := 74) rfl ?_
              refine p_icmp_ne (z_dec zd_X9_compared 41 rfl) (t := 89) (by decide) (n := 77) rfl (fun h74 => ?_) (fun h74 => ?_)
              · refine p_iconst (z_dec zd_X9_compared 48 rfl) (v := 0) (by decide) (n := 90) rfl ?_
                exact p_iret (z_dec zd_X9_compared 49 rfl) rfl ⟨(by unfold f_X9_compared; rw [if_neg h14, if_neg h20, if_pos h26, if_neg h74]), rfl, (z_3 (by unfold m_X9_compared; rw [if_neg h14, if_neg h20, if_pos h26, if_neg h74]) rfl)⟩
              · refine p_goto (z_dec zd_X9_compared 42 rfl) (t := 85) (by decide) ?_
                refine p_iconst (z_dec zd_X9_compared 46 rfl) (v := 1) (by decide) (n := 86) rfl ?_
                refine p_goto (z_dec zd_X9_compared 47 rfl) (t := 90) (by decide) ?_
                exact p_iret (z_dec zd_X9_compared 49 rfl) rfl ⟨(by unfold f_X9_compared; rw [if_neg h14, if_neg h20, if_pos h26, if_pos h74]), rfl, (z_3 (by unfold m_X9_compared; rw [if_neg h14, if_neg h20, if_pos h26, if_pos h74]) rfl)⟩
          · exact absurd (h26.symm.trans h55) (by decide)
        · refine p_iload_n (z_dec zd_X9_compared 15 rfl) rfl 0 rfl (n := 30) rfl ?_
          refine p_bipush (z_dec zd_X9_compared 16 rfl) (v := 62) (by decide) (n := 32) rfl ?_
          refine p_icmp_eq (z_dec zd_X9_compared 17 rfl) (t := 37) (by decide) (n := 35) rfl (fun h32 => ?_) (fun h32 => ?_)
          · refine p_aload_n (z_dec zd_X9_compared 20 rfl) rfl 2 rfl (n := 38) rfl ?_
            refine p_dup (z_dec zd_X9_compared 21 rfl) rfl (n := 39) rfl ?_
            refine q_getI (z_dec zd_X9_compared 22 rfl) zf_X9_144 (by decide) rfl (v := ((m_X9_sums I FO) 54 12)) rfl (n := 42) rfl ?_
            refine p_iconst (z_dec zd_X9_compared 23 rfl) (v := 1) (by decide) (n := 43) rfl ?_
            refine p_iadd (z_dec zd_X9_compared 24 rfl) (n := 44) rfl ?_
            refine q_putI (z_dec zd_X9_compared 25 rfl) zp_X9_144 (fun q => by cases q) rfl (n := 47) rfl ?_
            have hP47 : z_K I ((z_up (m_X9_sums I FO) 54 12 (((m_X9_sums I FO) 54 12) + 1))) := z_K_tr hP4 (z_K_ad hP4.1 (by first | exact z_b0 rfl h20 (by decide) | exact z_b0 rfl h26 (by decide) | exact z_b0 rfl h32 (by decide))).1
            refine p_aload_n (z_dec zd_X9_compared 26 rfl) rfl 2 rfl (n := 48) rfl ?_
            refine q_callV (As := []) (rest := []) (z_dec zd_X9_compared 27 rfl) zk_X9_169 zv_X9_sums (c_X9_sums (d - 1) b (z_up (m_X9_sums I FO) 54 12 (((m_X9_sums I FO) 54 12) + 1)) L hP47.1 e n FO hFO hKO (z_K_n hP47 hn) (by omega)) rfl ⟨_, _, rfl⟩ rfl rfl (Nat.le_of_ble_eq_true rfl) (by omega) (n := 51) rfl ?_
            show PW zm_X9_compared d 51 [(2, .int (f_X9_byteAt (m_X9_sums I FO))), (1, .int (f_X9_sums I FO)), (0, .ref 54)] [.int (f_X9_sums (z_up (m_X9_sums I FO) 54 12 (((m_X9_sums I FO) 54 12) + 1)) FO)] SH ((m_X9_sums (z_up (m_X9_sums I FO) 54 12 (((m_X9_sums I FO) 54 12) + 1)) FO), L, z_R b) 0 0 _
            have hP51 : z_K I ((m_X9_sums (z_up (m_X9_sums I FO) 54 12 (((m_X9_sums I FO) 54 12) + 1)) FO)) := z_K_tr hP47 (z_K_sums hKO hP47.1)
            refine p_istore_n (z_dec zd_X9_compared 28 rfl) rfl (lv2 := [(3, .int (f_X9_sums (z_up (m_X9_sums I FO) 54 12 (((m_X9_sums I FO) 54 12) + 1)) FO)), (2, .int (f_X9_byteAt (m_X9_sums I FO))), (1, .int (f_X9_sums I FO)), (0, .ref 54)]) (by decide) rfl (n := 52) rfl ?_
            refine p_iload_n (z_dec zd_X9_compared 29 rfl) rfl 1 rfl (n := 53) rfl ?_
            refine p_bipush (z_dec zd_X9_compared 30 rfl) (v := 60) (by decide) (n := 55) rfl ?_
            refine p_icmp_ne (z_dec zd_X9_compared 31 rfl) (t := 66) (by decide) (n := 58) rfl (fun h55 => ?_) (fun h55 => ?_)
            · refine p_iload_n (z_dec zd_X9_compared 36 rfl) rfl 1 rfl (n := 67) rfl ?_
              refine p_bipush (z_dec zd_X9_compared 37 rfl) (v := 61) (by decide) (n := 69) rfl ?_
              refine p_icmp_ne (z_dec zd_X9_compared 38 rfl) (t := 80) (by decide) (n := 72) rfl (fun h69 => ?_) (fun h69 => ?_)
              · refine p_iload_n (z_dec zd_X9_compared 43 rfl) rfl 2 rfl (n := 81) rfl ?_
                refine p_iload_n (z_dec zd_X9_compared 44 rfl) rfl 0 rfl (n := 82) rfl ?_
                refine p_icmp_le (z_dec zd_X9_compared 45 rfl) (t := 89) (by decide) (n := 85) rfl (fun h82 => ?_) (fun h82 => ?_)
                · refine p_iconst (z_dec zd_X9_compared 48 rfl) (v := 0) (by decide) (n := 90) rfl ?_
                  exact p_iret (z_dec zd_X9_compared 49 rfl) rfl ⟨(by unfold f_X9_compared; rw [if_neg h14, if_neg h20, if_neg h26, if_pos h32, if_pos h82]), rfl, (z_3 (by unfold m_X9_compared; rw [if_neg h14, if_neg h20, if_neg h26, if_pos h32, if_pos h82]) rfl)⟩
                · refine p_iconst (z_dec zd_X9_compared 46 rfl) (v := 1) (by decide) (n := 86) rfl ?_
                  refine p_goto (z_dec zd_X9_compared 47 rfl) (t := 90) (by decide) ?_
                  exact p_iret (z_dec zd_X9_compared 49 rfl) rfl ⟨(by unfold f_X9_compared; rw [if_neg h14, if_neg h20, if_neg h26, if_pos h32, if_neg h82]), rfl, (z_3 (by unfold m_X9_compared; rw [if_neg h14, if_neg h20, if_neg h26, if_pos h32, if_neg h82]) rfl)⟩
              · exact absurd (h32.symm.trans h69) (by decide)
            · exact absurd (h32.symm.trans h55) (by decide)
          · refine p_iload_n (z_dec zd_X9_compared 18 rfl) rfl 1 rfl (n := 36) rfl ?_
            exact p_iret (z_dec zd_X9_compared 19 rfl) rfl ⟨(by unfold f_X9_compared; rw [if_neg h14, if_neg h20, if_neg h26, if_neg h32]), rfl, (z_3 (by unfold m_X9_compared; rw [if_neg h14, if_neg h20, if_neg h26, if_neg h32]) rfl)⟩
  exact hentry
theorem z_K_compared {FO : (Nat → Nat → Int32) → Int32 × (Nat → Nat → Int32)} (hKO : z_FK FO) {J : Nat → Nat → Int32} (h : z_Q J) : z_K J (m_X9_compared J FO) := by
  have ha := z_K_sums hKO h
  have key : ∀ c : Int32, f_X9_byteAt (m_X9_sums J FO) = c → ¬ c = 0 → z_K J (m_X9_sums (z_up (m_X9_sums J FO) 54 12 ((m_X9_sums J FO 54 12) + 1)) FO) := fun c h1 h2 => by
    have hb := z_K_tr ha (z_K_ad ha.1 (z_b0 rfl h1 h2)).1
    exact z_K_tr hb (z_K_sums hKO hb.1)
  unfold m_X9_compared
  (repeat' split) <;> first | exact ha | exact key 60 (by assumption) (by decide) | exact key 61 (by assumption) (by decide) | exact key 62 (by assumption) (by decide)
