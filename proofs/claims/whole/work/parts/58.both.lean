def gx_X9_both_5 (FO : (Nat → Nat → Int32) → Int32 × (Nat → Nat → Int32)) : Nat → Nat → (Int32) → (Nat → Nat → Int32) → Int32 × (Nat → Nat → Int32)
  | 0, t5, v1, Iv => (0, Iv)
  | r5 + 1, t5, v1, Iv => if (f_X9_takes Iv 38) = 0 then (v1, (m_X9_takes Iv 38)) else if v1 = 0 then gx_X9_both_5 FO r5 (t5 + 1) 0 (m_X9_compared (m_X9_takes Iv 38) FO) else if (f_X9_compared (m_X9_takes Iv 38) FO) = 0 then gx_X9_both_5 FO r5 (t5 + 1) 0 (m_X9_compared (m_X9_takes Iv 38) FO) else gx_X9_both_5 FO r5 (t5 + 1) 1 (m_X9_compared (m_X9_takes Iv 38) FO)
def f_X9_both (I : Nat → Nat → Int32) (FO : (Nat → Nat → Int32) → Int32 × (Nat → Nat → Int32)) : Int32 := (gx_X9_both_5 FO 121 0 (f_X9_compared I FO) (m_X9_compared I FO)).1
def m_X9_both (I : Nat → Nat → Int32) (FO : (Nat → Nat → Int32) → Int32 × (Nat → Nat → Int32)) : Nat → Nat → Int32 := (gx_X9_both_5 FO 121 0 (f_X9_compared I FO) (m_X9_compared I FO)).2
set_option maxHeartbeats 2000000 in
set_option maxRecDepth 100000 in
theorem c_X9_both (d : Nat) (b : Bool) (I : Nat → Nat → Int32) (L : Nat → Nat → Int64) (hQ : z_Q I) (e n : Nat) (FO : (Nat → Nat → Int32) → Int32 × (Nat → Nat → Int32)) (hFO : ∀ (d : Nat) (J : Nat → Nat → Int32), e ≤ d → z_Q J → 7 - (J 54 15).toNatClampNeg < n → z_CT zm_X9_one d [.ref 54] SH (J, L, z_R b) 0 0 (z_ret (some (.int (FO J).1)) ((FO J).2, L, z_R b))) (hKO : z_FK FO) (hn : 7 - (I 54 15).toNatClampNeg < n) (hd : e + 4 ≤ d) : z_CT zm_X9_both d [.ref 54] SH (I, L, z_R b) 0 0 (z_ret (some (.int (f_X9_both I FO))) ((m_X9_both I FO), L, z_R b)) := by
  refine z_enter (by decide +kernel) (Nat.le_of_ble_eq_true rfl) ?_
  have hentry : PW zm_X9_both d 0 [(0, .ref 54)] [] SH (I, L, z_R b) 0 0 (z_ret (some (.int (f_X9_both I FO))) ((m_X9_both I FO), L, z_R b)) := by
    refine p_aload_n (z_dec zd_X9_both 0 rfl) rfl 0 rfl (n := 1) rfl ?_
    refine q_callV (As := []) (rest := []) (z_dec zd_X9_both 1 rfl) zk_X9_166 zv_X9_compared (c_X9_compared (d - 1) b I L ((z_K_rf hQ).1) e n FO hFO hKO (z_K_n (z_K_rf hQ) hn) (by omega)) rfl ⟨_, _, rfl⟩ rfl rfl (Nat.le_of_ble_eq_true rfl) (by omega) (n := 4) rfl ?_
    show PW zm_X9_both d 4 [(0, .ref 54)] [.int (f_X9_compared I FO)] SH ((m_X9_compared I FO), L, z_R b) 0 0 _
    have hP4 : z_K I ((m_X9_compared I FO)) := z_K_compared hKO hQ
    refine p_istore_n (z_dec zd_X9_both 2 rfl) rfl (lv2 := [(1, .int (f_X9_compared I FO)), (0, .ref 54)]) (by decide) rfl (n := 5) rfl ?_
    have hL5 : ∀ (r5 t5 : Nat) (v1 : Int32) (Iv : Nat → Nat → Int32), z_me Iv < r5 → z_K I Iv → PW zm_X9_both d 5 [(1, .int v1), (0, .ref 54)] [] SH (Iv, L, z_R b) 0 0 (z_ret (some (.int (gx_X9_both_5 FO r5 t5 v1 Iv).1)) ((gx_X9_both_5 FO r5 t5 v1 Iv).2, L, z_R b)) := by
      intro r5
      induction r5 with
      | zero =>
        intro t5 v1 Iv ht5 hlo
        exact absurd ht5 (Nat.not_lt_zero _)
      | succ r5 ih5 =>
        intro t5 v1 Iv ht5 hlo
        refine p_aload_n (z_dec zd_X9_both 3 rfl) rfl 1 rfl (n := 6) rfl ?_
        refine p_bipush (z_dec zd_X9_both 4 rfl) (v := 38) (by decide) (n := 8) rfl ?_
        refine q_callV (As := [.int 38]) (rest := []) (z_dec zd_X9_both 5 rfl) zk_X9_163 zv_X9_takes (c_X9_takes (d - 1) (by omega) b Iv L 38 hlo.1) rfl ⟨_, _, rfl⟩ rfl rfl (Nat.le_of_ble_eq_true rfl) (by omega) (n := 11) rfl ?_
        show PW zm_X9_both d 11 [(1, .int v1), (0, .ref 54)] [.int (f_X9_takes Iv 38)] SH ((m_X9_takes Iv 38), L, z_R b) 0 0 _
        have hP11 : z_K I ((m_X9_takes Iv 38)) := z_K_tr hlo (z_K_tk hlo.1 (by decide))
        refine p_if_eq (z_dec zd_X9_both 6 rfl) (t := 36) (by decide) (n := 14) rfl (fun h11 => ?_) (fun h11 => ?_)
        · refine p_iload_n (z_dec zd_X9_both 19 rfl) rfl 0 rfl (n := 37) rfl ?_
          exact p_iret (z_dec zd_X9_both 20 rfl) rfl ⟨(by (conv => rhs; unfold gx_X9_both_5); rw [if_pos h11]), rfl, (z_3 (by (conv => rhs; unfold gx_X9_both_5); rw [if_pos h11]) rfl)⟩
        · have ht14 := z_tk_me hlo.1 (by decide) h11
          refine p_aload_n (z_dec zd_X9_both 7 rfl) rfl 1 rfl (n := 15) rfl ?_
          refine q_callV (As := []) (rest := []) (z_dec zd_X9_both 8 rfl) zk_X9_166 zv_X9_compared (c_X9_compared (d - 1) b (m_X9_takes Iv 38) L hP11.1 e n FO hFO hKO (z_K_n hP11 hn) (by omega)) rfl ⟨_, _, rfl⟩ rfl rfl (Nat.le_of_ble_eq_true rfl) (by omega) (n := 18) rfl ?_
          show PW zm_X9_both d 18 [(1, .int v1), (0, .ref 54)] [.int (f_X9_compared (m_X9_takes Iv 38) FO)] SH ((m_X9_compared (m_X9_takes Iv 38) FO), L, z_R b) 0 0 _
          have ha18 := z_K_compared hKO hP11.1
          have hP18 : z_K I ((m_X9_compared (m_X9_takes Iv 38) FO)) := z_K_tr hP11 ha18
          refine p_istore_n (z_dec zd_X9_both 9 rfl) rfl (lv2 := [(2, .int (f_X9_compared (m_X9_takes Iv 38) FO)), (1, .int v1), (0, .ref 54)]) (by decide) rfl (n := 19) rfl ?_
          refine p_iload_n (z_dec zd_X9_both 10 rfl) rfl 1 rfl (n := 20) rfl ?_
          refine p_if_eq (z_dec zd_X9_both 11 rfl) (t := 31) (by decide) (n := 23) rfl (fun h20 => ?_) (fun h20 => ?_)
          · refine p_iconst (z_dec zd_X9_both 16 rfl) (v := 0) (by decide) (n := 32) rfl ?_
            refine p_istore_n (z_dec zd_X9_both 17 rfl) rfl (lv2 := [(1, .int 0), (2, .int (f_X9_compared (m_X9_takes Iv 38) FO)), (0, .ref 54)]) (by decide) rfl (n := 33) rfl ?_
            refine p_goto (z_dec zd_X9_both 18 rfl) (t := 5) (by decide) ?_
            refine z_sub (lv' := [(1, .int 0), (0, .ref 54)]) [0, 2] rfl ?_
            rw [show gx_X9_both_5 FO (r5 + 1) t5 v1 Iv = gx_X9_both_5 FO r5 (t5 + 1) 0 (m_X9_compared (m_X9_takes Iv 38) FO) from by (conv => lhs; unfold gx_X9_both_5); rw [if_neg h11, if_pos h20]]
            exact ih5 (t5 + 1) 0 (m_X9_compared (m_X9_takes Iv 38) FO) (z_lt_le (Nat.lt_of_le_of_lt (z_K_me ha18) ht14) ht5) hP18
          · refine p_iload_n (z_dec zd_X9_both 12 rfl) rfl 0 rfl (n := 24) rfl ?_
            refine p_if_eq (z_dec zd_X9_both 13 rfl) (t := 31) (by decide) (n := 27) rfl (fun h24 => ?_) (fun h24 => ?_)
            · refine p_iconst (z_dec zd_X9_both 16 rfl) (v := 0) (by decide) (n := 32) rfl ?_
              refine p_istore_n (z_dec zd_X9_both 17 rfl) rfl (lv2 := [(1, .int 0), (2, .int (f_X9_compared (m_X9_takes Iv 38) FO)), (0, .ref 54)]) (by decide) rfl (n := 33) rfl ?_
              refine p_goto (z_dec zd_X9_both 18 rfl) (t := 5) (by decide) ?_
              refine z_sub (lv' := [(1, .int 0), (0, .ref 54)]) [0, 2] rfl ?_
              rw [show gx_X9_both_5 FO (r5 + 1) t5 v1 Iv = gx_X9_both_5 FO r5 (t5 + 1) 0 (m_X9_compared (m_X9_takes Iv 38) FO) from by (conv => lhs; unfold gx_X9_both_5); rw [if_neg h11, if_neg h20, if_pos h24]]
              exact ih5 (t5 + 1) 0 (m_X9_compared (m_X9_takes Iv 38) FO) (z_lt_le (Nat.lt_of_le_of_lt (z_K_me ha18) ht14) ht5) hP18
            · refine p_iconst (z_dec zd_X9_both 14 rfl) (v := 1) (by decide) (n := 28) rfl ?_
              refine p_goto (z_dec zd_X9_both 15 rfl) (t := 32) (by decide) ?_
              refine p_istore_n (z_dec zd_X9_both 17 rfl) rfl (lv2 := [(1, .int 1), (2, .int (f_X9_compared (m_X9_takes Iv 38) FO)), (0, .ref 54)]) (by decide) rfl (n := 33) rfl ?_
              refine p_goto (z_dec zd_X9_both 18 rfl) (t := 5) (by decide) ?_
              refine z_sub (lv' := [(1, .int 1), (0, .ref 54)]) [0, 2] rfl ?_
              rw [show gx_X9_both_5 FO (r5 + 1) t5 v1 Iv = gx_X9_both_5 FO r5 (t5 + 1) 1 (m_X9_compared (m_X9_takes Iv 38) FO) from by (conv => lhs; unfold gx_X9_both_5); rw [if_neg h11, if_neg h20, if_neg h24]]
              exact ih5 (t5 + 1) 1 (m_X9_compared (m_X9_takes Iv 38) FO) (z_lt_le (Nat.lt_of_le_of_lt (z_K_me ha18) ht14) ht5) hP18
    exact (by have q := (hL5 121 0 (f_X9_compared I FO) (m_X9_compared I FO) (z_meQ hP4.1) hP4); (rw [show f_X9_both I FO = _ from by unfold f_X9_both; rfl]); (rw [show m_X9_both I FO = _ from by unfold m_X9_both; rfl]); exact q)
  exact hentry
theorem z_Kgx5b {FO : (Nat → Nat → Int32) → Int32 × (Nat → Nat → Int32)} (hKO : z_FK FO) : ∀ (r t : Nat) (v1 : Int32) (Iv : Nat → Nat → Int32), z_Q Iv → z_K Iv (gx_X9_both_5 FO r t v1 Iv).2
  | 0, t, v1, Iv, h => z_K_rf h
  | r + 1, t, v1, Iv, h => by
    have h0 := z_K_tk h (c := 38) (by decide)
    have key : ∀ v : Int32, z_K Iv (gx_X9_both_5 FO r (t + 1) v (m_X9_compared (m_X9_takes Iv 38) FO)).2 := fun v => by
      have hb := z_K_tr h0 (z_K_compared hKO h0.1)
      exact z_K_tr hb (z_Kgx5b hKO r (t + 1) v _ hb.1)
    unfold gx_X9_both_5
    (repeat' split) <;> first | exact h0 | exact key _
theorem z_K_both {FO : (Nat → Nat → Int32) → Int32 × (Nat → Nat → Int32)} (hKO : z_FK FO) {J : Nat → Nat → Int32} (h : z_Q J) : z_K J (m_X9_both J FO) := by
  have ha := z_K_compared hKO h
  exact z_K_tr ha (z_Kgx5b hKO 121 0 _ _ ha.1)
def gx_X9_either_5 (FO : (Nat → Nat → Int32) → Int32 × (Nat → Nat → Int32)) : Nat → Nat → (Int32) → (Nat → Nat → Int32) → Int32 × (Nat → Nat → Int32)
  | 0, t5, v1, Iv => (0, Iv)
  | r5 + 1, t5, v1, Iv => if (f_X9_takes Iv 124) = 0 then (v1, (m_X9_takes Iv 124)) else if v1 = 0 then if (f_X9_both (m_X9_takes Iv 124) FO) = 0 then gx_X9_either_5 FO r5 (t5 + 1) 0 (m_X9_both (m_X9_takes Iv 124) FO) else gx_X9_either_5 FO r5 (t5 + 1) 1 (m_X9_both (m_X9_takes Iv 124) FO) else gx_X9_either_5 FO r5 (t5 + 1) 1 (m_X9_both (m_X9_takes Iv 124) FO)
def f_X9_either (I : Nat → Nat → Int32) (FO : (Nat → Nat → Int32) → Int32 × (Nat → Nat → Int32)) : Int32 := (gx_X9_either_5 FO 121 0 (f_X9_both I FO) (m_X9_both I FO)).1
def m_X9_either (I : Nat → Nat → Int32) (FO : (Nat → Nat → Int32) → Int32 × (Nat → Nat → Int32)) : Nat → Nat → Int32 := (gx_X9_either_5 FO 121 0 (f_X9_both I FO) (m_X9_both I FO)).2
set_option maxHeartbeats 2000000 in
set_option maxRecDepth 100000 in
theorem c_X9_either (d : Nat) (b : Bool) (I : Nat → Nat → Int32) (L : Nat → Nat → Int64) (hQ : z_Q I) (e n : Nat) (FO : (Nat → Nat → Int32) → Int32 × (Nat → Nat → Int32)) (hFO : ∀ (d : Nat) (J : Nat → Nat → Int32), e ≤ d → z_Q J → 7 - (J 54 15).toNatClampNeg < n → z_CT zm_X9_one d [.ref 54] SH (J, L, z_R b) 0 0 (z_ret (some (.int (FO J).1)) ((FO J).2, L, z_R b))) (hKO : z_FK FO) (hn : 7 - (I 54 15).toNatClampNeg < n) (hd : e + 5 ≤ d) : z_CT zm_X9_either d [.ref 54] SH (I, L, z_R b) 0 0 (z_ret (some (.int (f_X9_either I FO))) ((m_X9_either I FO), L, z_R b)) := by
  refine z_enter (by decide +kernel) (Nat.le_of_ble_eq_true rfl) ?_
  have hentry : PW zm_X9_either d 0 [(0, .ref 54)] [] SH (I, L, z_R b) 0 0 (z_ret (some (.int (f_X9_either I FO))) ((m_X9_either I FO), L, z_R b)) := by
    refine p_aload_n (z_dec zd_X9_either 0 rfl) rfl 0 rfl (n := 1) rfl ?_
    refine q_callV (As := []) (rest := []) (z_dec zd_X9_either 1 rfl) zk_X9_160 zv_X9_both (c_X9_both (d - 1) b I L ((z_K_rf hQ).1) e n FO hFO hKO (z_K_n (z_K_rf hQ) hn) (by omega)) rfl ⟨_, _, rfl⟩ rfl rfl (Nat.le_of_ble_eq_true rfl) (by omega) (n := 4) rfl ?_
    show PW zm_X9_either d 4 [(0, .ref 54)] [.int (f_X9_both I FO)] SH ((m_X9_both I FO), L, z_R b) 0 0 _
    have hP4 : z_K I ((m_X9_both I FO)) := z_K_both hKO hQ
    refine p_istore_n (z_dec zd_X9_either 2 rfl) rfl (lv2 := [(1, .int (f_X9_both I FO)), (0, .ref 54)]) (by decide) rfl (n := 5) rfl ?_
    have hL5 : ∀ (r5 t5 : Nat) (v1 : Int32) (Iv : Nat → Nat → Int32), z_me Iv < r5 → z_K I Iv → PW zm_X9_either d 5 [(1, .int v1), (0, .ref 54)] [] SH (Iv, L, z_R b) 0 0 (z_ret (some (.int (gx_X9_either_5 FO r5 t5 v1 Iv).1)) ((gx_X9_either_5 FO r5 t5 v1 Iv).2, L, z_R b)) := by
      intro r5
      induction r5 with
      | zero =>
        intro t5 v1 Iv ht5 hlo
        exact absurd ht5 (Nat.not_lt_zero _)
      | succ r5 ih5 =>
        intro t5 v1 Iv ht5 hlo
        refine p_aload_n (z_dec zd_X9_either 3 rfl) rfl 1 rfl (n := 6) rfl ?_
        refine p_bipush (z_dec zd_X9_either 4 rfl) (v := 124) (by decide) (n := 8) rfl ?_
        refine q_callV (As := [.int 124]) (rest := []) (z_dec zd_X9_either 5 rfl) zk_X9_163 zv_X9_takes (c_X9_takes (d - 1) (by omega) b Iv L 124 hlo.1) rfl ⟨_, _, rfl⟩ rfl rfl (Nat.le_of_ble_eq_true rfl) (by omega) (n := 11) rfl ?_
        show PW zm_X9_either d 11 [(1, .int v1), (0, .ref 54)] [.int (f_X9_takes Iv 124)] SH ((m_X9_takes Iv 124), L, z_R b) 0 0 _
        have hP11 : z_K I ((m_X9_takes Iv 124)) := z_K_tr hlo (z_K_tk hlo.1 (by decide))
        refine p_if_eq (z_dec zd_X9_either 6 rfl) (t := 36) (by decide) (n := 14) rfl (fun h11 => ?_) (fun h11 => ?_)
        · refine p_iload_n (z_dec zd_X9_either 19 rfl) rfl 0 rfl (n := 37) rfl ?_
          exact p_iret (z_dec zd_X9_either 20 rfl) rfl ⟨(by (conv => rhs; unfold gx_X9_either_5); rw [if_pos h11]), rfl, (z_3 (by (conv => rhs; unfold gx_X9_either_5); rw [if_pos h11]) rfl)⟩
        · have ht14 := z_tk_me hlo.1 (by decide) h11
          refine p_aload_n (z_dec zd_X9_either 7 rfl) rfl 1 rfl (n := 15) rfl ?_
          refine q_callV (As := []) (rest := []) (z_dec zd_X9_either 8 rfl) zk_X9_160 zv_X9_both (c_X9_both (d - 1) b (m_X9_takes Iv 124) L hP11.1 e n FO hFO hKO (z_K_n hP11 hn) (by omega)) rfl ⟨_, _, rfl⟩ rfl rfl (Nat.le_of_ble_eq_true rfl) (by omega) (n := 18) rfl ?_
          show PW zm_X9_either d 18 [(1, .int v1), (0, .ref 54)] [.int (f_X9_both (m_X9_takes Iv 124) FO)] SH ((m_X9_both (m_X9_takes Iv 124) FO), L, z_R b) 0 0 _
          have ha18 := z_K_both hKO hP11.1
          have hP18 : z_K I ((m_X9_both (m_X9_takes Iv 124) FO)) := z_K_tr hP11 ha18
          refine p_istore_n (z_dec zd_X9_either 9 rfl) rfl (lv2 := [(2, .int (f_X9_both (m_X9_takes Iv 124) FO)), (1, .int v1), (0, .ref 54)]) (by decide) rfl (n := 19) rfl ?_
          refine p_iload_n (z_dec zd_X9_either 10 rfl) rfl 1 rfl (n := 20) rfl ?_
          refine p_if_ne (z_dec zd_X9_either 11 rfl) (t := 27) (by decide) (n := 23) rfl (fun h20 => ?_) (fun h20 => ?_)
          · refine p_iconst (z_dec zd_X9_either 14 rfl) (v := 1) (by decide) (n := 28) rfl ?_
            refine p_goto (z_dec zd_X9_either 15 rfl) (t := 32) (by decide) ?_
            refine p_istore_n (z_dec zd_X9_either 17 rfl) rfl (lv2 := [(1, .int 1), (2, .int (f_X9_both (m_X9_takes Iv 124) FO)), (0, .ref 54)]) (by decide) rfl (n := 33) rfl ?_
            refine p_goto (z_dec zd_X9_either 18 rfl) (t := 5) (by decide) ?_
            refine z_sub (lv' := [(1, .int 1), (0, .ref 54)]) [0, 2] rfl ?_
            rw [show gx_X9_either_5 FO (r5 + 1) t5 v1 Iv = gx_X9_either_5 FO r5 (t5 + 1) 1 (m_X9_both (m_X9_takes Iv 124) FO) from by (conv => lhs; unfold gx_X9_either_5); rw [if_neg h11, if_neg h20]]
            exact ih5 (t5 + 1) 1 (m_X9_both (m_X9_takes Iv 124) FO) (z_lt_le (Nat.lt_of_le_of_lt (z_K_me ha18) ht14) ht5) hP18
          · refine p_iload_n (z_dec zd_X9_either 12 rfl) rfl 0 rfl (n := 24) rfl ?_
            refine p_if_eq (z_dec zd_X9_either 13 rfl) (t := 31) (by decide) (n := 27) rfl (fun h24 => ?_) (fun h24 => ?_)
            · refine p_iconst (z_dec zd_X9_either 16 rfl) (v := 0) (by decide) (n := 32) rfl ?_
              refine p_istore_n (z_dec zd_X9_either 17 rfl) rfl (lv2 := [(1, .int 0), (2, .int (f_X9_both (m_X9_takes Iv 124) FO)), (0, .ref 54)]) (by decide) rfl (n := 33) rfl ?_
              refine p_goto (z_dec zd_X9_either 18 rfl) (t := 5) (by decide) ?_
              refine z_sub (lv' := [(1, .int 0), (0, .ref 54)]) [0, 2] rfl ?_
              rw [show gx_X9_either_5 FO (r5 + 1) t5 v1 Iv = gx_X9_either_5 FO r5 (t5 + 1) 0 (m_X9_both (m_X9_takes Iv 124) FO) from by (conv => lhs; unfold gx_X9_either_5); rw [if_neg h11, if_pos h20, if_pos h24]]
              exact ih5 (t5 + 1) 0 (m_X9_both (m_X9_takes Iv 124) FO) (z_lt_le (Nat.lt_of_le_of_lt (z_K_me ha18) ht14) ht5) hP18
            · refine p_iconst (z_dec zd_X9_either 14 rfl) (v := 1) (by decide) (n := 28) rfl ?_
              refine p_goto (z_dec zd_X9_either 15 rfl) (t := 32) (by decide) ?_
              refine p_istore_n (z_dec zd_X9_either 17 rfl) rfl (lv2 := [(1, .int 1), (2, .int (f_X9_both (m_X9_takes Iv 124) FO)), (0, .ref 54)]) (by decide) rfl (n := 33) rfl ?_
              refine p_goto (z_dec zd_X9_either 18 rfl) (t := 5) (by decide) ?_
              refine z_sub (lv' := [(1, .int 1), (0, .ref 54)]) [0, 2] rfl ?_
              rw [show gx_X9_either_5 FO (r5 + 1) t5 v1 Iv = gx_X9_either_5 FO r5 (t5 + 1) 1 (m_X9_both (m_X9_takes Iv 124) FO) from by (conv => lhs; unfold gx_X9_either_5); rw [if_neg h11, if_pos h20, if_neg h24]]
              exact ih5 (t5 + 1) 1 (m_X9_both (m_X9_takes Iv 124) FO) (z_lt_le (Nat.lt_of_le_of_lt (z_K_me ha18) ht14) ht5) hP18
    exact (by have q := (hL5 121 0 (f_X9_both I FO) (m_X9_both I FO) (z_meQ hP4.1) hP4); (rw [show f_X9_either I FO = _ from by unfold f_X9_either; rfl]); (rw [show m_X9_either I FO = _ from by unfold m_X9_either; rfl]); exact q)
  exact hentry
theorem z_Kgx5e {FO : (Nat → Nat → Int32) → Int32 × (Nat → Nat → Int32)} (hKO : z_FK FO) : ∀ (r t : Nat) (v1 : Int32) (Iv : Nat → Nat → Int32), z_Q Iv → z_K Iv (gx_X9_either_5 FO r t v1 Iv).2
  | 0, t, v1, Iv, h => z_K_rf h
  | r + 1, t, v1, Iv, h => by
    have h0 := z_K_tk h (c := 124) (by decide)
    have key : ∀ v : Int32, z_K Iv (gx_X9_either_5 FO r (t + 1) v (m_X9_both (m_X9_takes Iv 124) FO)).2 := fun v => by
      have hb := z_K_tr h0 (z_K_both hKO h0.1)
      exact z_K_tr hb (z_Kgx5e hKO r (t + 1) v _ hb.1)
    unfold gx_X9_either_5
    (repeat' split) <;> first | exact h0 | exact key _
theorem z_K_either {FO : (Nat → Nat → Int32) → Int32 × (Nat → Nat → Int32)} (hKO : z_FK FO) {J : Nat → Nat → Int32} (h : z_Q J) : z_K J (m_X9_either J FO) := by
  have ha := z_K_both hKO h
  exact z_K_tr ha (z_Kgx5e hKO 121 0 _ _ ha.1)
