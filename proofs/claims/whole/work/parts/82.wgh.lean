def gw_X2_weigh_26 (np : Nat) (q1 : Nat) : Nat → Nat → (Nat → Nat → Int32) → (Nat → Nat → Int64) → (Nat → Nat → Int32) × (Nat → Nat → Int64)
  | 0, t26, Iw26, Lw26 => (Iw26, Lw26)
  | r26 + 1, t26, Iw26, Lw26 => gw_X2_weigh_26 np q1 r26 (t26 + 1) (z_up Iw26 30 (t26 + 2 ^ q1) (f_X2_fewestOf Iw26 (z_up Lw26 29 (t26 + 2 ^ q1) ((Lw26 29 t26) + (Lw26 28 q1))) np (t26 + 2 ^ q1))) (z_up Lw26 29 (t26 + 2 ^ q1) ((Lw26 29 t26) + (Lw26 28 q1)))
theorem gi_gw_X2_weigh_26 {np : Nat} {q1 : Nat} : ∀ (r26 t26 : Nat) (Iw26 : (Nat → Nat → Int32)) (Lw26 : (Nat → Nat → Int64)), yq_W np Iw26 → yq_W np (gw_X2_weigh_26 np q1 r26 t26 Iw26 Lw26).1
  | 0, t26, Iw26, Lw26, h => h
  | r26 + 1, t26, Iw26, Lw26, h => by
    unfold gw_X2_weigh_26
    (repeat' split) <;> first | exact h | exact gi_gw_X2_weigh_26 r26 (t26 + 1) _ _ (h) | exact gi_gw_X2_weigh_26 r26 (t26 + 1) _ _ (yq_Wu h (by decide) _ _)
def gw_X2_weigh_16 (np : Nat) : Nat → Nat → (Nat → Nat → Int32) → (Nat → Nat → Int64) → (Nat → Nat → Int32) × (Nat → Nat → Int64)
  | 0, t16, Iw16, Lw16 => (Iw16, Lw16)
  | r16 + 1, t16, Iw16, Lw16 => gw_X2_weigh_16 np r16 (t16 + 1) ((gw_X2_weigh_26 np t16 (2 ^ t16) 0 Iw16 Lw16).1) ((gw_X2_weigh_26 np t16 (2 ^ t16) 0 Iw16 Lw16).2)
def m_X2_weigh (I : Nat → Nat → Int32) (L : Nat → Nat → Int64) (np : Nat) : Nat → Nat → Int32 := (gw_X2_weigh_16 np np 0 (z_up I 30 0 0) (z_up L 29 0 0)).1
def n_X2_weigh (I : Nat → Nat → Int32) (L : Nat → Nat → Int64) (np : Nat) : Nat → Nat → Int64 := (gw_X2_weigh_16 np np 0 (z_up I 30 0 0) (z_up L 29 0 0)).2
set_option maxHeartbeats 1000000 in
set_option maxRecDepth 100000 in
theorem c_X2_weigh (d : Nat) (hd : 2 ≤ d) (b : Bool) (I : Nat → Nat → Int32) (L : Nat → Nat → Int64) (np : Nat) (hn10 : np ≤ 10) (hW : yq_W np I) : z_CT zm_X2_weigh d [.ref 26] SH (I, L, z_R b) 0 0 (z_ret (none) ((m_X2_weigh I L np), (n_X2_weigh I L np), z_R b)) := by
  refine z_enter (by decide +kernel) (Nat.le_of_ble_eq_true rfl) ?_
  have hentry : PW zm_X2_weigh d 0 [(0, .ref 26)] [] SH (I, L, z_R b) 0 0 (z_ret (none) ((m_X2_weigh I L np), (n_X2_weigh I L np), z_R b)) := by
    refine p_aload_n (z_dec zd_X2_weigh 0 rfl) rfl 0 rfl (n := 1) rfl ?_
    refine q_getR (z_dec zd_X2_weigh 1 rfl) zf_X2_23 (i := 29) rfl rfl (n := 4) rfl ?_
    refine p_iconst (z_dec zd_X2_weigh 2 rfl) (v := 0) (by decide) (n := 5) rfl ?_
    refine p_lconst (z_dec zd_X2_weigh 3 rfl) (v := 0) (by decide) (n := 6) rfl ?_
    refine q_last (z_dec zd_X2_weigh 4 rfl) rfl (by decide) (0) rfl (by decide) (n := 7) rfl ?_
    refine p_aload_n (z_dec zd_X2_weigh 5 rfl) rfl 0 rfl (n := 8) rfl ?_
    refine q_getR (z_dec zd_X2_weigh 6 rfl) zf_X2_26 (i := 30) rfl rfl (n := 11) rfl ?_
    refine p_iconst (z_dec zd_X2_weigh 7 rfl) (v := 0) (by decide) (n := 12) rfl ?_
    refine p_iconst (z_dec zd_X2_weigh 8 rfl) (v := 0) (by decide) (n := 13) rfl ?_
    refine q_iast (z_dec zd_X2_weigh 9 rfl) rfl (by decide) (0) rfl (by decide) (n := 14) rfl ?_
    have hP14 : yq_W np ((z_up I 30 0 0)) := yq_Wu hW (by decide) _ _
    refine p_iconst (z_dec zd_X2_weigh 10 rfl) (v := 0) (by decide) (n := 15) rfl ?_
    refine p_istore_n (z_dec zd_X2_weigh 11 rfl) rfl (lv2 := [(1, .int 0), (0, .ref 26)]) (by decide) rfl (n := 16) rfl ?_
    have hL16 : ∀ (r16 t16 : Nat) (Iw16 : (Nat → Nat → Int32)) (Lw16 : (Nat → Nat → Int64)), t16 + r16 = np → yq_W np Iw16 → PW zm_X2_weigh d 81 [(0, .ref 26)] [] SH ((gw_X2_weigh_16 np r16 t16 Iw16 Lw16).1, (gw_X2_weigh_16 np r16 t16 Iw16 Lw16).2, z_R b) 0 0 (z_ret (none) ((m_X2_weigh I L np), (n_X2_weigh I L np), z_R b)) → PW zm_X2_weigh d 16 [(1, .int (nI t16)), (0, .ref 26)] [] SH (Iw16, Lw16, z_R b) 0 0 (z_ret (none) ((m_X2_weigh I L np), (n_X2_weigh I L np), z_R b)) := by
      intro r16
      induction r16 with
      | zero =>
        intro t16 Iw16 Lw16 ht16 hlo hk16
        refine p_iload_n (z_dec zd_X2_weigh 12 rfl) rfl 0 rfl (n := 17) rfl ?_
        refine p_aload_n (z_dec zd_X2_weigh 13 rfl) rfl 1 rfl (n := 18) rfl ?_
        refine q_getI (z_dec zd_X2_weigh 14 rfl) zf_X2_9 (by decide) rfl (v := (nI np)) hlo (n := 21) rfl ?_
        refine p_icmp_ge (z_dec zd_X2_weigh 15 rfl) (t := 81) (by decide) (n := 24) rfl (fun h21 => ?_) (fun h21 => ?_)
        · refine z_sub (lv' := [(0, .ref 26)]) [1] rfl ?_
          rw [show (gw_X2_weigh_16 np 0 t16 Iw16 Lw16) = (Iw16, Lw16) from by rfl] at hk16
          exact hk16
        · exact absurd (z_nge (a := np) h21) (by omega)
      | succ r16 ih16 =>
        intro t16 Iw16 Lw16 ht16 hlo hk16
        refine p_iload_n (z_dec zd_X2_weigh 12 rfl) rfl 0 rfl (n := 17) rfl ?_
        refine p_aload_n (z_dec zd_X2_weigh 13 rfl) rfl 1 rfl (n := 18) rfl ?_
        refine q_getI (z_dec zd_X2_weigh 14 rfl) zf_X2_9 (by decide) rfl (v := (nI np)) hlo (n := 21) rfl ?_
        refine p_icmp_ge (z_dec zd_X2_weigh 15 rfl) (t := 81) (by decide) (n := 24) rfl (fun h21 => ?_) (fun h21 => ?_)
        · exact absurd (z_ge (a := np) h21) (by omega)
        · have hx16 : t16 < np := by omega
          have hp16 := yq_p2 (t := t16) (by omega)
          refine p_iconst (z_dec zd_X2_weigh 16 rfl) (v := 0) (by decide) (n := 25) rfl ?_
          refine p_istore_n (z_dec zd_X2_weigh 17 rfl) rfl (lv2 := [(2, .int 0), (1, .int (nI t16)), (0, .ref 26)]) (by decide) rfl (n := 26) rfl ?_
          have hL26 : ∀ (r26 t26 : Nat) (Iw26 : (Nat → Nat → Int32)) (Lw26 : (Nat → Nat → Int64)), t26 + r26 = 2 ^ t16 → yq_W np Iw26 → PW zm_X2_weigh d 75 [(1, .int (nI t16)), (0, .ref 26)] [] SH ((gw_X2_weigh_26 np t16 r26 t26 Iw26 Lw26).1, (gw_X2_weigh_26 np t16 r26 t26 Iw26 Lw26).2, z_R b) 0 0 (z_ret (none) ((m_X2_weigh I L np), (n_X2_weigh I L np), z_R b)) → PW zm_X2_weigh d 26 [(2, .int (nI t26)), (1, .int (nI t16)), (0, .ref 26)] [] SH (Iw26, Lw26, z_R b) 0 0 (z_ret (none) ((m_X2_weigh I L np), (n_X2_weigh I L np), z_R b)) := by
            intro r26
            induction r26 with
            | zero =>
              intro t26 Iw26 Lw26 ht26 hlo hk26
              refine p_iload_n (z_dec zd_X2_weigh 18 rfl) rfl 0 rfl (n := 27) rfl ?_
              refine p_iconst (z_dec zd_X2_weigh 19 rfl) (v := 1) (by decide) (n := 28) rfl ?_
              refine p_iload_n (z_dec zd_X2_weigh 20 rfl) rfl 1 rfl (n := 29) rfl ?_
              refine p_ishl (z_dec zd_X2_weigh 21 rfl) (n := 30) rfl ?_
              refine p_icmp_ge (z_dec zd_X2_weigh 22 rfl) (t := 75) (by decide) (n := 33) rfl (fun h30 => ?_) (fun h30 => ?_)
              · refine z_sub (lv' := [(1, .int (nI t16)), (0, .ref 26)]) [1, 2] rfl ?_
                rw [show (gw_X2_weigh_26 np t16 0 t26 Iw26 Lw26) = (Iw26, Lw26) from by rfl] at hk26
                exact hk26
              · exact absurd ((by have := z_nge (a := 2 ^ t16) (b := t26) (by rw [← z_shl1 t16 (by omega)]; exact h30); exact this)) (by omega)
            | succ r26 ih26 =>
              intro t26 Iw26 Lw26 ht26 hlo hk26
              refine p_iload_n (z_dec zd_X2_weigh 18 rfl) rfl 0 rfl (n := 27) rfl ?_
              refine p_iconst (z_dec zd_X2_weigh 19 rfl) (v := 1) (by decide) (n := 28) rfl ?_
              refine p_iload_n (z_dec zd_X2_weigh 20 rfl) rfl 1 rfl (n := 29) rfl ?_
              refine p_ishl (z_dec zd_X2_weigh 21 rfl) (n := 30) rfl ?_
              refine p_icmp_ge (z_dec zd_X2_weigh 22 rfl) (t := 75) (by decide) (n := 33) rfl (fun h30 => ?_) (fun h30 => ?_)
              · exact absurd ((by have := z_ge (a := 2 ^ t16) (b := t26) (by rw [← z_shl1 t16 (by omega)]; exact h30); exact this)) (by omega)
              · have hx26 : t26 < 2 ^ t16 := by omega
                refine p_iload_n (z_dec zd_X2_weigh 23 rfl) rfl 0 rfl (n := 34) rfl ?_
                refine p_iconst (z_dec zd_X2_weigh 24 rfl) (v := 1) (by decide) (n := 35) rfl ?_
                refine p_iload_n (z_dec zd_X2_weigh 25 rfl) rfl 1 rfl (n := 36) rfl ?_
                refine p_ishl (z_dec zd_X2_weigh 26 rfl) (n := 37) rfl ?_
                refine p_ior (z_dec zd_X2_weigh 27 rfl) (n := 38) rfl ?_
                refine z_lv rfl (show _ = [.int (nI (t26 + 2 ^ t16))] from (by rw [yq_grp (by omega) (by omega)])) rfl ?_
                refine p_istore_n (z_dec zd_X2_weigh 28 rfl) rfl (lv2 := [(3, .int (nI (t26 + 2 ^ t16))), (2, .int (nI t26)), (1, .int (nI t16)), (0, .ref 26)]) (by decide) rfl (n := 39) rfl ?_
                refine p_aload_n (z_dec zd_X2_weigh 29 rfl) rfl 3 rfl (n := 40) rfl ?_
                refine q_getR (z_dec zd_X2_weigh 30 rfl) zf_X2_23 (i := 29) rfl rfl (n := 43) rfl ?_
                refine p_iload_n (z_dec zd_X2_weigh 31 rfl) rfl 0 rfl (n := 44) rfl ?_
                refine p_aload_n (z_dec zd_X2_weigh 32 rfl) rfl 3 rfl (n := 45) rfl ?_
                refine q_getR (z_dec zd_X2_weigh 33 rfl) zf_X2_23 (i := 29) rfl rfl (n := 48) rfl ?_
                refine p_iload_n (z_dec zd_X2_weigh 34 rfl) rfl 1 rfl (n := 49) rfl ?_
                refine q_lald (z_dec zd_X2_weigh 35 rfl) rfl (by decide) (t26) rfl (by omega) (v := (Lw26 29 t26)) rfl (n := 50) rfl ?_
                refine p_aload_n (z_dec zd_X2_weigh 36 rfl) rfl 3 rfl (n := 51) rfl ?_
                refine q_getR (z_dec zd_X2_weigh 37 rfl) zf_X2_19 (i := 28) rfl rfl (n := 54) rfl ?_
                refine p_iload_n (z_dec zd_X2_weigh 38 rfl) rfl 2 rfl (n := 55) rfl ?_
                refine q_lald (z_dec zd_X2_weigh 39 rfl) rfl (by decide) (t16) rfl (by omega) (v := (Lw26 28 t16)) rfl (n := 56) rfl ?_
                refine p_ladd (z_dec zd_X2_weigh 40 rfl) (n := 57) rfl ?_
                refine q_last (z_dec zd_X2_weigh 41 rfl) rfl (by decide) ((t26 + 2 ^ t16)) rfl (by omega) (n := 58) rfl ?_
                refine p_aload_n (z_dec zd_X2_weigh 42 rfl) rfl 3 rfl (n := 59) rfl ?_
                refine q_getR (z_dec zd_X2_weigh 43 rfl) zf_X2_26 (i := 30) rfl rfl (n := 62) rfl ?_
                refine p_iload_n (z_dec zd_X2_weigh 44 rfl) rfl 0 rfl (n := 63) rfl ?_
                refine p_aload_n (z_dec zd_X2_weigh 45 rfl) rfl 3 rfl (n := 64) rfl ?_
                refine p_iload_n (z_dec zd_X2_weigh 46 rfl) rfl 0 rfl (n := 65) rfl ?_
                refine q_callV (As := [.int (nI (t26 + 2 ^ t16))]) (rest := [.int (nI (t26 + 2 ^ t16)), .ref 30]) (z_dec zd_X2_weigh 47 rfl) zk_X2_45 zv_X2_fewestOf (c_X2_fewestOf (d - 1) (by omega) b Iw26 (z_up Lw26 29 (t26 + 2 ^ t16) ((Lw26 29 t26) + (Lw26 28 t16))) np hlo hn10 (t26 + 2 ^ t16) (by omega)) rfl ⟨_, _, rfl⟩ rfl rfl (Nat.le_of_ble_eq_true rfl) (by omega) (n := 68) rfl ?_
                show PW zm_X2_weigh d 68 [(3, .int (nI (t26 + 2 ^ t16))), (2, .int (nI t26)), (1, .int (nI t16)), (0, .ref 26)] [.int (f_X2_fewestOf Iw26 (z_up Lw26 29 (t26 + 2 ^ t16) ((Lw26 29 t26) + (Lw26 28 t16))) np (t26 + 2 ^ t16)), .int (nI (t26 + 2 ^ t16)), .ref 30] SH (Iw26, (z_up Lw26 29 (t26 + 2 ^ t16) ((Lw26 29 t26) + (Lw26 28 t16))), z_R b) 0 0 _
                refine q_iast (z_dec zd_X2_weigh 48 rfl) rfl (by decide) ((t26 + 2 ^ t16)) rfl (by omega) (n := 69) rfl ?_
                refine p_iinc (z_dec zd_X2_weigh 49 rfl) 1 rfl (v := (nI (t26 + 1))) (nI_1 _) (lv2 := [(2, .int (nI (t26 + 1))), (3, .int (nI (t26 + 2 ^ t16))), (1, .int (nI t16)), (0, .ref 26)]) (by decide) rfl (n := 72) rfl ?_
                refine p_goto (z_dec zd_X2_weigh 50 rfl) (t := 26) (by decide) ?_
                refine z_sub (lv' := [(2, .int (nI (t26 + 1))), (1, .int (nI t16)), (0, .ref 26)]) [0, 2, 3] rfl ?_
                rw [show gw_X2_weigh_26 np t16 (r26 + 1) t26 Iw26 Lw26 = gw_X2_weigh_26 np t16 r26 (t26 + 1) (z_up Iw26 30 (t26 + 2 ^ t16) (f_X2_fewestOf Iw26 (z_up Lw26 29 (t26 + 2 ^ t16) ((Lw26 29 t26) + (Lw26 28 t16))) np (t26 + 2 ^ t16))) (z_up Lw26 29 (t26 + 2 ^ t16) ((Lw26 29 t26) + (Lw26 28 t16))) from by rfl] at hk26
                exact ih26 (t26 + 1) (z_up Iw26 30 (t26 + 2 ^ t16) (f_X2_fewestOf Iw26 (z_up Lw26 29 (t26 + 2 ^ t16) ((Lw26 29 t26) + (Lw26 28 t16))) np (t26 + 2 ^ t16))) (z_up Lw26 29 (t26 + 2 ^ t16) ((Lw26 29 t26) + (Lw26 28 t16))) (by omega) (yq_Wu hlo (by decide) _ _) hk26
          refine hL26 (2 ^ t16) 0 Iw16 Lw16 (by omega) hlo ?_
          refine p_iinc (z_dec zd_X2_weigh 51 rfl) 0 rfl (v := (nI (t16 + 1))) (nI_1 _) (lv2 := [(1, .int (nI (t16 + 1))), (0, .ref 26)]) (by decide) rfl (n := 78) rfl ?_
          refine p_goto (z_dec zd_X2_weigh 52 rfl) (t := 16) (by decide) ?_
          rw [show gw_X2_weigh_16 np (r16 + 1) t16 Iw16 Lw16 = gw_X2_weigh_16 np r16 (t16 + 1) ((gw_X2_weigh_26 np t16 (2 ^ t16) 0 Iw16 Lw16).1) ((gw_X2_weigh_26 np t16 (2 ^ t16) 0 Iw16 Lw16).2) from by rfl] at hk16
          exact ih16 (t16 + 1) ((gw_X2_weigh_26 np t16 (2 ^ t16) 0 Iw16 Lw16).1) ((gw_X2_weigh_26 np t16 (2 ^ t16) 0 Iw16 Lw16).2) (by omega) (gi_gw_X2_weigh_26 _ _ _ _ hlo) hk16
    refine hL16 np 0 (z_up I 30 0 0) (z_up L 29 0 0) (by omega) hP14 ?_
    exact p_vret (z_dec zd_X2_weigh 53 rfl) rfl ⟨rfl, rfl, (z_3 (by unfold m_X2_weigh; rfl) (by unfold n_X2_weigh; rfl))⟩
  exact hentry
def f_X2_fewestUpset (I : Nat → Nat → Int32) (np : Nat) : Int32 := (I 30 (2 ^ np - 1))
set_option maxHeartbeats 1000000 in
set_option maxRecDepth 100000 in
theorem c_X2_fewestUpset (d : Nat) (hd : 0 ≤ d) (b : Bool) (I : Nat → Nat → Int32) (L : Nat → Nat → Int64) (np : Nat) (hn10 : np ≤ 10) (hW : yq_W np I) : z_CT zm_X2_fewestUpset d [.ref 26] SH (I, L, z_R b) 0 0 (z_ret (some (.int (f_X2_fewestUpset I np))) (I, L, z_R b)) := by
  refine z_enter (by decide +kernel) (Nat.le_of_ble_eq_true rfl) ?_
  have hentry : PW zm_X2_fewestUpset d 0 [(0, .ref 26)] [] SH (I, L, z_R b) 0 0 (z_ret (some (.int (f_X2_fewestUpset I np))) (I, L, z_R b)) := by
    refine p_aload_n (z_dec zd_X2_fewestUpset 0 rfl) rfl 0 rfl (n := 1) rfl ?_
    refine q_getR (z_dec zd_X2_fewestUpset 1 rfl) zf_X2_26 (i := 30) rfl rfl (n := 4) rfl ?_
    refine p_iconst (z_dec zd_X2_fewestUpset 2 rfl) (v := 1) (by decide) (n := 5) rfl ?_
    refine p_aload_n (z_dec zd_X2_fewestUpset 3 rfl) rfl 0 rfl (n := 6) rfl ?_
    refine q_getI (z_dec zd_X2_fewestUpset 4 rfl) zf_X2_9 (by decide) rfl (v := (nI np)) hW (n := 9) rfl ?_
    refine p_ishl (z_dec zd_X2_fewestUpset 5 rfl) (n := 10) rfl ?_
    refine p_iconst (z_dec zd_X2_fewestUpset 6 rfl) (v := 1) (by decide) (n := 11) rfl ?_
    refine p_isub (z_dec zd_X2_fewestUpset 7 rfl) (n := 12) rfl ?_
    refine q_iald (z_dec zd_X2_fewestUpset 8 rfl) rfl (by decide) (2 ^ np - 1) (yq_all hn10).1 (yq_all hn10).2 (v := (I 30 (2 ^ np - 1))) rfl (n := 13) rfl ?_
    exact p_iret (z_dec zd_X2_fewestUpset 9 rfl) rfl ⟨(by unfold f_X2_fewestUpset; rfl), rfl, rfl⟩
  exact hentry
theorem yq_al0 {np : Nat} (h : np ≤ 10) : nI (2 ^ np - 1) = nI (nI (2 ^ np - 1)).toNatClampNeg ∧ (nI (2 ^ np - 1)).toNatClampNeg < 1024 := by
  have g := (yq_all h).2
  rw [nI_clamp (by omega)]
  exact ⟨rfl, g⟩
def gx_X2_inOrder_15 (I : Nat → Nat → Int32) (L : Nat → Nat → Int64) (np : Nat) (k : Int32) : Nat → Nat → (Int32) → (Int32) → Int32
  | 0, t15, v2, v3 => if k < (nI t15) then v3 else v3
  | r15 + 1, t15, v2, v3 => if k < (nI t15) then v3 else gx_X2_inOrder_15 I L np k r15 (t15 + 1) (v2 &&& (((1 : Int32) <<< ((f_X2_leaderOf I L np v2.toNatClampNeg) &&& 31)) ^^^ (-1))) (f_X2_leaderOf I L np v2.toNatClampNeg)
def f_X2_inOrder (I : Nat → Nat → Int32) (L : Nat → Nat → Int64) (np : Nat) (k : Int32) : Int32 := (gx_X2_inOrder_15 I L np k np 0 (nI (2 ^ np - 1)) (-2))
set_option maxHeartbeats 1000000 in
set_option maxRecDepth 100000 in
theorem c_X2_inOrder (d : Nat) (hd : 2 ≤ d) (b : Bool) (I : Nat → Nat → Int32) (L : Nat → Nat → Int64) (np : Nat) (hn10 : np ≤ 10) (hW : yq_W np I) (k : Int32) : z_CT zm_X2_inOrder d [.ref 26, .int k] SH (I, L, z_R b) 0 0 (z_ret (some (.int (f_X2_inOrder I L np k))) (I, L, z_R b)) := by
  refine z_enter (by decide +kernel) (Nat.le_of_ble_eq_true rfl) ?_
  have hentry : PW zm_X2_inOrder d 0 [(0, .ref 26), (1, .int k)] [] SH (I, L, z_R b) 0 0 (z_ret (some (.int (f_X2_inOrder I L np k))) (I, L, z_R b)) := by
    refine p_iconst (z_dec zd_X2_inOrder 0 rfl) (v := 1) (by decide) (n := 1) rfl ?_
    refine p_aload_n (z_dec zd_X2_inOrder 1 rfl) rfl 0 rfl (n := 2) rfl ?_
    refine q_getI (z_dec zd_X2_inOrder 2 rfl) zf_X2_9 (by decide) rfl (v := (nI np)) hW (n := 5) rfl ?_
    refine p_ishl (z_dec zd_X2_inOrder 3 rfl) (n := 6) rfl ?_
    refine p_iconst (z_dec zd_X2_inOrder 4 rfl) (v := 1) (by decide) (n := 7) rfl ?_
    refine p_isub (z_dec zd_X2_inOrder 5 rfl) (n := 8) rfl ?_
    refine z_lv rfl (show _ = [.int (nI (2 ^ np - 1))] from (by rw [(yq_all hn10).1])) rfl ?_
    refine p_istore_n (z_dec zd_X2_inOrder 6 rfl) rfl (lv2 := [(2, .int (nI (2 ^ np - 1))), (0, .ref 26), (1, .int k)]) (by decide) rfl (n := 9) rfl ?_
    refine p_bipush (z_dec zd_X2_inOrder 7 rfl) (v := (-2)) (by decide) (n := 11) rfl ?_
    refine p_istore_n (z_dec zd_X2_inOrder 8 rfl) rfl (lv2 := [(3, .int (-2)), (2, .int (nI (2 ^ np - 1))), (0, .ref 26), (1, .int k)]) (by decide) rfl (n := 12) rfl ?_
    refine p_iconst (z_dec zd_X2_inOrder 9 rfl) (v := 0) (by decide) (n := 13) rfl ?_
    refine p_istore (z_dec zd_X2_inOrder 10 rfl) (lv2 := [(4, .int 0), (3, .int (-2)), (2, .int (nI (2 ^ np - 1))), (0, .ref 26), (1, .int k)]) (by decide) rfl (n := 15) rfl ?_
    have hL15 : ∀ (r15 t15 : Nat) (v2 : Int32) (v3 : Int32), t15 + r15 = np → (v2 = nI v2.toNatClampNeg ∧ v2.toNatClampNeg < 1024) → PW zm_X2_inOrder d 15 [(4, .int (nI t15)), (3, .int v3), (2, .int v2), (0, .ref 26), (1, .int k)] [] SH (I, L, z_R b) 0 0 (z_ret (some (.int (gx_X2_inOrder_15 I L np k r15 t15 v2 v3))) (I, L, z_R b)) := by
      intro r15
      induction r15 with
      | zero =>
        intro t15 v2 v3 ht15 hlo
        refine p_iload (z_dec zd_X2_inOrder 11 rfl) 0 rfl (n := 17) rfl ?_
        refine p_iload_n (z_dec zd_X2_inOrder 12 rfl) rfl 4 rfl (n := 18) rfl ?_
        refine p_icmp_gt (z_dec zd_X2_inOrder 13 rfl) (t := 50) (by decide) (n := 21) rfl (fun h18 => ?_) (fun h18 => ?_)
        · refine p_iload_n (z_dec zd_X2_inOrder 32 rfl) rfl 1 rfl (n := 51) rfl ?_
          exact p_iret (z_dec zd_X2_inOrder 33 rfl) rfl ⟨(by (conv => rhs; unfold gx_X2_inOrder_15); rw [if_pos h18]), rfl, rfl⟩
        · refine p_iload (z_dec zd_X2_inOrder 14 rfl) 0 rfl (n := 23) rfl ?_
          refine p_aload_n (z_dec zd_X2_inOrder 15 rfl) rfl 3 rfl (n := 24) rfl ?_
          refine q_getI (z_dec zd_X2_inOrder 16 rfl) zf_X2_9 (by decide) rfl (v := (nI np)) hW (n := 27) rfl ?_
          refine p_icmp_ge (z_dec zd_X2_inOrder 17 rfl) (t := 50) (by decide) (n := 30) rfl (fun h27 => ?_) (fun h27 => ?_)
          · refine p_iload_n (z_dec zd_X2_inOrder 32 rfl) rfl 1 rfl (n := 51) rfl ?_
            exact p_iret (z_dec zd_X2_inOrder 33 rfl) rfl ⟨(by (conv => rhs; unfold gx_X2_inOrder_15); rw [if_neg h18]), rfl, rfl⟩
          · exact absurd (z_nge (a := np) h27) (by omega)
      | succ r15 ih15 =>
        intro t15 v2 v3 ht15 hlo
        refine p_iload (z_dec zd_X2_inOrder 11 rfl) 0 rfl (n := 17) rfl ?_
        refine p_iload_n (z_dec zd_X2_inOrder 12 rfl) rfl 4 rfl (n := 18) rfl ?_
        refine p_icmp_gt (z_dec zd_X2_inOrder 13 rfl) (t := 50) (by decide) (n := 21) rfl (fun h18 => ?_) (fun h18 => ?_)
        · refine p_iload_n (z_dec zd_X2_inOrder 32 rfl) rfl 1 rfl (n := 51) rfl ?_
          exact p_iret (z_dec zd_X2_inOrder 33 rfl) rfl ⟨(by (conv => rhs; unfold gx_X2_inOrder_15); rw [if_pos h18]), rfl, rfl⟩
        · refine p_iload (z_dec zd_X2_inOrder 14 rfl) 0 rfl (n := 23) rfl ?_
          refine p_aload_n (z_dec zd_X2_inOrder 15 rfl) rfl 3 rfl (n := 24) rfl ?_
          refine q_getI (z_dec zd_X2_inOrder 16 rfl) zf_X2_9 (by decide) rfl (v := (nI np)) hW (n := 27) rfl ?_
          refine p_icmp_ge (z_dec zd_X2_inOrder 17 rfl) (t := 50) (by decide) (n := 30) rfl (fun h27 => ?_) (fun h27 => ?_)
          · exact absurd (z_ge (a := np) h27) (by omega)
          · have hx15 : t15 < np := by omega
            refine p_aload_n (z_dec zd_X2_inOrder 18 rfl) rfl 3 rfl (n := 31) rfl ?_
            refine p_iload_n (z_dec zd_X2_inOrder 19 rfl) rfl 2 rfl (n := 32) rfl ?_
            refine q_callV (As := [.int (nI v2.toNatClampNeg)]) (rest := []) (z_dec zd_X2_inOrder 20 rfl) zk_X2_61 zv_X2_leaderOf (c_X2_leaderOf (d - 1) (by omega) b I L np hW hn10 v2.toNatClampNeg hlo.2) rfl ⟨_, _, rfl⟩ (by simp only [← hlo.1]; rfl) rfl (Nat.le_of_ble_eq_true rfl) (by omega) (n := 35) rfl ?_
            show PW zm_X2_inOrder d 35 [(4, .int (nI t15)), (3, .int v3), (2, .int v2), (0, .ref 26), (1, .int k)] [.int (f_X2_leaderOf I L np v2.toNatClampNeg)] SH (I, L, z_R b) 0 0 _
            refine p_istore_n (z_dec zd_X2_inOrder 21 rfl) rfl (lv2 := [(3, .int (f_X2_leaderOf I L np v2.toNatClampNeg)), (4, .int (nI t15)), (2, .int v2), (0, .ref 26), (1, .int k)]) (by decide) rfl (n := 36) rfl ?_
            refine p_iload_n (z_dec zd_X2_inOrder 22 rfl) rfl 2 rfl (n := 37) rfl ?_
            refine p_iconst (z_dec zd_X2_inOrder 23 rfl) (v := 1) (by decide) (n := 38) rfl ?_
            refine p_iload_n (z_dec zd_X2_inOrder 24 rfl) rfl 0 rfl (n := 39) rfl ?_
            refine p_ishl (z_dec zd_X2_inOrder 25 rfl) (n := 40) rfl ?_
            refine p_iconst (z_dec zd_X2_inOrder 26 rfl) (v := (-1)) (by decide) (n := 41) rfl ?_
            refine p_ixor (z_dec zd_X2_inOrder 27 rfl) (n := 42) rfl ?_
            refine p_iand (z_dec zd_X2_inOrder 28 rfl) (n := 43) rfl ?_
            refine p_istore_n (z_dec zd_X2_inOrder 29 rfl) rfl (lv2 := [(2, .int (v2 &&& (((1 : Int32) <<< ((f_X2_leaderOf I L np v2.toNatClampNeg) &&& 31)) ^^^ (-1)))), (3, .int (f_X2_leaderOf I L np v2.toNatClampNeg)), (4, .int (nI t15)), (0, .ref 26), (1, .int k)]) (by decide) rfl (n := 44) rfl ?_
            refine p_iinc (z_dec zd_X2_inOrder 30 rfl) 2 rfl (v := (nI (t15 + 1))) (nI_1 _) (lv2 := [(4, .int (nI (t15 + 1))), (2, .int (v2 &&& (((1 : Int32) <<< ((f_X2_leaderOf I L np v2.toNatClampNeg) &&& 31)) ^^^ (-1)))), (3, .int (f_X2_leaderOf I L np v2.toNatClampNeg)), (0, .ref 26), (1, .int k)]) (by decide) rfl (n := 47) rfl ?_
            refine p_goto (z_dec zd_X2_inOrder 31 rfl) (t := 15) (by decide) ?_
            refine z_sub (lv' := [(4, .int (nI (t15 + 1))), (3, .int (f_X2_leaderOf I L np v2.toNatClampNeg)), (2, .int (v2 &&& (((1 : Int32) <<< ((f_X2_leaderOf I L np v2.toNatClampNeg) &&& 31)) ^^^ (-1)))), (0, .ref 26), (1, .int k)]) [0, 2, 1, 3, 4] rfl ?_
            rw [show gx_X2_inOrder_15 I L np k (r15 + 1) t15 v2 v3 = gx_X2_inOrder_15 I L np k r15 (t15 + 1) (v2 &&& (((1 : Int32) <<< ((f_X2_leaderOf I L np v2.toNatClampNeg) &&& 31)) ^^^ (-1))) (f_X2_leaderOf I L np v2.toNatClampNeg) from by (conv => lhs; unfold gx_X2_inOrder_15); rw [if_neg h18]]
            exact ih15 (t15 + 1) (v2 &&& (((1 : Int32) <<< ((f_X2_leaderOf I L np v2.toNatClampNeg) &&& 31)) ^^^ (-1))) (f_X2_leaderOf I L np v2.toNatClampNeg) (by omega) (yq_an hlo _)
    exact (by have q := (hL15 np 0 (nI (2 ^ np - 1)) (-2) (by omega) (yq_al0 hn10)); (rw [show f_X2_inOrder I L np k = _ from by unfold f_X2_inOrder; rfl]); exact q)
  exact hentry
