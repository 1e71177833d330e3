theorem yq_Tg30 {np sz : Nat} {FB : (Int32 → Int32 → (Nat → Nat → Int32) → Int32 × (Nat → Nat → Int32))} (hTB : ∀ (o fr : Int32) (J : (Nat → Nat → Int32)), yq_T np sz J → yq_T np sz (FB o fr J).2) {fr o : Int32} : ∀ (r t : Nat) (v : Int32) (Iv : (Nat → Nat → Int32)), yq_T np sz Iv → yq_T np sz (gx_X6_best_32 fr o FB r t v Iv).2
  | 0, t, v, Iv, h => h
  | r + 1, t, v, Iv, h => by
    unfold gx_X6_best_32
    (repeat' split) <;> exact yq_Tg30 hTB r (t + 1) _ _ (hTB _ _ _ h)
theorem yq_Tbe {np sz m : Nat} {b : Bool} {FB : (Int32 → Int32 → (Nat → Nat → Int32) → Int32 × (Nat → Nat → Int32))} (hTB : ∀ (o fr : Int32) (J : (Nat → Nat → Int32)), yq_T np sz J → yq_T np sz (FB o fr J).2) {fr o : Int32} {I : (Nat → Nat → Int32)} (h : yq_T np sz I) : yq_T np sz (m_X6_best b I sz fr m o FB) := by
  unfold m_X6_best
  (repeat' split) <;> first | exact yq_Toa h b fr | exact yq_Tg30 hTB 3 0 _ _ h
/-- lemonade and chalk by turns, m turns left: o who is to move, from a grudge on -/
def yq_bt (b : Bool) (sz : Nat) : Nat → (Int32 → Int32 → (Nat → Nat → Int32) → Int32 × (Nat → Nat → Int32))
  | 0 => fun o fr J => (f_X6_best b J sz fr 0 o (fun _ _ K => (0, K)), m_X6_best b J sz fr 0 o (fun _ _ K => (0, K)))
  | m + 1 => fun o fr J => (f_X6_best b J sz fr (m + 1) o (yq_bt b sz m), m_X6_best b J sz fr (m + 1) o (yq_bt b sz m))
theorem yq_btT {b : Bool} {np sz : Nat} : ∀ (m : Nat) (o fr : Int32) (J : (Nat → Nat → Int32)), yq_T np sz J → yq_T np sz (yq_bt b sz m o fr J).2
  | 0, o, fr, J, h => yq_Tbe (m := 0) (b := b) (fr := fr) (o := o) (FB := fun _ _ K => (0, K)) (fun _ _ _ h => h) h
  | m + 1, o, fr, J, h => yq_Tbe (yq_btT m) h
theorem c_bt (b : Bool) (L : Nat → Nat → Int64) {np sz : Nat} (hn10 : np ≤ 10) (hs121 : sz ≤ 121) : ∀ (m d : Nat) (o fr : Int32) (J : (Nat → Nat → Int32)), m ≤ 5 → 5 + m ≤ d → (o = 0 ∨ o = 1) → yq_T np sz J → z_CT zm_X6_best d [.ref 31, .int fr, .int (nI m), .int o, .ref 13] SH (J, L, z_R b) 0 0 (z_ret (some (.int (yq_bt b sz m o fr J).1)) ((yq_bt b sz m o fr J).2, L, z_R b))
  | 0, d, o, fr, J, hm, hd, ho, h => c_X6_best d (by omega) b J L np hn10 sz hs121 h fr 0 hm o ho (fun _ _ K => (0, K)) (fun o fr J q => absurd q (by omega)) (fun _ _ _ h => h)
  | m + 1, d, o, fr, J, hm, hd, ho, h => c_X6_best d (by omega) b J L np hn10 sz hs121 h fr (m + 1) hm o ho (yq_bt b sz m) (fun o fr J _ ho hJ => c_bt b L hn10 hs121 m (d - 1) o fr J (by omega) (by omega) ho hJ) (yq_btT m)
def f_X6_bestOdds (b : Bool) (I : Nat → Nat → Int32) (sz : Nat) (m : Nat) : Int32 := (yq_bt b sz m 1 (I 31 2) I).1
def m_X6_bestOdds (b : Bool) (I : Nat → Nat → Int32) (sz : Nat) (m : Nat) : Nat → Nat → Int32 := (yq_bt b sz m 1 (I 31 2) I).2
set_option maxHeartbeats 1000000 in
set_option maxRecDepth 100000 in
theorem c_X6_bestOdds (d : Nat) (hd : 11 ≤ d) (b : Bool) (I : Nat → Nat → Int32) (L : Nat → Nat → Int64) (np : Nat) (hn10 : np ≤ 10) (sz : Nat) (hs121 : sz ≤ 121) (hT : yq_T np sz I) (m : Nat) (hm0 : 0 < m) (hm5 : m ≤ 5) : z_CT zm_X6_bestOdds d [.ref 31, .int (nI m), .ref 13] SH (I, L, z_R b) 0 0 (z_ret (some (.int (f_X6_bestOdds b I sz m))) ((m_X6_bestOdds b I sz m), L, z_R b)) := by
  refine z_enter (by decide +kernel) (Nat.le_of_ble_eq_true rfl) ?_
  have hentry : PW zm_X6_bestOdds d 0 [(0, .ref 31), (1, .int (nI m)), (2, .ref 13)] [] SH (I, L, z_R b) 0 0 (z_ret (some (.int (f_X6_bestOdds b I sz m))) ((m_X6_bestOdds b I sz m), L, z_R b)) := by
    refine p_aload_n (z_dec zd_X6_bestOdds 0 rfl) rfl 0 rfl (n := 1) rfl ?_
    refine p_aload_n (z_dec zd_X6_bestOdds 1 rfl) rfl 0 rfl (n := 2) rfl ?_
    refine q_getI (z_dec zd_X6_bestOdds 2 rfl) zf_X6_22 (by decide) rfl (v := (I 31 2)) rfl (n := 5) rfl ?_
    refine p_iload_n (z_dec zd_X6_bestOdds 3 rfl) rfl 1 rfl (n := 6) rfl ?_
    refine p_iconst (z_dec zd_X6_bestOdds 4 rfl) (v := 1) (by decide) (n := 7) rfl ?_
    refine p_aload_n (z_dec zd_X6_bestOdds 5 rfl) rfl 2 rfl (n := 8) rfl ?_
    refine q_callV (As := [.int (I 31 2), .int (nI m), .int 1, .ref 13]) (rest := []) (z_dec zd_X6_bestOdds 6 rfl) zk_X6_43 zv_X6_best (c_bt b L hn10 hs121 m (d - 1) 1 (I 31 2) I (by omega) (by omega) (Or.inr rfl) hT) rfl ⟨_, _, rfl⟩ rfl rfl (Nat.le_of_ble_eq_true rfl) (by omega) (n := 11) rfl ?_
    show PW zm_X6_bestOdds d 11 [(0, .ref 31), (1, .int (nI m)), (2, .ref 13)] [.int ((yq_bt b sz m 1 (I 31 2) I).1)] SH ((yq_bt b sz m 1 (I 31 2) I).2, L, z_R b) 0 0 _
    exact p_iret (z_dec zd_X6_bestOdds 7 rfl) rfl ⟨(by unfold f_X6_bestOdds; rfl), rfl, (z_3 (by unfold m_X6_bestOdds; rfl) rfl)⟩
  exact hentry
def gx_X6_bestFirst_8 (b : Bool) (sz : Nat) (m : Nat) : Nat → Nat → (Int32) → (Int32) → (Nat → Nat → Int32) → Int32 × (Nat → Nat → Int32)
  | 0, t8, v3, v4, Iv => (v3, Iv)
  | r8 + 1, t8, v3, v4, Iv => if (yq_bt b sz (m - 1) 0 (f_X6_moved (Iv 31 2) (z_t0 t8)) Iv).1 ≤ v4 then gx_X6_bestFirst_8 b sz m r8 (t8 + 1) v3 v4 ((yq_bt b sz (m - 1) 0 (f_X6_moved (Iv 31 2) (z_t0 t8)) Iv).2) else gx_X6_bestFirst_8 b sz m r8 (t8 + 1) (z_t0 t8) ((yq_bt b sz (m - 1) 0 (f_X6_moved (Iv 31 2) (z_t0 t8)) Iv).1) ((yq_bt b sz (m - 1) 0 (f_X6_moved (Iv 31 2) (z_t0 t8)) Iv).2)
def f_X6_bestFirst (b : Bool) (I : Nat → Nat → Int32) (sz : Nat) (m : Nat) : Int32 := (gx_X6_bestFirst_8 b sz m 3 0 2 (-1) I).1
def m_X6_bestFirst (b : Bool) (I : Nat → Nat → Int32) (sz : Nat) (m : Nat) : Nat → Nat → Int32 := (gx_X6_bestFirst_8 b sz m 3 0 2 (-1) I).2
set_option maxHeartbeats 1000000 in
set_option maxRecDepth 100000 in
theorem c_X6_bestFirst (d : Nat) (hd : 11 ≤ d) (b : Bool) (I : Nat → Nat → Int32) (L : Nat → Nat → Int64) (np : Nat) (hn10 : np ≤ 10) (sz : Nat) (hs121 : sz ≤ 121) (hT : yq_T np sz I) (m : Nat) (hm0 : 0 < m) (hm5 : m ≤ 5) : z_CT zm_X6_bestFirst d [.ref 31, .int (nI m), .ref 13] SH (I, L, z_R b) 0 0 (z_ret (some (.int (f_X6_bestFirst b I sz m))) ((m_X6_bestFirst b I sz m), L, z_R b)) := by
  refine z_enter (by decide +kernel) (Nat.le_of_ble_eq_true rfl) ?_
  have hentry : PW zm_X6_bestFirst d 0 [(0, .ref 31), (1, .int (nI m)), (2, .ref 13)] [] SH (I, L, z_R b) 0 0 (z_ret (some (.int (f_X6_bestFirst b I sz m))) ((m_X6_bestFirst b I sz m), L, z_R b)) := by
    refine p_iconst (z_dec zd_X6_bestFirst 0 rfl) (v := 2) (by decide) (n := 1) rfl ?_
    refine p_istore_n (z_dec zd_X6_bestFirst 1 rfl) rfl (lv2 := [(3, .int 2), (0, .ref 31), (1, .int (nI m)), (2, .ref 13)]) (by decide) rfl (n := 2) rfl ?_
    refine p_iconst (z_dec zd_X6_bestFirst 2 rfl) (v := (-1)) (by decide) (n := 3) rfl ?_
    refine p_istore (z_dec zd_X6_bestFirst 3 rfl) (lv2 := [(4, .int (-1)), (3, .int 2), (0, .ref 31), (1, .int (nI m)), (2, .ref 13)]) (by decide) rfl (n := 5) rfl ?_
    refine p_iconst (z_dec zd_X6_bestFirst 4 rfl) (v := 0) (by decide) (n := 6) rfl ?_
    refine p_istore (z_dec zd_X6_bestFirst 5 rfl) (lv2 := [(5, .int 0), (4, .int (-1)), (3, .int 2), (0, .ref 31), (1, .int (nI m)), (2, .ref 13)]) (by decide) rfl (n := 8) rfl ?_
    have hL8 : ∀ (r8 t8 : Nat) (v3 : Int32) (v4 : Int32) (Iv : Nat → Nat → Int32), t8 + r8 = 3 → yq_T np sz Iv → PW zm_X6_bestFirst d 8 [(5, .int (nI t8)), (4, .int v4), (3, .int v3), (0, .ref 31), (1, .int (nI m)), (2, .ref 13)] [] SH (Iv, L, z_R b) 0 0 (z_ret (some (.int (gx_X6_bestFirst_8 b sz m r8 t8 v3 v4 Iv).1)) ((gx_X6_bestFirst_8 b sz m r8 t8 v3 v4 Iv).2, L, z_R b)) := by
      intro r8
      induction r8 with
      | zero =>
        intro t8 v3 v4 Iv ht8 hlo
        refine p_iload (z_dec zd_X6_bestFirst 6 rfl) 0 rfl (n := 10) rfl ?_
        refine p_iconst (z_dec zd_X6_bestFirst 7 rfl) (v := 3) (by decide) (n := 11) rfl ?_
        refine p_icmp_ge (z_dec zd_X6_bestFirst 8 rfl) (t := 62) (by decide) (n := 14) rfl (fun h11 => ?_) (fun h11 => ?_)
        · refine p_iload_n (z_dec zd_X6_bestFirst 34 rfl) rfl 2 rfl (n := 63) rfl ?_
          exact p_iret (z_dec zd_X6_bestFirst 35 rfl) rfl ⟨rfl, rfl, (z_3 rfl rfl)⟩
        · exact absurd (z_nge (a := 3) h11) (by omega)
      | succ r8 ih8 =>
        intro t8 v3 v4 Iv ht8 hlo
        refine p_iload (z_dec zd_X6_bestFirst 6 rfl) 0 rfl (n := 10) rfl ?_
        refine p_iconst (z_dec zd_X6_bestFirst 7 rfl) (v := 3) (by decide) (n := 11) rfl ?_
        refine p_icmp_ge (z_dec zd_X6_bestFirst 8 rfl) (t := 62) (by decide) (n := 14) rfl (fun h11 => ?_) (fun h11 => ?_)
        · exact absurd (z_ge (a := 3) h11) (by omega)
        · have hx8 : t8 < 3 := by omega
          refine p_aload_n (z_dec zd_X6_bestFirst 9 rfl) rfl 3 rfl (n := 15) rfl ?_
          refine p_aload_n (z_dec zd_X6_bestFirst 10 rfl) rfl 3 rfl (n := 16) rfl ?_
          refine q_getI (z_dec zd_X6_bestFirst 11 rfl) zf_X6_22 (by decide) rfl (v := (Iv 31 2)) rfl (n := 19) rfl ?_
          refine p_gets0 (z_dec zd_X6_bestFirst 12 rfl) zg_X6_37 (n := 22) rfl ?_
          refine p_iload (z_dec zd_X6_bestFirst 13 rfl) 0 rfl (n := 24) rfl ?_
          refine q_tld0 (z_dec zd_X6_bestFirst 14 rfl) (t8) rfl (by omega) (n := 25) rfl ?_
          refine q_callS (As := [.int (Iv 31 2), .int (z_t0 t8)]) (rest := [.ref 31]) (z_dec zd_X6_bestFirst 15 rfl) zk_X6_40 zs_X6_moved (c_X6_moved (d - 1) (by omega) b Iv L (Iv 31 2) (z_t0 t8)) rfl rfl (Nat.le_of_ble_eq_true rfl) (by omega) (n := 28) rfl ?_
          show PW zm_X6_bestFirst d 28 [(5, .int (nI t8)), (4, .int v4), (3, .int v3), (0, .ref 31), (1, .int (nI m)), (2, .ref 13)] [.int (f_X6_moved (Iv 31 2) (z_t0 t8)), .ref 31] SH (Iv, L, z_R b) 0 0 _
          refine p_iload_n (z_dec zd_X6_bestFirst 16 rfl) rfl 4 rfl (n := 29) rfl ?_
          refine p_iconst (z_dec zd_X6_bestFirst 17 rfl) (v := 1) (by decide) (n := 30) rfl ?_
          refine p_isub (z_dec zd_X6_bestFirst 18 rfl) (n := 31) rfl ?_
          refine z_lv rfl (show _ = [.int (nI (m - 1)), .int (f_X6_moved (Iv 31 2) (z_t0 t8)), .ref 31] from (by rw [z_pred hm0])) rfl ?_
          refine p_iconst (z_dec zd_X6_bestFirst 19 rfl) (v := 0) (by decide) (n := 32) rfl ?_
          refine p_aload_n (z_dec zd_X6_bestFirst 20 rfl) rfl 5 rfl (n := 33) rfl ?_
          refine q_callV (As := [.int (f_X6_moved (Iv 31 2) (z_t0 t8)), .int (nI (m - 1)), .int 0, .ref 13]) (rest := []) (z_dec zd_X6_bestFirst 21 rfl) zk_X6_43 zv_X6_best (c_bt b L hn10 hs121 (m - 1) (d - 1) 0 (f_X6_moved (Iv 31 2) (z_t0 t8)) Iv (by omega) (by omega) (Or.inl rfl) hlo) rfl ⟨_, _, rfl⟩ rfl rfl (Nat.le_of_ble_eq_true rfl) (by omega) (n := 36) rfl ?_
          show PW zm_X6_bestFirst d 36 [(5, .int (nI t8)), (4, .int v4), (3, .int v3), (0, .ref 31), (1, .int (nI m)), (2, .ref 13)] [.int ((yq_bt b sz (m - 1) 0 (f_X6_moved (Iv 31 2) (z_t0 t8)) Iv).1)] SH ((yq_bt b sz (m - 1) 0 (f_X6_moved (Iv 31 2) (z_t0 t8)) Iv).2, L, z_R b) 0 0 _
          have hP36 : yq_T np sz ((yq_bt b sz (m - 1) 0 (f_X6_moved (Iv 31 2) (z_t0 t8)) Iv).2) := yq_btT _ _ _ _ hlo
          refine p_istore (z_dec zd_X6_bestFirst 22 rfl) (lv2 := [(6, .int ((yq_bt b sz (m - 1) 0 (f_X6_moved (Iv 31 2) (z_t0 t8)) Iv).1)), (5, .int (nI t8)), (4, .int v4), (3, .int v3), (0, .ref 31), (1, .int (nI m)), (2, .ref 13)]) (by decide) rfl (n := 38) rfl ?_
          refine p_iload (z_dec zd_X6_bestFirst 23 rfl) 0 rfl (n := 40) rfl ?_
          refine p_iload (z_dec zd_X6_bestFirst 24 rfl) 2 rfl (n := 42) rfl ?_
          refine p_icmp_le (z_dec zd_X6_bestFirst 25 rfl) (t := 56) (by decide) (n := 45) rfl (fun h42 => ?_) (fun h42 => ?_)
          · refine p_iinc (z_dec zd_X6_bestFirst 32 rfl) 1 rfl (v := (nI (t8 + 1))) (nI_1 _) (lv2 := [(5, .int (nI (t8 + 1))), (6, .int ((yq_bt b sz (m - 1) 0 (f_X6_moved (Iv 31 2) (z_t0 t8)) Iv).1)), (4, .int v4), (3, .int v3), (0, .ref 31), (1, .int (nI m)), (2, .ref 13)]) (by decide) rfl (n := 59) rfl ?_
            refine p_goto (z_dec zd_X6_bestFirst 33 rfl) (t := 8) (by decide) ?_
            refine z_sub (lv' := [(5, .int (nI (t8 + 1))), (4, .int v4), (3, .int v3), (0, .ref 31), (1, .int (nI m)), (2, .ref 13)]) [0, 2, 3, 4, 5, 6] rfl ?_
            rw [show gx_X6_bestFirst_8 b sz m (r8 + 1) t8 v3 v4 Iv = gx_X6_bestFirst_8 b sz m r8 (t8 + 1) v3 v4 ((yq_bt b sz (m - 1) 0 (f_X6_moved (Iv 31 2) (z_t0 t8)) Iv).2) from by (conv => lhs; unfold gx_X6_bestFirst_8); rw [if_pos h42]]
            exact ih8 (t8 + 1) v3 v4 ((yq_bt b sz (m - 1) 0 (f_X6_moved (Iv 31 2) (z_t0 t8)) Iv).2) (by omega) hP36
          · refine p_iload (z_dec zd_X6_bestFirst 26 rfl) 0 rfl (n := 47) rfl ?_
            refine p_istore (z_dec zd_X6_bestFirst 27 rfl) (lv2 := [(4, .int ((yq_bt b sz (m - 1) 0 (f_X6_moved (Iv 31 2) (z_t0 t8)) Iv).1)), (6, .int ((yq_bt b sz (m - 1) 0 (f_X6_moved (Iv 31 2) (z_t0 t8)) Iv).1)), (5, .int (nI t8)), (3, .int v3), (0, .ref 31), (1, .int (nI m)), (2, .ref 13)]) (by decide) rfl (n := 49) rfl ?_
            refine p_gets0 (z_dec zd_X6_bestFirst 28 rfl) zg_X6_37 (n := 52) rfl ?_
            refine p_iload (z_dec zd_X6_bestFirst 29 rfl) 2 rfl (n := 54) rfl ?_
            refine q_tld0 (z_dec zd_X6_bestFirst 30 rfl) (t8) rfl (by omega) (n := 55) rfl ?_
            refine p_istore_n (z_dec zd_X6_bestFirst 31 rfl) rfl (lv2 := [(3, .int (z_t0 t8)), (4, .int ((yq_bt b sz (m - 1) 0 (f_X6_moved (Iv 31 2) (z_t0 t8)) Iv).1)), (6, .int ((yq_bt b sz (m - 1) 0 (f_X6_moved (Iv 31 2) (z_t0 t8)) Iv).1)), (5, .int (nI t8)), (0, .ref 31), (1, .int (nI m)), (2, .ref 13)]) (by decide) rfl (n := 56) rfl ?_
            refine p_iinc (z_dec zd_X6_bestFirst 32 rfl) 3 rfl (v := (nI (t8 + 1))) (nI_1 _) (lv2 := [(5, .int (nI (t8 + 1))), (3, .int (z_t0 t8)), (4, .int ((yq_bt b sz (m - 1) 0 (f_X6_moved (Iv 31 2) (z_t0 t8)) Iv).1)), (6, .int ((yq_bt b sz (m - 1) 0 (f_X6_moved (Iv 31 2) (z_t0 t8)) Iv).1)), (0, .ref 31), (1, .int (nI m)), (2, .ref 13)]) (by decide) rfl (n := 59) rfl ?_
            refine p_goto (z_dec zd_X6_bestFirst 33 rfl) (t := 8) (by decide) ?_
            refine z_sub (lv' := [(5, .int (nI (t8 + 1))), (4, .int ((yq_bt b sz (m - 1) 0 (f_X6_moved (Iv 31 2) (z_t0 t8)) Iv).1)), (3, .int (z_t0 t8)), (0, .ref 31), (1, .int (nI m)), (2, .ref 13)]) [0, 2, 1, 4, 5, 6] rfl ?_
            rw [show gx_X6_bestFirst_8 b sz m (r8 + 1) t8 v3 v4 Iv = gx_X6_bestFirst_8 b sz m r8 (t8 + 1) (z_t0 t8) ((yq_bt b sz (m - 1) 0 (f_X6_moved (Iv 31 2) (z_t0 t8)) Iv).1) ((yq_bt b sz (m - 1) 0 (f_X6_moved (Iv 31 2) (z_t0 t8)) Iv).2) from by (conv => lhs; unfold gx_X6_bestFirst_8); rw [if_neg h42]]
            exact ih8 (t8 + 1) (z_t0 t8) ((yq_bt b sz (m - 1) 0 (f_X6_moved (Iv 31 2) (z_t0 t8)) Iv).1) ((yq_bt b sz (m - 1) 0 (f_X6_moved (Iv 31 2) (z_t0 t8)) Iv).2) (by omega) hP36
    exact (by have q := (hL8 3 0 2 (-1) I (by omega) hT); (rw [show f_X6_bestFirst b I sz m = _ from by unfold f_X6_bestFirst; rfl]); (rw [show m_X6_bestFirst b I sz m = _ from by unfold m_X6_bestFirst; rfl]); exact q)
  exact hentry
theorem yq_bgA {np : Nat} (I : (Nat → Nat → Int32)) (ab : Int32) (a j : Nat) (h : a ≠ 31) (h2 : a ≠ 32) : ∀ i, g_X6_begin_31 I np ab i a j = m_X7_copyAll_79 I np a j
  | 0 => by
    show z_up (z_up (m_X7_copyAll_79 I np) 31 1 ab) 31 2 _ a j = _
    rw [z_up_k _ _ h, z_up_k _ _ h]
  | i + 1 => by
    show gb_X6_begin_31 I np ab i (g_X6_begin_31 I np ab i) a j = _
    unfold gb_X6_begin_31
    rw [z_up_k _ _ h2]
    exact yq_bgA (np := np) I ab a j h h2 i
theorem yq_Tbg {np sz : Nat} {I : (Nat → Nat → Int32)} (h : yq_A np sz I) (ab : Int32) : yq_T np sz (m_X6_begin I np ab) := ⟨(yq_bgA (np := np) I ab 79 0 (by decide) (by decide) 100).trans (z_cp79 I np), (yq_bgA (np := np) I ab 13 4 (by decide) (by decide) 100).trans ((z_cpF79 I np 13 4 (by omega)).trans h.2)⟩
def f_X8_byTurns (b : Bool) (I : Nat → Nat → Int32) (np : Nat) (sz : Nat) (abu : Int32) (n : Int32) (what : Int32) : Int32 := if (f_X8_isThree I abu) = 0 then (-1) else if n < 1 then (-1) else if 5 < n then (-1) else if what = 0 then (f_X6_bestOdds b (m_X6_begin I np abu) sz n.toNatClampNeg) else if what = 1 then (f_X6_bestFirst b (m_X6_begin I np abu) sz n.toNatClampNeg) else (-1)
def m_X8_byTurns (b : Bool) (I : Nat → Nat → Int32) (np : Nat) (sz : Nat) (abu : Int32) (n : Int32) (what : Int32) : Nat → Nat → Int32 := if (f_X8_isThree I abu) = 0 then I else if n < 1 then I else if 5 < n then I else if what = 0 then (m_X6_bestOdds b (m_X6_begin I np abu) sz n.toNatClampNeg) else if what = 1 then (m_X6_bestFirst b (m_X6_begin I np abu) sz n.toNatClampNeg) else I
set_option maxHeartbeats 1000000 in
set_option maxRecDepth 100000 in
theorem c_X8_byTurns (d : Nat) (hd : 12 ≤ d) (b : Bool) (I : Nat → Nat → Int32) (L : Nat → Nat → Int64) (np : Nat) (hnp : I 1 0 = nI np) (hn10 : np ≤ 10) (sz : Nat) (hsz : I 13 4 = nI sz) (hs121 : sz ≤ 121) (abu : Int32) (n : Int32) (what : Int32) : z_CT zm_X8_byTurns d [.ref 0, .int abu, .int n, .int what] SH (I, L, z_R b) 0 0 (z_ret (some (.int (f_X8_byTurns b I np sz abu n what))) ((m_X8_byTurns b I np sz abu n what), L, z_R b)) := by
  refine z_enter (by decide +kernel) (Nat.le_of_ble_eq_true rfl) ?_
  have hentry : PW zm_X8_byTurns d 0 [(0, .ref 0), (1, .int abu), (2, .int n), (3, .int what)] [] SH (I, L, z_R b) 0 0 (z_ret (some (.int (f_X8_byTurns b I np sz abu n what))) ((m_X8_byTurns b I np sz abu n what), L, z_R b)) := by
    refine p_aload_n (z_dec zd_X8_byTurns 0 rfl) rfl 0 rfl (n := 1) rfl ?_
    refine p_iload_n (z_dec zd_X8_byTurns 1 rfl) rfl 1 rfl (n := 2) rfl ?_
    refine q_callV (As := [.int abu]) (rest := []) (z_dec zd_X8_byTurns 2 rfl) zk_X8_123 zv_X8_isThree (c_X8_isThree (d - 1) (by omega) b I L abu) rfl ⟨_, _, rfl⟩ rfl rfl (Nat.le_of_ble_eq_true rfl) (by omega) (n := 5) rfl ?_
    show PW zm_X8_byTurns d 5 [(0, .ref 0), (1, .int abu), (2, .int n), (3, .int what)] [.int (f_X8_isThree I abu)] SH (I, L, z_R b) 0 0 _
    refine p_if_eq (z_dec zd_X8_byTurns 3 rfl) (t := 27) (by decide) (n := 8) rfl (fun h5 => ?_) (fun h5 => ?_)
    · refine p_iconst (z_dec zd_X8_byTurns 15 rfl) (v := (-1)) (by decide) (n := 28) rfl ?_
      exact p_iret (z_dec zd_X8_byTurns 16 rfl) rfl ⟨(by unfold f_X8_byTurns; rw [if_pos h5]), rfl, (z_3 (by unfold m_X8_byTurns; rw [if_pos h5]) rfl)⟩
    · refine p_iload_n (z_dec zd_X8_byTurns 4 rfl) rfl 2 rfl (n := 9) rfl ?_
      refine p_iconst (z_dec zd_X8_byTurns 5 rfl) (v := 1) (by decide) (n := 10) rfl ?_
      refine p_icmp_lt (z_dec zd_X8_byTurns 6 rfl) (t := 27) (by decide) (n := 13) rfl (fun h10 => ?_) (fun h10 => ?_)
      · refine p_iconst (z_dec zd_X8_byTurns 15 rfl) (v := (-1)) (by decide) (n := 28) rfl ?_
        exact p_iret (z_dec zd_X8_byTurns 16 rfl) rfl ⟨(by unfold f_X8_byTurns; rw [if_neg h5, if_pos h10]), rfl, (z_3 (by unfold m_X8_byTurns; rw [if_neg h5, if_pos h10]) rfl)⟩
      · refine p_iload_n (z_dec zd_X8_byTurns 7 rfl) rfl 2 rfl (n := 14) rfl ?_
        refine p_iconst (z_dec zd_X8_byTurns 8 rfl) (v := 5) (by decide) (n := 15) rfl ?_
        refine p_icmp_gt (z_dec zd_X8_byTurns 9 rfl) (t := 27) (by decide) (n := 18) rfl (fun h15 => ?_) (fun h15 => ?_)
        · refine p_iconst (z_dec zd_X8_byTurns 15 rfl) (v := (-1)) (by decide) (n := 28) rfl ?_
          exact p_iret (z_dec zd_X8_byTurns 16 rfl) rfl ⟨(by unfold f_X8_byTurns; rw [if_neg h5, if_neg h10, if_pos h15]), rfl, (z_3 (by unfold m_X8_byTurns; rw [if_neg h5, if_neg h10, if_pos h15]) rfl)⟩
        · have hn := yq_in1 (N := 5) h10 h15 (by omega)
          refine p_iload_n (z_dec zd_X8_byTurns 10 rfl) rfl 3 rfl (n := 19) rfl ?_
          refine p_if_eq (z_dec zd_X8_byTurns 11 rfl) (t := 29) (by decide) (n := 22) rfl (fun h19 => ?_) (fun h19 => ?_)
          · refine p_aload_n (z_dec zd_X8_byTurns 17 rfl) rfl 0 rfl (n := 30) rfl ?_
            refine q_getR (z_dec zd_X8_byTurns 18 rfl) zf_X8_47 (i := 31) rfl rfl (n := 33) rfl ?_
            refine p_iload_n (z_dec zd_X8_byTurns 19 rfl) rfl 1 rfl (n := 34) rfl ?_
            refine p_aload_n (z_dec zd_X8_byTurns 20 rfl) rfl 0 rfl (n := 35) rfl ?_
            refine q_getR (z_dec zd_X8_byTurns 21 rfl) zf_X8_10 (i := 1) rfl rfl (n := 38) rfl ?_
            refine q_callV (As := [.int abu, .ref 1]) (rest := []) (z_dec zd_X8_byTurns 22 rfl) zk_X8_216 zv_X6_begin (c_X6_begin (d - 1) (by omega) b I L np hn10 sz hs121 (yq_Ai hnp hsz) abu) rfl ⟨_, _, rfl⟩ rfl rfl (Nat.le_of_ble_eq_true rfl) (by omega) (n := 41) rfl ?_
            show PW zm_X8_byTurns d 41 [(0, .ref 0), (1, .int abu), (2, .int n), (3, .int what)] [] SH ((m_X6_begin I np abu), L, z_R b) 0 0 _
            have hP41 : yq_T np sz ((m_X6_begin I np abu)) := yq_Tbg (yq_Ai hnp hsz) _
            refine p_iload_n (z_dec zd_X8_byTurns 23 rfl) rfl 3 rfl (n := 42) rfl ?_
            refine p_if_ne (z_dec zd_X8_byTurns 24 rfl) (t := 60) (by decide) (n := 45) rfl (fun h42 => ?_) (fun h42 => ?_)
            · exact absurd h19 h42
            · refine p_aload_n (z_dec zd_X8_byTurns 25 rfl) rfl 0 rfl (n := 46) rfl ?_
              refine q_getR (z_dec zd_X8_byTurns 26 rfl) zf_X8_47 (i := 31) rfl rfl (n := 49) rfl ?_
              refine p_iload_n (z_dec zd_X8_byTurns 27 rfl) rfl 2 rfl (n := 50) rfl ?_
              refine p_aload_n (z_dec zd_X8_byTurns 28 rfl) rfl 0 rfl (n := 51) rfl ?_
              refine q_getR (z_dec zd_X8_byTurns 29 rfl) zf_X8_26 (i := 13) rfl rfl (n := 54) rfl ?_
              refine q_callV (As := [.int (nI n.toNatClampNeg), .ref 13]) (rest := []) (z_dec zd_X8_byTurns 30 rfl) zk_X8_219 zv_X6_bestOdds (c_X6_bestOdds (d - 1) (by omega) b (m_X6_begin I np abu) L np hn10 sz hs121 hP41 n.toNatClampNeg hn.2.1 hn.2.2) rfl ⟨_, _, rfl⟩ (by rw [← hn.1]; rfl) rfl (Nat.le_of_ble_eq_true rfl) (by omega) (n := 57) rfl ?_
              show PW zm_X8_byTurns d 57 [(0, .ref 0), (1, .int abu), (2, .int n), (3, .int what)] [.int (f_X6_bestOdds b (m_X6_begin I np abu) sz n.toNatClampNeg)] SH ((m_X6_bestOdds b (m_X6_begin I np abu) sz n.toNatClampNeg), L, z_R b) 0 0 _
              refine p_goto (z_dec zd_X8_byTurns 31 rfl) (t := 72) (by decide) ?_
              exact p_iret (z_dec zd_X8_byTurns 38 rfl) rfl ⟨(by unfold f_X8_byTurns; rw [if_neg h5, if_neg h10, if_neg h15, if_pos h19]), rfl, (z_3 (by unfold m_X8_byTurns; rw [if_neg h5, if_neg h10, if_neg h15, if_pos h19]) rfl)⟩
          · refine p_iload_n (z_dec zd_X8_byTurns 12 rfl) rfl 3 rfl (n := 23) rfl ?_
            refine p_iconst (z_dec zd_X8_byTurns 13 rfl) (v := 1) (by decide) (n := 24) rfl ?_
            refine p_icmp_eq (z_dec zd_X8_byTurns 14 rfl) (t := 29) (by decide) (n := 27) rfl (fun h24 => ?_) (fun h24 => ?_)
            · refine p_aload_n (z_dec zd_X8_byTurns 17 rfl) rfl 0 rfl (n := 30) rfl ?_
              refine q_getR (z_dec zd_X8_byTurns 18 rfl) zf_X8_47 (i := 31) rfl rfl (n := 33) rfl ?_
              refine p_iload_n (z_dec zd_X8_byTurns 19 rfl) rfl 1 rfl (n := 34) rfl ?_
              refine p_aload_n (z_dec zd_X8_byTurns 20 rfl) rfl 0 rfl (n := 35) rfl ?_
              refine q_getR (z_dec zd_X8_byTurns 21 rfl) zf_X8_10 (i := 1) rfl rfl (n := 38) rfl ?_
              refine q_callV (As := [.int abu, .ref 1]) (rest := []) (z_dec zd_X8_byTurns 22 rfl) zk_X8_216 zv_X6_begin (c_X6_begin (d - 1) (by omega) b I L np hn10 sz hs121 (yq_Ai hnp hsz) abu) rfl ⟨_, _, rfl⟩ rfl rfl (Nat.le_of_ble_eq_true rfl) (by omega) (n := 41) rfl ?_
              show PW zm_X8_byTurns d 41 [(0, .ref 0), (1, .int abu), (2, .int n), (3, .int what)] [] SH ((m_X6_begin I np abu), L, z_R b) 0 0 _
              have hP41 : yq_T np sz ((m_X6_begin I np abu)) := yq_Tbg (yq_Ai hnp hsz) _
              refine p_iload_n (z_dec zd_X8_byTurns 23 rfl) rfl 3 rfl (n := 42) rfl ?_
              refine p_if_ne (z_dec zd_X8_byTurns 24 rfl) (t := 60) (by decide) (n := 45) rfl (fun h42 => ?_) (fun h42 => ?_)
              · refine p_aload_n (z_dec zd_X8_byTurns 32 rfl) rfl 0 rfl (n := 61) rfl ?_
                refine q_getR (z_dec zd_X8_byTurns 33 rfl) zf_X8_47 (i := 31) rfl rfl (n := 64) rfl ?_
                refine p_iload_n (z_dec zd_X8_byTurns 34 rfl) rfl 2 rfl (n := 65) rfl ?_
                refine p_aload_n (z_dec zd_X8_byTurns 35 rfl) rfl 0 rfl (n := 66) rfl ?_
                refine q_getR (z_dec zd_X8_byTurns 36 rfl) zf_X8_26 (i := 13) rfl rfl (n := 69) rfl ?_
                refine q_callV (As := [.int (nI n.toNatClampNeg), .ref 13]) (rest := []) (z_dec zd_X8_byTurns 37 rfl) zk_X8_223 zv_X6_bestFirst (c_X6_bestFirst (d - 1) (by omega) b (m_X6_begin I np abu) L np hn10 sz hs121 hP41 n.toNatClampNeg hn.2.1 hn.2.2) rfl ⟨_, _, rfl⟩ (by rw [← hn.1]; rfl) rfl (Nat.le_of_ble_eq_true rfl) (by omega) (n := 72) rfl ?_
                show PW zm_X8_byTurns d 72 [(0, .ref 0), (1, .int abu), (2, .int n), (3, .int what)] [.int (f_X6_bestFirst b (m_X6_begin I np abu) sz n.toNatClampNeg)] SH ((m_X6_bestFirst b (m_X6_begin I np abu) sz n.toNatClampNeg), L, z_R b) 0 0 _
                exact p_iret (z_dec zd_X8_byTurns 38 rfl) rfl ⟨(by unfold f_X8_byTurns; rw [if_neg h5, if_neg h10, if_neg h15, if_neg h19, if_pos h24]), rfl, (z_3 (by unfold m_X8_byTurns; rw [if_neg h5, if_neg h10, if_neg h15, if_neg h19, if_pos h24]) rfl)⟩
              · exact absurd (h24.symm.trans h42) (by decide)
            · refine p_iconst (z_dec zd_X8_byTurns 15 rfl) (v := (-1)) (by decide) (n := 28) rfl ?_
              exact p_iret (z_dec zd_X8_byTurns 16 rfl) rfl ⟨(by unfold f_X8_byTurns; rw [if_neg h5, if_neg h10, if_neg h15, if_neg h19, if_neg h24]), rfl, (z_3 (by unfold m_X8_byTurns; rw [if_neg h5, if_neg h10, if_neg h15, if_neg h19, if_neg h24]) rfl)⟩
  exact hentry
