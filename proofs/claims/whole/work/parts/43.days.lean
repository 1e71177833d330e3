theorem z_H_gx {np sz k len : Nat} (hk : 42 ≤ k) (b : Bool) (L : Nat → Nat → Int64) (bd : Int32) : ∀ (r t : Nat) (Iv : Nat → Nat → Int32), z_H np sz k len Iv → z_H np sz k len (gx_X3_holdCard_3 b L k sz len bd r t Iv)
  | 0, t, Iv, h => h
  | r + 1, t, Iv, h => by
    unfold gx_X3_holdCard_3
    split
    · exact h
    · split
      · exact h
      · split
        · split
          · exact z_H_gx hk b L bd r (t + 1) _ (z_H_st hk (z_H_oo hk h b _ _ _ _ _) _ _ _)
          · exact z_H_gx hk b L bd r (t + 1) _ (z_H_st hk (z_H_oo hk h b _ _ _ _ _) _ _ _)
        · split
          · exact z_H_gx hk b L bd r (t + 1) _ (z_H_st hk (z_H_dr hk (z_H_oo hk h b _ _ _ _ _)) _ _ _)
          · exact z_H_gx hk b L bd r (t + 1) _ (z_H_st hk (z_H_dr hk (z_H_oo hk h b _ _ _ _ _)) _ _ _)
theorem z_H_hc {np sz k len : Nat} (hk : 42 ≤ k) (b : Bool) (L : Nat → Nat → Int64) (bd : Int32) {I : Nat → Nat → Int32} (h : z_H np sz k len I) : z_H np sz k len (m_X3_holdCard b I L k sz len bd) := z_H_gx hk b L bd 8 0 I h
theorem z_edG (I : Nat → Nat → Int32) (k a j : Nat) (h2 : a ≠ k + 2) (h3 : a ≠ k + 3) (h4 : a ≠ k + 4) : ∀ i, g_X7_endDay_2 I k i a j = I a j
  | 0 => rfl
  | i + 1 => by
    have ih := z_edG I k a j h2 h3 h4 i
    show gb_X7_endDay_2 I k i (g_X7_endDay_2 I k i) a j = _
    unfold gb_X7_endDay_2
    split
    · rw [z_up_k _ _ h4, z_up_k _ _ h2, z_up_k _ _ h3]; exact ih
    · rw [z_up_k _ _ h4, z_up_k _ _ h2, z_up_k _ _ h3]; exact ih
theorem z_edF (I : Nat → Nat → Int32) (k np a j : Nat) (h1 : a ≠ k) (h2 : a ≠ k + 2) (h3 : a ≠ k + 3) (h4 : a ≠ k + 4) : m_X7_endDay I k np a j = I a j := by
  unfold m_X7_endDay
  rw [z_up_k _ _ h1]
  exact z_edG I k a j h2 h3 h4 np
theorem z_H_ed {np sz k len : Nat} (hk : 42 ≤ k) {I : Nat → Nat → Int32} (h : z_H np sz k len I) : z_H np sz k len (m_X7_endDay I 19 np) := ⟨(z_edO I 19 np).trans h.1, (z_edF I 19 np 13 4 (by decide) (by decide) (by decide) (by decide)).trans h.2.1, (z_edF I 19 np k 2 (by omega) (by omega) (by omega) (by omega)).trans h.2.2⟩
def gx_X3_goThrough_3 (b : Bool) (L : Nat → Nat → Int64) (k : Nat) (np : Nat) (sz : Nat) (len : Nat) (bd : Int32) : Nat → Nat → (Nat → Nat → Int32) → (Nat → Nat → Int32)
  | 0, t3, Iv => Iv
  | r3 + 1, t3, Iv => gx_X3_goThrough_3 b L k np sz len bd r3 (t3 + 1) (m_X7_endDay (m_X3_holdCard b Iv L k sz len bd) 19 np)
def m_X3_goThrough (b : Bool) (I : Nat → Nat → Int32) (L : Nat → Nat → Int64) (k : Nat) (np : Nat) (sz : Nat) (len : Nat) (days : Nat) (bd : Int32) : Nat → Nat → Int32 := (gx_X3_goThrough_3 b L k np sz len bd days 0 I)
set_option maxHeartbeats 2000000 in
set_option maxRecDepth 100000 in
theorem c_X3_goThrough (d : Nat) (hd : 5 ≤ d) (b : Bool) (I : Nat → Nat → Int32) (L : Nat → Nat → Int64) (k : Nat) (hs : z_Sf b k) (hk42 : 42 ≤ k) (np : Nat) (hn10 : np ≤ 10) (sz : Nat) (hs121 : sz ≤ 121) (len : Nat) (hl60 : len ≤ 60) (hH : z_H np sz k len I) (days : Nat) (hdays : days < 21) (bd : Int32) : z_CT zm_X3_goThrough d [.ref 18, .int (nI days), .ref k, .ref 13, .int bd] SH (I, L, z_R b) 0 0 (z_ret (none) ((m_X3_goThrough b I L k np sz len days bd), L, z_R b)) := by
  refine z_enter (by decide +kernel) (Nat.le_of_ble_eq_true rfl) ?_
  have hentry : PW zm_X3_goThrough d 0 [(0, .ref 18), (1, .int (nI days)), (2, .ref k), (3, .ref 13), (4, .int bd)] [] SH (I, L, z_R b) 0 0 (z_ret (none) ((m_X3_goThrough b I L k np sz len days bd), L, z_R b)) := by
    refine p_iconst (z_dec zd_X3_goThrough 0 rfl) (v := 0) (by decide) (n := 1) rfl ?_
    refine p_istore (z_dec zd_X3_goThrough 1 rfl) (lv2 := [(5, .int 0), (0, .ref 18), (1, .int (nI days)), (2, .ref k), (3, .ref 13), (4, .int bd)]) (by decide) rfl (n := 3) rfl ?_
    have hL3 : ∀ (r3 t3 : Nat) (Iv : Nat → Nat → Int32), t3 + r3 = days → z_H np sz k len Iv → PW zm_X3_goThrough d 3 [(5, .int (nI t3)), (0, .ref 18), (1, .int (nI days)), (2, .ref k), (3, .ref 13), (4, .int bd)] [] SH (Iv, L, z_R b) 0 0 (z_ret (none) ((gx_X3_goThrough_3 b L k np sz len bd r3 t3 Iv), L, z_R b)) := by
      intro r3
      induction r3 with
      | zero =>
        intro t3 Iv ht3 hlo
        refine p_iload (z_dec zd_X3_goThrough 2 rfl) 0 rfl (n := 5) rfl ?_
        refine p_iload_n (z_dec zd_X3_goThrough 3 rfl) rfl 2 rfl (n := 6) rfl ?_
        refine p_icmp_ge (z_dec zd_X3_goThrough 4 rfl) (t := 30) (by decide) (n := 9) rfl (fun h6 => ?_) (fun h6 => ?_)
        · exact p_vret (z_dec zd_X3_goThrough 15 rfl) rfl ⟨rfl, rfl, (z_3 rfl rfl)⟩
        · exact absurd (z_nge (a := days) h6) (by omega)
      | succ r3 ih3 =>
        intro t3 Iv ht3 hlo
        refine p_iload (z_dec zd_X3_goThrough 2 rfl) 0 rfl (n := 5) rfl ?_
        refine p_iload_n (z_dec zd_X3_goThrough 3 rfl) rfl 2 rfl (n := 6) rfl ?_
        refine p_icmp_ge (z_dec zd_X3_goThrough 4 rfl) (t := 30) (by decide) (n := 9) rfl (fun h6 => ?_) (fun h6 => ?_)
        · exact absurd (z_ge (a := days) h6) (by omega)
        · have hx3 : t3 < days := by omega
          refine p_aload_n (z_dec zd_X3_goThrough 5 rfl) rfl 1 rfl (n := 10) rfl ?_
          refine p_aload_n (z_dec zd_X3_goThrough 6 rfl) rfl 3 rfl (n := 11) rfl ?_
          refine p_aload_n (z_dec zd_X3_goThrough 7 rfl) rfl 4 rfl (n := 12) rfl ?_
          refine p_iload (z_dec zd_X3_goThrough 8 rfl) 5 rfl (n := 14) rfl ?_
          refine q_callV (As := [.ref k, .ref 13, .int bd]) (rest := []) (z_dec zd_X3_goThrough 9 rfl) zk_X3_36 zv_X3_holdCard (c_X3_holdCard (d - 1) (by omega) b Iv L k hs hk42 np hn10 sz hs121 len hl60 hlo bd) rfl ⟨_, _, rfl⟩ rfl rfl (Nat.le_of_ble_eq_true rfl) (by omega) (n := 17) rfl ?_
          show PW zm_X3_goThrough d 17 [(5, .int (nI t3)), (0, .ref 18), (1, .int (nI days)), (2, .ref k), (3, .ref 13), (4, .int bd)] [] SH ((m_X3_holdCard b Iv L k sz len bd), L, z_R b) 0 0 _
          have hP17 : z_H np sz k len ((m_X3_holdCard b Iv L k sz len bd)) := z_H_hc hk42 b L bd hlo
          refine p_aload_n (z_dec zd_X3_goThrough 10 rfl) rfl 1 rfl (n := 18) rfl ?_
          refine q_getR (z_dec zd_X3_goThrough 11 rfl) zf_X3_12 (i := 19) rfl rfl (n := 21) rfl ?_
          refine q_callV (As := []) (rest := []) (z_dec zd_X3_goThrough 12 rfl) zk_X3_40 zv_X7_endDay (c_X7_endDay (d - 1) (by omega) b (m_X3_holdCard b Iv L k sz len bd) L 19 (z_Yd19 b) np hP17.1 hn10) rfl ⟨_, _, rfl⟩ rfl rfl (Nat.le_of_ble_eq_true rfl) (by omega) (n := 24) rfl ?_
          show PW zm_X3_goThrough d 24 [(5, .int (nI t3)), (0, .ref 18), (1, .int (nI days)), (2, .ref k), (3, .ref 13), (4, .int bd)] [] SH ((m_X7_endDay (m_X3_holdCard b Iv L k sz len bd) 19 np), L, z_R b) 0 0 _
          have hP24 : z_H np sz k len ((m_X7_endDay (m_X3_holdCard b Iv L k sz len bd) 19 np)) := z_H_ed hk42 hP17
          refine p_iinc (z_dec zd_X3_goThrough 13 rfl) 0 rfl (v := (nI (t3 + 1))) (nI_1 _) (lv2 := [(5, .int (nI (t3 + 1))), (0, .ref 18), (1, .int (nI days)), (2, .ref k), (3, .ref 13), (4, .int bd)]) (by decide) rfl (n := 27) rfl ?_
          refine p_goto (z_dec zd_X3_goThrough 14 rfl) (t := 3) (by decide) ?_
          rw [show gx_X3_goThrough_3 b L k np sz len bd (r3 + 1) t3 Iv = gx_X3_goThrough_3 b L k np sz len bd r3 (t3 + 1) (m_X7_endDay (m_X3_holdCard b Iv L k sz len bd) 19 np) from by rfl]
          exact ih3 (t3 + 1) (m_X7_endDay (m_X3_holdCard b Iv L k sz len bd) 19 np) (by omega) hP24
    exact (by have q := (hL3 days 0 I (by omega) hH); (rw [show m_X3_goThrough b I L k np sz len days bd = _ from by unfold m_X3_goThrough; rfl]); exact q)
  exact hentry
