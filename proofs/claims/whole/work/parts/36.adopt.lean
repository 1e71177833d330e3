theorem z_3R {I I2 : Nat → Nat → Int32} {L L2 : Nat → Nat → Int64} {R R2 : Nat → Nat → Option Nat} (h1 : I = I2) (h2 : L = L2) (h3 : R = R2) : ((I, L, R) : z_M) = (I2, L2, R2) := by subst h1; subst h2; subst h3; rfl
theorem z_P_rln {b : Bool} {I : Nat → Nat → Int32} (h : z_P I) : z_P (m_X1_readLine b I) := by
  unfold m_X1_readLine
  have h1 : z_P (z_rE b I).2 := z_P_rE h
  split
  · exact h1
  · split
    · rename_i h2
      have h3 := z_P_wr (b := b) (z_P_av h1 (z_sg (c := 63) h2 (by decide))) (-63)
      have h4 := z_P_rE (b := b) h3
      split
      · exact h4
      · exact z_P_wr h4 _
    · exact z_P_wr h1 _
theorem z_swap (b : Bool) : z_up (z_up (z_R b) 13 3 (some (z_df b))) 13 5 (some (z_cd b)) = z_R (!b) := by
  funext a j
  by_cases h : a = 13
  · subst h
    by_cases h5 : j = 5
    · subst h5; rw [z_up_s]; cases b <;> rfl
    · rw [z_up_j _ _ h5]
      by_cases h3 : j = 3
      · subst h3; rw [z_up_s]; cases b <;> rfl
      · rw [z_up_j _ _ h3]
        match j, h3, h5 with
        | 0, _, _ => exact rfl
        | 1, _, _ => exact rfl
        | 2, _, _ => exact rfl
        | 3, h, _ => exact absurd rfl h
        | 4, _, _ => exact rfl
        | 5, _, h => exact absurd rfl h
        | 6, _, _ => exact rfl
        | 7, _, _ => exact rfl
        | j + 8, _, _ => exact rfl
  · rw [z_up_k _ _ h, z_up_k _ _ h]
    unfold z_R
    split <;> first | rfl | exact absurd rfl h
theorem z_P0 {I : Nat → Nat → Int32} {ln : Nat} (hln : I 13 1 = nI ln) (hl120 : ln ≤ 120) : z_P (z_up (z_up I 13 2 0) 13 6 0) := by
  refine ⟨⟨?_, ?_⟩, ⟨rfl, Nat.zero_le _⟩, ⟨rfl, Nat.zero_le _⟩⟩
  · show I 13 1 = nI (I 13 1).toNatClampNeg
    rw [hln, nI_clamp (by omega)]
  · show (I 13 1).toNatClampNeg ≤ 120
    rw [hln, nI_clamp (by omega)]; exact hl120
def gx_X1_readLines_2 (b : Bool) : Nat → Nat → (Nat → Nat → Int32) → Int32 × (Nat → Nat → Int32)
  | 0, t2, Iv => (0, Iv)
  | r2 + 1, t2, Iv => if (f_X1_readLine b Iv) = 0 then (0, (m_X1_readLine b Iv)) else if (f_X1_next (m_X1_readLine b Iv) (((m_X1_readLine b Iv) 13 1).toNatClampNeg) (((m_X1_readLine b Iv) 13 2).toNatClampNeg)) = 59 then gx_X1_readLines_2 b r2 (t2 + 1) (z_up (m_X1_readLine b Iv) 13 2 (((m_X1_readLine b Iv) 13 2) + 1)) else if ((m_X1_readLine b Iv) 13 2) = ((m_X1_readLine b Iv) 13 1) then (1, (m_X1_readLine b Iv)) else (0, (m_X1_readLine b Iv))
def f_X1_readLines (b : Bool) (I : Nat → Nat → Int32) : Int32 := (gx_X1_readLines_2 b 120 0 I).1
def m_X1_readLines (b : Bool) (I : Nat → Nat → Int32) : Nat → Nat → Int32 := (gx_X1_readLines_2 b 120 0 I).2
set_option maxHeartbeats 4000000 in
set_option maxRecDepth 100000 in
theorem c_X1_readLines (d : Nat) (hd : 68 ≤ d) (b : Bool) (I : Nat → Nat → Int32) (L : Nat → Nat → Int64) (hP : z_P I) : z_CT zm_X1_readLines d [.ref 13] SH (I, L, z_R b) 0 0 (z_ret (some (.int (f_X1_readLines b I))) ((m_X1_readLines b I), L, z_R b)) := by
  refine z_enter (by decide +kernel) (Nat.le_of_ble_eq_true rfl) ?_
  have hentry : PW zm_X1_readLines d 0 [(0, .ref 13)] [] SH (I, L, z_R b) 0 0 (z_ret (some (.int (f_X1_readLines b I))) ((m_X1_readLines b I), L, z_R b)) := by
    refine p_iconst (z_dec zd_X1_readLines 0 rfl) (v := 0) (by decide) (n := 1) rfl ?_
    refine p_istore_n (z_dec zd_X1_readLines 1 rfl) rfl (lv2 := [(1, .int 0), (0, .ref 13)]) (by decide) rfl (n := 2) rfl ?_
    have hL2 : ∀ (r2 t2 : Nat) (Iv : Nat → Nat → Int32), t2 + r2 = 120 → z_P Iv → PW zm_X1_readLines d 2 [(1, .int (nI t2)), (0, .ref 13)] [] SH (Iv, L, z_R b) 0 0 (z_ret (some (.int (gx_X1_readLines_2 b r2 t2 Iv).1)) ((gx_X1_readLines_2 b r2 t2 Iv).2, L, z_R b)) := by
      intro r2
      induction r2 with
      | zero =>
        intro t2 Iv ht2 hlo
        refine p_iload_n (z_dec zd_X1_readLines 2 rfl) rfl 0 rfl (n := 3) rfl ?_
        refine p_bipush (z_dec zd_X1_readLines 3 rfl) (v := 120) (by decide) (n := 5) rfl ?_
        refine p_icmp_ge (z_dec zd_X1_readLines 4 rfl) (t := 59) (by decide) (n := 8) rfl (fun h5 => ?_) (fun h5 => ?_)
        · refine p_iconst (z_dec zd_X1_readLines 31 rfl) (v := 0) (by decide) (n := 60) rfl ?_
          exact p_zret (z_dec zd_X1_readLines 32 rfl) rfl (Or.inl rfl) ⟨rfl, rfl, (z_3 rfl rfl)⟩
        · exact absurd (z_nge (a := 120) h5) (by omega)
      | succ r2 ih2 =>
        intro t2 Iv ht2 hlo
        refine p_iload_n (z_dec zd_X1_readLines 2 rfl) rfl 0 rfl (n := 3) rfl ?_
        refine p_bipush (z_dec zd_X1_readLines 3 rfl) (v := 120) (by decide) (n := 5) rfl ?_
        refine p_icmp_ge (z_dec zd_X1_readLines 4 rfl) (t := 59) (by decide) (n := 8) rfl (fun h5 => ?_) (fun h5 => ?_)
        · exact absurd (z_ge (a := 120) h5) (by omega)
        · have hx2 : t2 < 120 := by omega
          refine p_aload_n (z_dec zd_X1_readLines 5 rfl) rfl 1 rfl (n := 9) rfl ?_
          refine q_callV (As := []) (rest := []) (z_dec zd_X1_readLines 6 rfl) zk_X1_44 zv_X1_readLine (c_X1_readLine (d - 1) (by omega) b Iv L hlo) rfl ⟨_, _, rfl⟩ rfl rfl (Nat.le_of_ble_eq_true rfl) (by omega) (n := 12) rfl ?_
          show PW zm_X1_readLines d 12 [(1, .int (nI t2)), (0, .ref 13)] [.int (f_X1_readLine b Iv)] SH ((m_X1_readLine b Iv), L, z_R b) 0 0 _
          have hP12 : z_P ((m_X1_readLine b Iv)) := z_P_rln hlo
          refine p_if_ne (z_dec zd_X1_readLines 7 rfl) (t := 17) (by decide) (n := 15) rfl (fun h12 => ?_) (fun h12 => ?_)
          · refine p_aload_n (z_dec zd_X1_readLines 10 rfl) rfl 1 rfl (n := 18) rfl ?_
            refine q_callV (As := []) (rest := []) (z_dec zd_X1_readLines 11 rfl) zk_X1_47 zv_X1_next (c_X1_next (d - 1) (by omega) b (m_X1_readLine b Iv) L (((m_X1_readLine b Iv) 13 1).toNatClampNeg) hP12.1.1 hP12.1.2 (((m_X1_readLine b Iv) 13 2).toNatClampNeg) hP12.2.1.1 (Nat.le_trans hP12.2.1.2 hP12.1.2)) rfl ⟨_, _, rfl⟩ rfl rfl (Nat.le_of_ble_eq_true rfl) (by omega) (n := 21) rfl ?_
            show PW zm_X1_readLines d 21 [(1, .int (nI t2)), (0, .ref 13)] [.int (f_X1_next (m_X1_readLine b Iv) (((m_X1_readLine b Iv) 13 1).toNatClampNeg) (((m_X1_readLine b Iv) 13 2).toNatClampNeg))] SH ((m_X1_readLine b Iv), L, z_R b) 0 0 _
            refine p_bipush (z_dec zd_X1_readLines 12 rfl) (v := 59) (by decide) (n := 23) rfl ?_
            refine p_icmp_eq (z_dec zd_X1_readLines 13 rfl) (t := 43) (by decide) (n := 26) rfl (fun h23 => ?_) (fun h23 => ?_)
            · refine p_aload_n (z_dec zd_X1_readLines 23 rfl) rfl 1 rfl (n := 44) rfl ?_
              refine p_dup (z_dec zd_X1_readLines 24 rfl) rfl (n := 45) rfl ?_
              refine q_getI (z_dec zd_X1_readLines 25 rfl) zf_X1_19 (by decide) rfl (v := ((m_X1_readLine b Iv) 13 2)) rfl (n := 48) rfl ?_
              refine p_iconst (z_dec zd_X1_readLines 26 rfl) (v := 1) (by decide) (n := 49) rfl ?_
              refine p_iadd (z_dec zd_X1_readLines 27 rfl) (n := 50) rfl ?_
              refine q_putI (z_dec zd_X1_readLines 28 rfl) zp_X1_19 (fun q => by cases q) rfl (n := 53) rfl ?_
              have hP53 : z_P ((z_up (m_X1_readLine b Iv) 13 2 (((m_X1_readLine b Iv) 13 2) + 1))) := z_P_av hP12 (z_sg (c := 59) h23 (by decide))
              refine p_iinc (z_dec zd_X1_readLines 29 rfl) 0 rfl (v := (nI (t2 + 1))) (nI_1 _) (lv2 := [(1, .int (nI (t2 + 1))), (0, .ref 13)]) (by decide) rfl (n := 56) rfl ?_
              refine p_goto (z_dec zd_X1_readLines 30 rfl) (t := 2) (by decide) ?_
              rw [show gx_X1_readLines_2 b (r2 + 1) t2 Iv = gx_X1_readLines_2 b r2 (t2 + 1) (z_up (m_X1_readLine b Iv) 13 2 (((m_X1_readLine b Iv) 13 2) + 1)) from by (conv => lhs; unfold gx_X1_readLines_2); rw [if_neg h12, if_pos h23]]
              exact ih2 (t2 + 1) (z_up (m_X1_readLine b Iv) 13 2 (((m_X1_readLine b Iv) 13 2) + 1)) (by omega) hP53
            · refine p_aload_n (z_dec zd_X1_readLines 14 rfl) rfl 1 rfl (n := 27) rfl ?_
              refine q_getI (z_dec zd_X1_readLines 15 rfl) zf_X1_19 (by decide) rfl (v := ((m_X1_readLine b Iv) 13 2)) rfl (n := 30) rfl ?_
              refine p_aload_n (z_dec zd_X1_readLines 16 rfl) rfl 1 rfl (n := 31) rfl ?_
              refine q_getI (z_dec zd_X1_readLines 17 rfl) zf_X1_15 (by decide) rfl (v := ((m_X1_readLine b Iv) 13 1)) rfl (n := 34) rfl ?_
              refine p_icmp_ne (z_dec zd_X1_readLines 18 rfl) (t := 41) (by decide) (n := 37) rfl (fun h34 => ?_) (fun h34 => ?_)
              · refine p_iconst (z_dec zd_X1_readLines 21 rfl) (v := 0) (by decide) (n := 42) rfl ?_
                exact p_zret (z_dec zd_X1_readLines 22 rfl) rfl (Or.inl rfl) ⟨(by (conv => rhs; unfold gx_X1_readLines_2); rw [if_neg h12, if_neg h23, if_neg h34]), rfl, (z_3 (by (conv => rhs; unfold gx_X1_readLines_2); rw [if_neg h12, if_neg h23, if_neg h34]) rfl)⟩
              · refine p_iconst (z_dec zd_X1_readLines 19 rfl) (v := 1) (by decide) (n := 38) rfl ?_
                refine p_goto (z_dec zd_X1_readLines 20 rfl) (t := 42) (by decide) ?_
                exact p_zret (z_dec zd_X1_readLines 22 rfl) rfl (Or.inr rfl) ⟨(by (conv => rhs; unfold gx_X1_readLines_2); rw [if_neg h12, if_neg h23, if_pos h34]), rfl, (z_3 (by (conv => rhs; unfold gx_X1_readLines_2); rw [if_neg h12, if_neg h23, if_pos h34]) rfl)⟩
          · refine p_iconst (z_dec zd_X1_readLines 8 rfl) (v := 0) (by decide) (n := 16) rfl ?_
            exact p_zret (z_dec zd_X1_readLines 9 rfl) rfl (Or.inl rfl) ⟨(by (conv => rhs; unfold gx_X1_readLines_2); rw [if_pos h12]), rfl, (z_3 (by (conv => rhs; unfold gx_X1_readLines_2); rw [if_pos h12]) rfl)⟩
    exact (by have q := (hL2 120 0 I (by omega) hP); (rw [show f_X1_readLines b I = _ from by unfold f_X1_readLines; rfl]); (rw [show m_X1_readLines b I = _ from by unfold m_X1_readLines; rfl]); exact q)
  exact hentry
/-- which of the two rows is the law behind adopt() -/
def z_nb (b : Bool) (I : Nat → Nat → Int32) : Bool := if f_X1_readLines b (z_up (z_up I 13 2 0) 13 6 0) = 0 then b else !b
def f_X1_adopt (b : Bool) (I : Nat → Nat → Int32) : Int32 := if (f_X1_readLines b (z_up (z_up I 13 2 0) 13 6 0)) = 0 then ((m_X1_readLines b (z_up (z_up I 13 2 0) 13 6 0)) 13 2) else (-1)
def m_X1_adopt (b : Bool) (I : Nat → Nat → Int32) : Nat → Nat → Int32 := if (f_X1_readLines b (z_up (z_up I 13 2 0) 13 6 0)) = 0 then (z_up (m_X1_readLines b (z_up (z_up I 13 2 0) 13 6 0)) 13 1 0) else (z_up (z_up (m_X1_readLines b (z_up (z_up I 13 2 0) 13 6 0)) 13 1 0) 13 4 ((m_X1_readLines b (z_up (z_up I 13 2 0) 13 6 0)) 13 6))
set_option maxHeartbeats 400000 in
set_option maxRecDepth 100000 in
theorem c_X1_adopt (d : Nat) (hd : 70 ≤ d) (b : Bool) (I : Nat → Nat → Int32) (L : Nat → Nat → Int64) (ln : Nat) (hln : I 13 1 = nI ln) (hl120 : ln ≤ 120) : z_CT zm_X1_adopt d [.ref 13] SH (I, L, z_R b) 0 0 (z_ret (some (.int (f_X1_adopt b I))) ((m_X1_adopt b I), L, (z_R (z_nb b I)))) := by
  refine z_enter (by decide +kernel) (Nat.le_of_ble_eq_true rfl) ?_
  have hentry : PW zm_X1_adopt d 0 [(0, .ref 13)] [] SH (I, L, z_R b) 0 0 (z_ret (some (.int (f_X1_adopt b I))) ((m_X1_adopt b I), L, (z_R (z_nb b I)))) := by
    refine p_aload_n (z_dec zd_X1_adopt 0 rfl) rfl 0 rfl (n := 1) rfl ?_
    refine p_iconst (z_dec zd_X1_adopt 1 rfl) (v := 0) (by decide) (n := 2) rfl ?_
    refine q_putI (z_dec zd_X1_adopt 2 rfl) zp_X1_19 (fun q => by cases q) rfl (n := 5) rfl ?_
    refine p_aload_n (z_dec zd_X1_adopt 3 rfl) rfl 0 rfl (n := 6) rfl ?_
    refine p_iconst (z_dec zd_X1_adopt 4 rfl) (v := 0) (by decide) (n := 7) rfl ?_
    refine q_putI (z_dec zd_X1_adopt 5 rfl) zp_X1_31 (fun q => by cases q) rfl (n := 10) rfl ?_
    have hP10 : z_P ((z_up (z_up I 13 2 0) 13 6 0)) := z_P0 hln hl120
    refine p_aload_n (z_dec zd_X1_adopt 6 rfl) rfl 0 rfl (n := 11) rfl ?_
    refine q_callV (As := []) (rest := []) (z_dec zd_X1_adopt 7 rfl) zk_X1_40 zv_X1_readLines (c_X1_readLines (d - 1) (by omega) b (z_up (z_up I 13 2 0) 13 6 0) L hP10) rfl ⟨_, _, rfl⟩ rfl rfl (Nat.le_of_ble_eq_true rfl) (by omega) (n := 14) rfl ?_
    show PW zm_X1_adopt d 14 [(0, .ref 13)] [.int (f_X1_readLines b (z_up (z_up I 13 2 0) 13 6 0))] SH ((m_X1_readLines b (z_up (z_up I 13 2 0) 13 6 0)), L, z_R b) 0 0 _
    refine p_istore_n (z_dec zd_X1_adopt 8 rfl) rfl (lv2 := [(1, .int (f_X1_readLines b (z_up (z_up I 13 2 0) 13 6 0))), (0, .ref 13)]) (by decide) rfl (n := 15) rfl ?_
    refine p_aload_n (z_dec zd_X1_adopt 9 rfl) rfl 1 rfl (n := 16) rfl ?_
    refine p_iconst (z_dec zd_X1_adopt 10 rfl) (v := 0) (by decide) (n := 17) rfl ?_
    refine q_putI (z_dec zd_X1_adopt 11 rfl) zp_X1_15 (fun q => by cases q) rfl (n := 20) rfl ?_
    refine p_iload_n (z_dec zd_X1_adopt 12 rfl) rfl 0 rfl (n := 21) rfl ?_
    refine p_if_ne (z_dec zd_X1_adopt 13 rfl) (t := 29) (by decide) (n := 24) rfl (fun h21 => ?_) (fun h21 => ?_)
    · refine p_aload_n (z_dec zd_X1_adopt 17 rfl) rfl 1 rfl (n := 30) rfl ?_
      refine q_getR (z_dec zd_X1_adopt 18 rfl) zf_X1_22 (i := (z_cd b)) rfl rfl (n := 33) rfl ?_
      refine p_astore_n (z_dec zd_X1_adopt 19 rfl) rfl (lv2 := [(2, .ref (z_cd b)), (1, .int (f_X1_readLines b (z_up (z_up I 13 2 0) 13 6 0))), (0, .ref 13)]) (by decide) rfl (n := 34) rfl ?_
      refine p_aload_n (z_dec zd_X1_adopt 20 rfl) rfl 2 rfl (n := 35) rfl ?_
      refine p_aload_n (z_dec zd_X1_adopt 21 rfl) rfl 2 rfl (n := 36) rfl ?_
      refine q_getR (z_dec zd_X1_adopt 22 rfl) zf_X1_28 (i := (z_df b)) rfl rfl (n := 39) rfl ?_
      refine q_putR (z_dec zd_X1_adopt 23 rfl) zp_X1_22 (fun q => by cases q) (fun _ => ⟨rfl, rfl⟩) rfl (n := 42) rfl ?_
      refine p_aload_n (z_dec zd_X1_adopt 24 rfl) rfl 2 rfl (n := 43) rfl ?_
      refine p_aload_n (z_dec zd_X1_adopt 25 rfl) rfl 0 rfl (n := 44) rfl ?_
      refine q_putR (z_dec zd_X1_adopt 26 rfl) zp_X1_28 (fun q => by cases q) (fun _ => ⟨rfl, rfl⟩) rfl (n := 47) rfl ?_
      refine p_aload_n (z_dec zd_X1_adopt 27 rfl) rfl 2 rfl (n := 48) rfl ?_
      refine p_aload_n (z_dec zd_X1_adopt 28 rfl) rfl 2 rfl (n := 49) rfl ?_
      refine q_getI (z_dec zd_X1_adopt 29 rfl) zf_X1_31 (by decide) rfl (v := ((m_X1_readLines b (z_up (z_up I 13 2 0) 13 6 0)) 13 6)) (z_up_j _ _ (by decide)) (n := 52) rfl ?_
      refine q_putI (z_dec zd_X1_adopt 30 rfl) zp_X1_25 (fun q => by cases q) rfl (n := 55) rfl ?_
      refine p_iconst (z_dec zd_X1_adopt 31 rfl) (v := (-1)) (by decide) (n := 56) rfl ?_
      exact p_iret (z_dec zd_X1_adopt 32 rfl) rfl ⟨(by unfold f_X1_adopt; rw [if_neg h21]), rfl, (z_3R (by unfold m_X1_adopt; rw [if_neg h21]) rfl (by unfold z_nb; rw [if_neg h21]; exact z_swap b))⟩
    · refine p_aload_n (z_dec zd_X1_adopt 14 rfl) rfl 1 rfl (n := 25) rfl ?_
      refine q_getI (z_dec zd_X1_adopt 15 rfl) zf_X1_19 (by decide) rfl (v := ((m_X1_readLines b (z_up (z_up I 13 2 0) 13 6 0)) 13 2)) (z_up_j _ _ (by decide)) (n := 28) rfl ?_
      exact p_iret (z_dec zd_X1_adopt 16 rfl) rfl ⟨(by unfold f_X1_adopt; rw [if_pos h21]), rfl, (z_3R (by unfold m_X1_adopt; rw [if_pos h21]) rfl (by unfold z_nb; rw [if_pos h21]))⟩
  exact hentry
