/-- the tape, the place and the draft stand within their rows -/
def z_P (I : Nat → Nat → Int32) : Prop := (I 13 1 = nI (I 13 1).toNatClampNeg ∧ (I 13 1).toNatClampNeg ≤ 120) ∧ (I 13 2 = nI (I 13 2).toNatClampNeg ∧ (I 13 2).toNatClampNeg ≤ (I 13 1).toNatClampNeg) ∧ (I 13 6 = nI (I 13 6).toNatClampNeg ∧ (I 13 6).toNatClampNeg ≤ 121)
/-- the byte at the place, or -1 -/
def z_nx (I : Nat → Nat → Int32) : Int32 := f_X1_next I (I 13 1).toNatClampNeg (I 13 2).toNatClampNeg
def z_wr (b : Bool) (I : Nat → Nat → Int32) (entry : Int32) : Nat → Nat → Int32 := m_X1_write b I (I 13 6).toNatClampNeg entry
def z_av (I : Nat → Nat → Int32) : Nat → Nat → Int32 := z_up I 13 2 (I 13 2 + 1)
theorem z_P_av {I : Nat → Nat → Int32} (h : z_P I) (hn : ¬ z_nx I = -1) : z_P (z_av I) := by
  obtain ⟨⟨a1, a2⟩, ⟨b1, b2⟩, ⟨c1, c2⟩⟩ := h
  have hlt : (I 13 2).toNatClampNeg < (I 13 1).toNatClampNeg := by
    rcases Nat.lt_or_ge (I 13 2).toNatClampNeg (I 13 1).toNatClampNeg with q | q
    · exact q
    · exfalso
      apply hn
      unfold z_nx f_X1_next
      rw [if_pos (nI_le q (by omega))]
  have e1 : z_av I 13 1 = I 13 1 := rfl
  have e2 : z_av I 13 2 = nI ((I 13 2).toNatClampNeg + 1) := by
    show I 13 2 + 1 = _
    rw [b1, nI_1, nI_clamp (by omega)]
  have e6 : z_av I 13 6 = I 13 6 := rfl
  unfold z_P
  rw [e1, e2, e6, nI_clamp (by omega)]
  exact ⟨⟨a1, a2⟩, ⟨rfl, by omega⟩, ⟨c1, c2⟩⟩
theorem z_df13 (b : Bool) : (13 : Nat) ≠ z_df b := by cases b <;> decide
theorem z_P_wr {b : Bool} {I : Nat → Nat → Int32} (h : z_P I) (entry : Int32) : z_P (z_wr b I entry) := by
  obtain ⟨⟨a1, a2⟩, ⟨b1, b2⟩, ⟨c1, c2⟩⟩ := h
  unfold z_wr m_X1_write
  by_cases q : (121 : Int32) ≤ nI (I 13 6).toNatClampNeg
  · rw [if_pos q]; exact ⟨⟨a1, a2⟩, ⟨b1, b2⟩, ⟨c1, c2⟩⟩
  · rw [if_neg q]
    have hl : (I 13 6).toNatClampNeg < 121 := z_nge (a := 121) q
    have k := z_df13 b
    unfold z_P
    have e1 : z_up (z_up I 13 6 (nI (I 13 6).toNatClampNeg + 1)) (z_df b) (I 13 6).toNatClampNeg entry 13 1 = I 13 1 := by rw [z_up_k _ _ k]; rfl
    have e2 : z_up (z_up I 13 6 (nI (I 13 6).toNatClampNeg + 1)) (z_df b) (I 13 6).toNatClampNeg entry 13 2 = I 13 2 := by rw [z_up_k _ _ k]; rfl
    have e6 : z_up (z_up I 13 6 (nI (I 13 6).toNatClampNeg + 1)) (z_df b) (I 13 6).toNatClampNeg entry 13 6 = nI ((I 13 6).toNatClampNeg + 1) := by rw [z_up_k _ _ k]; exact nI_1 _
    rw [e1, e2, e6, nI_clamp (by omega)]
    exact ⟨⟨a1, a2⟩, ⟨b1, b2⟩, ⟨rfl, by omega⟩⟩
theorem z_dig {x : Int32} (h : ¬ f_X1_isDigit x = 0) : ¬ x = -1 := fun q => h (by rw [q]; decide)
theorem z_nam {x : Int32} (h : ¬ f_X1_isName x = 0) : ¬ x = -1 := fun q => h (by rw [q]; decide)
def gx_X1_readNumber_4 (b : Bool) : Nat → Nat → (Int32) → (Nat → Nat → Int32) → (Nat → Nat → Int32)
  | 0, t4, v1, Iv => (m_X1_write b Iv ((Iv 13 6).toNatClampNeg) v1)
  | r4 + 1, t4, v1, Iv => if (f_X1_isDigit (f_X1_next Iv ((Iv 13 1).toNatClampNeg) ((Iv 13 2).toNatClampNeg))) = 0 then (m_X1_write b Iv ((Iv 13 6).toNatClampNeg) v1) else gx_X1_readNumber_4 b r4 (t4 + 1) (((10 * v1) + (f_X1_next Iv ((Iv 13 1).toNatClampNeg) ((Iv 13 2).toNatClampNeg))) - 48) (z_up Iv 13 2 ((Iv 13 2) + 1))
def m_X1_readNumber (b : Bool) (I : Nat → Nat → Int32) : Nat → Nat → Int32 := (gx_X1_readNumber_4 b 4 0 0 I)
set_option maxHeartbeats 4000000 in
set_option maxRecDepth 100000 in
theorem c_X1_readNumber (d : Nat) (hd : 1 ≤ d) (b : Bool) (I : Nat → Nat → Int32) (L : Nat → Nat → Int64) (hP : z_P I) : z_CT zm_X1_readNumber d [.ref 13] SH (I, L, z_R b) 0 0 (z_ret (none) ((m_X1_readNumber b I), L, z_R b)) := by
  refine z_enter (by decide +kernel) (Nat.le_of_ble_eq_true rfl) ?_
  have hentry : PW zm_X1_readNumber d 0 [(0, .ref 13)] [] SH (I, L, z_R b) 0 0 (z_ret (none) ((m_X1_readNumber b I), L, z_R b)) := by
    refine p_iconst (z_dec zd_X1_readNumber 0 rfl) (v := 0) (by decide) (n := 1) rfl ?_
    refine p_istore_n (z_dec zd_X1_readNumber 1 rfl) rfl (lv2 := [(1, .int 0), (0, .ref 13)]) (by decide) rfl (n := 2) rfl ?_
    refine p_iconst (z_dec zd_X1_readNumber 2 rfl) (v := 0) (by decide) (n := 3) rfl ?_
    refine p_istore_n (z_dec zd_X1_readNumber 3 rfl) rfl (lv2 := [(2, .int 0), (1, .int 0), (0, .ref 13)]) (by decide) rfl (n := 4) rfl ?_
    have hL4 : ∀ (r4 t4 : Nat) (v1 : Int32) (Iv : Nat → Nat → Int32), t4 + r4 = 4 → z_P Iv → PW zm_X1_readNumber d 4 [(2, .int (nI t4)), (1, .int v1), (0, .ref 13)] [] SH (Iv, L, z_R b) 0 0 (z_ret (none) ((gx_X1_readNumber_4 b r4 t4 v1 Iv), L, z_R b)) := by
      intro r4
      induction r4 with
      | zero =>
        intro t4 v1 Iv ht4 hlo
        refine p_iload_n (z_dec zd_X1_readNumber 4 rfl) rfl 0 rfl (n := 5) rfl ?_
        refine p_iconst (z_dec zd_X1_readNumber 5 rfl) (v := 4) (by decide) (n := 6) rfl ?_
        refine p_icmp_ge (z_dec zd_X1_readNumber 6 rfl) (t := 48) (by decide) (n := 9) rfl (fun h6 => ?_) (fun h6 => ?_)
        · refine p_aload_n (z_dec zd_X1_readNumber 28 rfl) rfl 2 rfl (n := 49) rfl ?_
          refine p_iload_n (z_dec zd_X1_readNumber 29 rfl) rfl 1 rfl (n := 50) rfl ?_
          refine q_callV (As := [.int v1]) (rest := []) (z_dec zd_X1_readNumber 30 rfl) zk_X1_55 zv_X1_write (c_X1_write (d - 1) (by omega) b Iv L ((Iv 13 6).toNatClampNeg) hlo.2.2.1 hlo.2.2.2 v1) rfl ⟨_, _, rfl⟩ rfl rfl (Nat.le_of_ble_eq_true rfl) (by omega) (n := 53) rfl ?_
          show PW zm_X1_readNumber d 53 [(2, .int (nI t4)), (1, .int v1), (0, .ref 13)] [] SH ((m_X1_write b Iv ((Iv 13 6).toNatClampNeg) v1), L, z_R b) 0 0 _
          exact p_vret (z_dec zd_X1_readNumber 31 rfl) rfl ⟨rfl, rfl, (z_3 rfl rfl)⟩
        · exact absurd (z_nge (a := 4) h6) (by omega)
      | succ r4 ih4 =>
        intro t4 v1 Iv ht4 hlo
        refine p_iload_n (z_dec zd_X1_readNumber 4 rfl) rfl 0 rfl (n := 5) rfl ?_
        refine p_iconst (z_dec zd_X1_readNumber 5 rfl) (v := 4) (by decide) (n := 6) rfl ?_
        refine p_icmp_ge (z_dec zd_X1_readNumber 6 rfl) (t := 48) (by decide) (n := 9) rfl (fun h6 => ?_) (fun h6 => ?_)
        · exact absurd (z_ge (a := 4) h6) (by omega)
        · have hx4 : t4 < 4 := by omega
          refine p_aload_n (z_dec zd_X1_readNumber 7 rfl) rfl 2 rfl (n := 10) rfl ?_
          refine q_callV (As := []) (rest := []) (z_dec zd_X1_readNumber 8 rfl) zk_X1_47 zv_X1_next (c_X1_next (d - 1) (by omega) b Iv L ((Iv 13 1).toNatClampNeg) hlo.1.1 hlo.1.2 ((Iv 13 2).toNatClampNeg) hlo.2.1.1 (Nat.le_trans hlo.2.1.2 hlo.1.2)) rfl ⟨_, _, rfl⟩ rfl rfl (Nat.le_of_ble_eq_true rfl) (by omega) (n := 13) rfl ?_
          show PW zm_X1_readNumber d 13 [(2, .int (nI t4)), (1, .int v1), (0, .ref 13)] [.int (f_X1_next Iv ((Iv 13 1).toNatClampNeg) ((Iv 13 2).toNatClampNeg))] SH (Iv, L, z_R b) 0 0 _
          refine q_callS (As := [.int (f_X1_next Iv ((Iv 13 1).toNatClampNeg) ((Iv 13 2).toNatClampNeg))]) (rest := []) (z_dec zd_X1_readNumber 9 rfl) zk_X1_67 zs_X1_isDigit (c_X1_isDigit (d - 1) (by omega) b Iv L (f_X1_next Iv ((Iv 13 1).toNatClampNeg) ((Iv 13 2).toNatClampNeg))) rfl rfl (Nat.le_of_ble_eq_true rfl) (by omega) (n := 16) rfl ?_
          show PW zm_X1_readNumber d 16 [(2, .int (nI t4)), (1, .int v1), (0, .ref 13)] [.int (f_X1_isDigit (f_X1_next Iv ((Iv 13 1).toNatClampNeg) ((Iv 13 2).toNatClampNeg)))] SH (Iv, L, z_R b) 0 0 _
          refine p_if_eq (z_dec zd_X1_readNumber 10 rfl) (t := 48) (by decide) (n := 19) rfl (fun h16 => ?_) (fun h16 => ?_)
          · refine p_aload_n (z_dec zd_X1_readNumber 28 rfl) rfl 2 rfl (n := 49) rfl ?_
            refine p_iload_n (z_dec zd_X1_readNumber 29 rfl) rfl 1 rfl (n := 50) rfl ?_
            refine q_callV (As := [.int v1]) (rest := []) (z_dec zd_X1_readNumber 30 rfl) zk_X1_55 zv_X1_write (c_X1_write (d - 1) (by omega) b Iv L ((Iv 13 6).toNatClampNeg) hlo.2.2.1 hlo.2.2.2 v1) rfl ⟨_, _, rfl⟩ rfl rfl (Nat.le_of_ble_eq_true rfl) (by omega) (n := 53) rfl ?_
            show PW zm_X1_readNumber d 53 [(2, .int (nI t4)), (1, .int v1), (0, .ref 13)] [] SH ((m_X1_write b Iv ((Iv 13 6).toNatClampNeg) v1), L, z_R b) 0 0 _
            exact p_vret (z_dec zd_X1_readNumber 31 rfl) rfl ⟨rfl, rfl, (z_3 (by (conv => rhs; unfold gx_X1_readNumber_4); rw [if_pos h16]) rfl)⟩
          · refine p_bipush (z_dec zd_X1_readNumber 11 rfl) (v := 10) (by decide) (n := 21) rfl ?_
            refine p_iload_n (z_dec zd_X1_readNumber 12 rfl) rfl 1 rfl (n := 22) rfl ?_
            refine p_imul (z_dec zd_X1_readNumber 13 rfl) (n := 23) rfl ?_
            refine p_aload_n (z_dec zd_X1_readNumber 14 rfl) rfl 2 rfl (n := 24) rfl ?_
            refine q_callV (As := []) (rest := [.int (10 * v1)]) (z_dec zd_X1_readNumber 15 rfl) zk_X1_47 zv_X1_next (c_X1_next (d - 1) (by omega) b Iv L ((Iv 13 1).toNatClampNeg) hlo.1.1 hlo.1.2 ((Iv 13 2).toNatClampNeg) hlo.2.1.1 (Nat.le_trans hlo.2.1.2 hlo.1.2)) rfl ⟨_, _, rfl⟩ rfl rfl (Nat.le_of_ble_eq_true rfl) (by omega) (n := 27) rfl ?_
            show PW zm_X1_readNumber d 27 [(2, .int (nI t4)), (1, .int v1), (0, .ref 13)] [.int (f_X1_next Iv ((Iv 13 1).toNatClampNeg) ((Iv 13 2).toNatClampNeg)), .int (10 * v1)] SH (Iv, L, z_R b) 0 0 _
            refine p_iadd (z_dec zd_X1_readNumber 16 rfl) (n := 28) rfl ?_
            refine p_bipush (z_dec zd_X1_readNumber 17 rfl) (v := 48) (by decide) (n := 30) rfl ?_
            refine p_isub (z_dec zd_X1_readNumber 18 rfl) (n := 31) rfl ?_
            refine p_istore_n (z_dec zd_X1_readNumber 19 rfl) rfl (lv2 := [(1, .int (((10 * v1) + (f_X1_next Iv ((Iv 13 1).toNatClampNeg) ((Iv 13 2).toNatClampNeg))) - 48)), (2, .int (nI t4)), (0, .ref 13)]) (by decide) rfl (n := 32) rfl ?_
            refine p_aload_n (z_dec zd_X1_readNumber 20 rfl) rfl 2 rfl (n := 33) rfl ?_
            refine p_dup (z_dec zd_X1_readNumber 21 rfl) rfl (n := 34) rfl ?_
            refine q_getI (z_dec zd_X1_readNumber 22 rfl) zf_X1_19 (by decide) rfl (v := (Iv 13 2)) rfl (n := 37) rfl ?_
            refine p_iconst (z_dec zd_X1_readNumber 23 rfl) (v := 1) (by decide) (n := 38) rfl ?_
            refine p_iadd (z_dec zd_X1_readNumber 24 rfl) (n := 39) rfl ?_
            refine q_putI (z_dec zd_X1_readNumber 25 rfl) zp_X1_19 (fun q => by cases q) rfl (n := 42) rfl ?_
            have hP42 : z_P ((z_up Iv 13 2 ((Iv 13 2) + 1))) := z_P_av hlo (z_dig h16)
            refine p_iinc (z_dec zd_X1_readNumber 26 rfl) 1 rfl (v := (nI (t4 + 1))) (nI_1 _) (lv2 := [(2, .int (nI (t4 + 1))), (1, .int (((10 * v1) + (f_X1_next Iv ((Iv 13 1).toNatClampNeg) ((Iv 13 2).toNatClampNeg))) - 48)), (0, .ref 13)]) (by decide) rfl (n := 45) rfl ?_
            refine p_goto (z_dec zd_X1_readNumber 27 rfl) (t := 4) (by decide) ?_
            rw [show gx_X1_readNumber_4 b (r4 + 1) t4 v1 Iv = gx_X1_readNumber_4 b r4 (t4 + 1) (((10 * v1) + (f_X1_next Iv ((Iv 13 1).toNatClampNeg) ((Iv 13 2).toNatClampNeg))) - 48) (z_up Iv 13 2 ((Iv 13 2) + 1)) from by (conv => lhs; unfold gx_X1_readNumber_4); rw [if_neg h16]]
            exact ih4 (t4 + 1) (((10 * v1) + (f_X1_next Iv ((Iv 13 1).toNatClampNeg) ((Iv 13 2).toNatClampNeg))) - 48) (z_up Iv 13 2 ((Iv 13 2) + 1)) (by omega) hP42
    exact (by have q := (hL4 4 0 0 I (by omega) hP); (rw [show m_X1_readNumber b I = _ from by unfold m_X1_readNumber; rfl]); exact q)
  exact hentry
