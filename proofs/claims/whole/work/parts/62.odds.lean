theorem z_Frg33 : ∀ (r t : Nat) (v3 v4 v5 : Int32) (Iv : Nat → Nat → Int32), z_FrR Iv (gx_X9_workOut_33 r t v3 v4 v5 Iv).2
  | 0, t, v3, v4, v5, Iv => z_FrR_rf _
  | r + 1, t, v3, v4, v5, Iv => by
    unfold gx_X9_workOut_33
    have e1 := z_eEF Iv
    generalize z_eE Iv = p1 at e1 ⊢
    have e2 := z_eEF (m_X9_takes p1.2 63)
    generalize z_eE (m_X9_takes p1.2 63) = p2 at e2 ⊢
    have hA := z_FrR_tr (z_FrR_tr e1 (z_FrR_tk p1.2 63)) (z_FrR_tk _ 59)
    have hB := z_FrR_tr (z_FrR_tr (z_FrR_tr e1 (z_FrR_tk p1.2 63)) e2) (z_FrR_tk p2.2 59)
    (repeat' split) <;> first | exact z_FrR_rf _ | exact z_FrR_wr _ | exact z_FrR_tr hA (z_Frg33 r (t + 1) _ _ _ _) | exact z_FrR_tr hB (z_Frg33 r (t + 1) _ _ _ _)
theorem z_woF (I : Nat → Nat → Int32) (fr : Int32) (n a j : Nat) (h : a ≠ 54 ∨ (j ≠ 11 ∧ j ≠ 12 ∧ j ≠ 13 ∧ j ≠ 14 ∧ j ≠ 15)) : m_X9_workOut I fr n a j = I a j := by
  have h1 : z_FrR (z_w0 I fr n) (m_X9_workOut I fr n) := z_Frg33 122 0 0 0 1 _
  rw [h1 a j (by omega)]
  unfold z_w0
  by_cases q : a = 54
  · subst q
    rw [z_up_j _ _ (by omega), z_up_j _ _ (by omega), z_up_j _ _ (by omega), z_up_j _ _ (by omega), z_up_j _ _ (by omega)]
  · rw [z_up_k _ _ q, z_up_k _ _ q, z_up_k _ _ q, z_up_k _ _ q, z_up_k _ _ q]
/-- the reference's text stands within its row -/
def z_tx (I : Nat → Nat → Int32) : Prop := ¬ I 54 10 < 0 → I 54 10 = nI (I 54 10).toNatClampNeg ∧ (I 54 10).toNatClampNeg ≤ 120
/-- how many players there are, and the text -/
def z_G (np : Nat) (I : Nat → Nat → Int32) : Prop := I 54 6 = nI np ∧ z_tx I
theorem z_Gf {np : Nat} {I J : Nat → Nat → Int32} (h : z_G np I) (h1 : J 54 6 = I 54 6) (h2 : J 54 10 = I 54 10) : z_G np J := ⟨h1.trans h.1, by have g := h.2; unfold z_tx at g ⊢; rw [h2]; exact g⟩
theorem z_Gbg {np m : Nat} {I : Nat → Nat → Int32} (h : z_G np I) : z_G np (m_X9_begins I m) := z_Gf h (z_begO _ _ _ _ (by decide) (by decide) (by decide) (Or.inr (by decide))) (z_begO _ _ _ _ (by decide) (by decide) (by decide) (Or.inr (by decide)))
def gb_X9_law_37 (I : Nat → Nat → Int32) (tm : Nat) (i37 : Nat) (s : (Nat → Nat → Int32)) : (Nat → Nat → Int32) := (z_up s 60 i37 (s 59 i37))
def g_X9_law_37 (I : Nat → Nat → Int32) (tm : Nat) : Nat → (Nat → Nat → Int32)
  | 0 => (z_up (m_X9_workOut I (-1) tm) 54 8 0)
  | i37 + 1 => gb_X9_law_37 I tm i37 (g_X9_law_37 I tm i37)
def f_X9_law (I : Nat → Nat → Int32) (tm : Nat) : Int32 := if ((m_X9_workOut I (-1) tm) 54 14) < 0 then 1 else ((-100) - ((m_X9_workOut I (-1) tm) 54 14))
def m_X9_law (I : Nat → Nat → Int32) (tm : Nat) : Nat → Nat → Int32 := if ((m_X9_workOut I (-1) tm) 54 14) < 0 then (z_up (g_X9_law_37 I tm tm) 54 10 (nI tm)) else (z_up (m_X9_workOut I (-1) tm) 54 8 0)
set_option maxHeartbeats 4000000 in
set_option maxRecDepth 100000 in
theorem c_X9_law (d : Nat) (hd : 56 ≤ d) (b : Bool) (I : Nat → Nat → Int32) (L : Nat → Nat → Int64) (tm : Nat) (htm : I 54 8 = nI tm) (ht120 : tm ≤ 120) : z_CT zm_X9_law d [.ref 54] SH (I, L, z_R b) 0 0 (z_ret (some (.int (f_X9_law I tm))) ((m_X9_law I tm), L, z_R b)) := by
  refine z_enter (by decide +kernel) (Nat.le_of_ble_eq_true rfl) ?_
  have hentry : PW zm_X9_law d 0 [(0, .ref 54)] [] SH (I, L, z_R b) 0 0 (z_ret (some (.int (f_X9_law I tm))) ((m_X9_law I tm), L, z_R b)) := by
    refine p_aload_n (z_dec zd_X9_law 0 rfl) rfl 0 rfl (n := 1) rfl ?_
    refine p_iconst (z_dec zd_X9_law 1 rfl) (v := (-1)) (by decide) (n := 2) rfl ?_
    refine p_aload_n (z_dec zd_X9_law 2 rfl) rfl 0 rfl (n := 3) rfl ?_
    refine q_getI (z_dec zd_X9_law 3 rfl) zf_X9_141 (by decide) rfl (v := (nI tm)) htm (n := 6) rfl ?_
    refine q_callV (As := [.int (-1), .int (nI tm)]) (rest := []) (z_dec zd_X9_law 4 rfl) zk_X9_191 zv_X9_workOut (c_X9_workOut (d - 1) (by omega) b I L (-1) (Or.inl (by decide)) tm (by omega)) rfl ⟨_, _, rfl⟩ rfl rfl (Nat.le_of_ble_eq_true rfl) (by omega) (n := 9) rfl ?_
    show PW zm_X9_law d 9 [(0, .ref 54)] [.int (f_X9_workOut I (-1) tm)] SH ((m_X9_workOut I (-1) tm), L, z_R b) 0 0 _
    refine p_istore_n (z_dec zd_X9_law 5 rfl) rfl (lv2 := [(1, .int (f_X9_workOut I (-1) tm)), (0, .ref 54)]) (by decide) rfl (n := 10) rfl ?_
    refine p_aload_n (z_dec zd_X9_law 6 rfl) rfl 1 rfl (n := 11) rfl ?_
    refine q_getI (z_dec zd_X9_law 7 rfl) zf_X9_141 (by decide) rfl (v := (nI tm)) ((z_woF _ _ _ _ _ (Or.inr (by decide))).trans htm) (n := 14) rfl ?_
    refine p_istore_n (z_dec zd_X9_law 8 rfl) rfl (lv2 := [(2, .int (nI tm)), (1, .int (f_X9_workOut I (-1) tm)), (0, .ref 54)]) (by decide) rfl (n := 15) rfl ?_
    refine p_aload_n (z_dec zd_X9_law 9 rfl) rfl 2 rfl (n := 16) rfl ?_
    refine p_iconst (z_dec zd_X9_law 10 rfl) (v := 0) (by decide) (n := 17) rfl ?_
    refine q_putI (z_dec zd_X9_law 11 rfl) zp_X9_141 (fun q => by cases q) rfl (n := 20) rfl ?_
    refine p_aload_n (z_dec zd_X9_law 12 rfl) rfl 2 rfl (n := 21) rfl ?_
    refine q_getI (z_dec zd_X9_law 13 rfl) zf_X9_153 (by decide) rfl (v := ((m_X9_workOut I (-1) tm) 54 14)) (z_up_j _ _ (by decide)) (n := 24) rfl ?_
    refine p_if_lt (z_dec zd_X9_law 14 rfl) (t := 35) (by decide) (n := 27) rfl (fun h24 => ?_) (fun h24 => ?_)
    · refine p_iconst (z_dec zd_X9_law 20 rfl) (v := 0) (by decide) (n := 36) rfl ?_
      refine p_istore_n (z_dec zd_X9_law 21 rfl) rfl (lv2 := [(3, .int 0), (2, .int (nI tm)), (1, .int (f_X9_workOut I (-1) tm)), (0, .ref 54)]) (by decide) rfl (n := 37) rfl ?_
      have hL37 : ∀ i37, i37 ≤ tm → PW zm_X9_law d 37 [(3, .int (nI i37)), (2, .int (nI tm)), (1, .int (f_X9_workOut I (-1) tm)), (0, .ref 54)] [] SH ((g_X9_law_37 I tm i37), L, z_R b) 0 0 (z_ret (some (.int (f_X9_law I tm))) ((m_X9_law I tm), L, z_R b)) := by
        refine z_down tm (fun i37 hi37 ih37 => ?_)
        refine p_iload_n (z_dec zd_X9_law 22 rfl) rfl 0 rfl (n := 38) rfl ?_
        refine p_iload_n (z_dec zd_X9_law 23 rfl) rfl 1 rfl (n := 39) rfl ?_
        refine p_icmp_ge (z_dec zd_X9_law 24 rfl) (t := 60) (by decide) (n := 42) rfl (fun h39 => ?_) (fun h39 => ?_)
        · have hx37 : i37 = tm := by have := z_ge (a := tm) h39; omega
          rw [hx37]
          refine p_aload_n (z_dec zd_X9_law 35 rfl) rfl 3 rfl (n := 61) rfl ?_
          refine p_iload_n (z_dec zd_X9_law 36 rfl) rfl 1 rfl (n := 62) rfl ?_
          refine q_putI (z_dec zd_X9_law 37 rfl) zp_X9_83 (fun q => by cases q) rfl (n := 65) rfl ?_
          refine p_iconst (z_dec zd_X9_law 38 rfl) (v := 1) (by decide) (n := 66) rfl ?_
          exact p_iret (z_dec zd_X9_law 39 rfl) rfl ⟨(by unfold f_X9_law; rw [if_pos h24]), rfl, (z_3 (by unfold m_X9_law; rw [if_pos h24]) rfl)⟩
        · have hx37 : i37 < tm := by have := z_nge (a := tm) h39; omega
          refine p_aload_n (z_dec zd_X9_law 25 rfl) rfl 3 rfl (n := 43) rfl ?_
          refine q_getR (z_dec zd_X9_law 26 rfl) zf_X9_25 (i := 60) rfl rfl (n := 46) rfl ?_
          refine p_iload_n (z_dec zd_X9_law 27 rfl) rfl 0 rfl (n := 47) rfl ?_
          refine p_aload_n (z_dec zd_X9_law 28 rfl) rfl 3 rfl (n := 48) rfl ?_
          refine q_getR (z_dec zd_X9_law 29 rfl) zf_X9_22 (i := 59) rfl rfl (n := 51) rfl ?_
          refine p_iload_n (z_dec zd_X9_law 30 rfl) rfl 0 rfl (n := 52) rfl ?_
          refine q_iald (z_dec zd_X9_law 31 rfl) rfl (by decide) (i37) rfl (by omega) (v := ((g_X9_law_37 I tm i37) 59 i37)) rfl (n := 53) rfl ?_
          refine q_iast (z_dec zd_X9_law 32 rfl) rfl (by decide) (i37) rfl (by omega) (n := 54) rfl ?_
          refine p_iinc (z_dec zd_X9_law 33 rfl) 0 rfl (v := (nI (i37 + 1))) (nI_1 _) (lv2 := [(3, .int (nI (i37 + 1))), (2, .int (nI tm)), (1, .int (f_X9_workOut I (-1) tm)), (0, .ref 54)]) (by decide) rfl (n := 57) rfl ?_
          refine p_goto (z_dec zd_X9_law 34 rfl) (t := 37) (by decide) ?_
          have eb : (g_X9_law_37 I tm) (i37 + 1) = (z_up (g_X9_law_37 I tm i37) 60 i37 ((g_X9_law_37 I tm i37) 59 i37)) := by show gb_X9_law_37 I tm i37 ((g_X9_law_37 I tm) i37) = _; unfold gb_X9_law_37; rfl
          refine z_lv (lv' := [(3, .int (nI (i37 + 1))), (2, .int (nI tm)), (1, .int (f_X9_workOut I (-1) tm)), (0, .ref 54)]) rfl rfl (by rw [eb]) (ih37 (by omega))
      refine z_lv (lv' := [(3, .int (nI 0)), (2, .int (nI tm)), (1, .int (f_X9_workOut I (-1) tm)), (0, .ref 54)]) rfl rfl rfl (hL37 0 (Nat.zero_le _))
    · refine p_bipush (z_dec zd_X9_law 15 rfl) (v := (-100)) (by decide) (n := 29) rfl ?_
      refine p_aload_n (z_dec zd_X9_law 16 rfl) rfl 2 rfl (n := 30) rfl ?_
      refine q_getI (z_dec zd_X9_law 17 rfl) zf_X9_153 (by decide) rfl (v := ((m_X9_workOut I (-1) tm) 54 14)) (z_up_j _ _ (by decide)) (n := 33) rfl ?_
      refine p_isub (z_dec zd_X9_law 18 rfl) (n := 34) rfl ?_
      exact p_iret (z_dec zd_X9_law 19 rfl) rfl ⟨(by unfold f_X9_law; rw [if_neg h24]), rfl, (z_3 (by unfold m_X9_law; rw [if_neg h24]) rfl)⟩
  exact hentry
def f_X9_oddsOf (I : Nat → Nat → Int32) (a : Nat) (e : Nat) (u : Nat) : Int32 := if (I 54 10) < 0 then if 0 ≤ ((((6 + (I 55 a)) - (I 55 e)) + ((I 62 u) / 20)) - ((f_X9_bitsOf (I 63 a)) / 2)) then if ((((6 + (I 55 a)) - (I 55 e)) + ((I 62 u) / 20)) - ((f_X9_bitsOf (I 63 a)) / 2)) ≤ 12 then ((((6 + (I 55 a)) - (I 55 e)) + ((I 62 u) / 20)) - ((f_X9_bitsOf (I 63 a)) / 2)) else 12 else 0 else if 0 ≤ (f_X9_workOut (z_up (z_up (z_up (z_up (z_up (z_up I 61 0 (I 55 a)) 61 1 (I 55 e)) 61 2 (I 62 u)) 61 3 (f_X9_bitsOf (I 63 u))) 61 4 (f_X9_bitsOf (I 63 a))) 61 5 (I 54 20)) 0 ((I 54 10).toNatClampNeg)) then if (f_X9_workOut (z_up (z_up (z_up (z_up (z_up (z_up I 61 0 (I 55 a)) 61 1 (I 55 e)) 61 2 (I 62 u)) 61 3 (f_X9_bitsOf (I 63 u))) 61 4 (f_X9_bitsOf (I 63 a))) 61 5 (I 54 20)) 0 ((I 54 10).toNatClampNeg)) ≤ 12 then (f_X9_workOut (z_up (z_up (z_up (z_up (z_up (z_up I 61 0 (I 55 a)) 61 1 (I 55 e)) 61 2 (I 62 u)) 61 3 (f_X9_bitsOf (I 63 u))) 61 4 (f_X9_bitsOf (I 63 a))) 61 5 (I 54 20)) 0 ((I 54 10).toNatClampNeg)) else 12 else 0
def m_X9_oddsOf (I : Nat → Nat → Int32) (a : Nat) (e : Nat) (u : Nat) : Nat → Nat → Int32 := if (I 54 10) < 0 then if 0 ≤ ((((6 + (I 55 a)) - (I 55 e)) + ((I 62 u) / 20)) - ((f_X9_bitsOf (I 63 a)) / 2)) then if ((((6 + (I 55 a)) - (I 55 e)) + ((I 62 u) / 20)) - ((f_X9_bitsOf (I 63 a)) / 2)) ≤ 12 then I else I else I else if 0 ≤ (f_X9_workOut (z_up (z_up (z_up (z_up (z_up (z_up I 61 0 (I 55 a)) 61 1 (I 55 e)) 61 2 (I 62 u)) 61 3 (f_X9_bitsOf (I 63 u))) 61 4 (f_X9_bitsOf (I 63 a))) 61 5 (I 54 20)) 0 ((I 54 10).toNatClampNeg)) then if (f_X9_workOut (z_up (z_up (z_up (z_up (z_up (z_up I 61 0 (I 55 a)) 61 1 (I 55 e)) 61 2 (I 62 u)) 61 3 (f_X9_bitsOf (I 63 u))) 61 4 (f_X9_bitsOf (I 63 a))) 61 5 (I 54 20)) 0 ((I 54 10).toNatClampNeg)) ≤ 12 then (m_X9_workOut (z_up (z_up (z_up (z_up (z_up (z_up I 61 0 (I 55 a)) 61 1 (I 55 e)) 61 2 (I 62 u)) 61 3 (f_X9_bitsOf (I 63 u))) 61 4 (f_X9_bitsOf (I 63 a))) 61 5 (I 54 20)) 0 ((I 54 10).toNatClampNeg)) else (m_X9_workOut (z_up (z_up (z_up (z_up (z_up (z_up I 61 0 (I 55 a)) 61 1 (I 55 e)) 61 2 (I 62 u)) 61 3 (f_X9_bitsOf (I 63 u))) 61 4 (f_X9_bitsOf (I 63 a))) 61 5 (I 54 20)) 0 ((I 54 10).toNatClampNeg)) else (m_X9_workOut (z_up (z_up (z_up (z_up (z_up (z_up I 61 0 (I 55 a)) 61 1 (I 55 e)) 61 2 (I 62 u)) 61 3 (f_X9_bitsOf (I 63 u))) 61 4 (f_X9_bitsOf (I 63 a))) 61 5 (I 54 20)) 0 ((I 54 10).toNatClampNeg))
set_option maxHeartbeats 4000000 in
set_option maxRecDepth 100000 in
theorem c_X9_oddsOf (d : Nat) (hd : 55 ≤ d) (b : Bool) (I : Nat → Nat → Int32) (L : Nat → Nat → Int64) (a : Nat) (ha : a < 10) (e : Nat) (he : e < 10) (u : Nat) (hu : u < 10) (htx : z_tx I) : z_CT zm_X9_oddsOf d [.ref 54, .int (nI a), .int (nI e), .int (nI u)] SH (I, L, z_R b) 0 0 (z_ret (some (.int (f_X9_oddsOf I a e u))) ((m_X9_oddsOf I a e u), L, z_R b)) := by
  refine z_enter (by decide +kernel) (Nat.le_of_ble_eq_true rfl) ?_
  have hentry : PW zm_X9_oddsOf d 0 [(0, .ref 54), (1, .int (nI a)), (2, .int (nI e)), (3, .int (nI u))] [] SH (I, L, z_R b) 0 0 (z_ret (some (.int (f_X9_oddsOf I a e u))) ((m_X9_oddsOf I a e u), L, z_R b)) := by
    refine p_bipush (z_dec zd_X9_oddsOf 0 rfl) (v := 6) (by decide) (n := 2) rfl ?_
    refine p_aload_n (z_dec zd_X9_oddsOf 1 rfl) rfl 0 rfl (n := 3) rfl ?_
    refine q_getR (z_dec zd_X9_oddsOf 2 rfl) zf_X9_9 (i := 55) rfl rfl (n := 6) rfl ?_
    refine p_iload_n (z_dec zd_X9_oddsOf 3 rfl) rfl 1 rfl (n := 7) rfl ?_
    refine q_iald (z_dec zd_X9_oddsOf 4 rfl) rfl (by decide) (a) rfl (by omega) (v := (I 55 a)) rfl (n := 8) rfl ?_
    refine p_iadd (z_dec zd_X9_oddsOf 5 rfl) (n := 9) rfl ?_
    refine p_aload_n (z_dec zd_X9_oddsOf 6 rfl) rfl 0 rfl (n := 10) rfl ?_
    refine q_getR (z_dec zd_X9_oddsOf 7 rfl) zf_X9_9 (i := 55) rfl rfl (n := 13) rfl ?_
    refine p_iload_n (z_dec zd_X9_oddsOf 8 rfl) rfl 2 rfl (n := 14) rfl ?_
    refine q_iald (z_dec zd_X9_oddsOf 9 rfl) rfl (by decide) (e) rfl (by omega) (v := (I 55 e)) rfl (n := 15) rfl ?_
    refine p_isub (z_dec zd_X9_oddsOf 10 rfl) (n := 16) rfl ?_
    refine p_aload_n (z_dec zd_X9_oddsOf 11 rfl) rfl 0 rfl (n := 17) rfl ?_
    refine q_getR (z_dec zd_X9_oddsOf 12 rfl) zf_X9_31 (i := 62) rfl rfl (n := 20) rfl ?_
    refine p_iload_n (z_dec zd_X9_oddsOf 13 rfl) rfl 3 rfl (n := 21) rfl ?_
    refine q_iald (z_dec zd_X9_oddsOf 14 rfl) rfl (by decide) (u) rfl (by omega) (v := (I 62 u)) rfl (n := 22) rfl ?_
    refine p_bipush (z_dec zd_X9_oddsOf 15 rfl) (v := 20) (by decide) (n := 24) rfl ?_
    refine p_idiv (z_dec zd_X9_oddsOf 16 rfl) (by decide) (n := 25) rfl ?_
    refine p_iadd (z_dec zd_X9_oddsOf 17 rfl) (n := 26) rfl ?_
    refine p_aload_n (z_dec zd_X9_oddsOf 18 rfl) rfl 0 rfl (n := 27) rfl ?_
    refine q_getR (z_dec zd_X9_oddsOf 19 rfl) zf_X9_34 (i := 63) rfl rfl (n := 30) rfl ?_
    refine p_iload_n (z_dec zd_X9_oddsOf 20 rfl) rfl 1 rfl (n := 31) rfl ?_
    refine q_iald (z_dec zd_X9_oddsOf 21 rfl) rfl (by decide) (a) rfl (by omega) (v := (I 63 a)) rfl (n := 32) rfl ?_
    refine q_callS (As := [.int (I 63 a)]) (rest := [.int (((6 + (I 55 a)) - (I 55 e)) + ((I 62 u) / 20))]) (z_dec zd_X9_oddsOf 22 rfl) zk_X9_197 zs_X9_bitsOf (c_X9_bitsOf (d - 1) (by omega) b I L (I 63 a)) rfl rfl (Nat.le_of_ble_eq_true rfl) (by omega) (n := 35) rfl ?_
    show PW zm_X9_oddsOf d 35 [(0, .ref 54), (1, .int (nI a)), (2, .int (nI e)), (3, .int (nI u))] [.int (f_X9_bitsOf (I 63 a)), .int (((6 + (I 55 a)) - (I 55 e)) + ((I 62 u) / 20))] SH (I, L, z_R b) 0 0 _
    refine p_iconst (z_dec zd_X9_oddsOf 23 rfl) (v := 2) (by decide) (n := 36) rfl ?_
    refine p_idiv (z_dec zd_X9_oddsOf 24 rfl) (by decide) (n := 37) rfl ?_
    refine p_isub (z_dec zd_X9_oddsOf 25 rfl) (n := 38) rfl ?_
    refine p_istore (z_dec zd_X9_oddsOf 26 rfl) (lv2 := [(4, .int ((((6 + (I 55 a)) - (I 55 e)) + ((I 62 u) / 20)) - ((f_X9_bitsOf (I 63 a)) / 2))), (0, .ref 54), (1, .int (nI a)), (2, .int (nI e)), (3, .int (nI u))]) (by decide) rfl (n := 40) rfl ?_
    refine p_aload_n (z_dec zd_X9_oddsOf 27 rfl) rfl 1 rfl (n := 41) rfl ?_
    refine q_getI (z_dec zd_X9_oddsOf 28 rfl) zf_X9_83 (by decide) rfl (v := (I 54 10)) rfl (n := 44) rfl ?_
    refine p_if_lt (z_dec zd_X9_oddsOf 29 rfl) (t := 134) (by decide) (n := 47) rfl (fun h44 => ?_) (fun h44 => ?_)
    · refine p_iload (z_dec zd_X9_oddsOf 84 rfl) 0 rfl (n := 136) rfl ?_
      refine p_if_ge (z_dec zd_X9_oddsOf 85 rfl) (t := 143) (by decide) (n := 139) rfl (fun h136 => ?_) (fun h136 => ?_)
      · refine p_iload (z_dec zd_X9_oddsOf 88 rfl) 0 rfl (n := 145) rfl ?_
        refine p_bipush (z_dec zd_X9_oddsOf 89 rfl) (v := 12) (by decide) (n := 147) rfl ?_
        refine p_icmp_le (z_dec zd_X9_oddsOf 90 rfl) (t := 155) (by decide) (n := 150) rfl (fun h147 => ?_) (fun h147 => ?_)
        · refine p_iload (z_dec zd_X9_oddsOf 93 rfl) 0 rfl (n := 157) rfl ?_
          exact p_iret (z_dec zd_X9_oddsOf 94 rfl) rfl ⟨(by unfold f_X9_oddsOf; rw [if_pos h44, if_pos h136, if_pos h147]), rfl, (z_3 (by unfold m_X9_oddsOf; rw [if_pos h44, if_pos h136, if_pos h147]) rfl)⟩
        · refine p_bipush (z_dec zd_X9_oddsOf 91 rfl) (v := 12) (by decide) (n := 152) rfl ?_
          refine p_goto (z_dec zd_X9_oddsOf 92 rfl) (t := 157) (by decide) ?_
          exact p_iret (z_dec zd_X9_oddsOf 94 rfl) rfl ⟨(by unfold f_X9_oddsOf; rw [if_pos h44, if_pos h136, if_neg h147]), rfl, (z_3 (by unfold m_X9_oddsOf; rw [if_pos h44, if_pos h136, if_neg h147]) rfl)⟩
      · refine p_iconst (z_dec zd_X9_oddsOf 86 rfl) (v := 0) (by decide) (n := 140) rfl ?_
        refine p_goto (z_dec zd_X9_oddsOf 87 rfl) (t := 157) (by decide) ?_
        exact p_iret (z_dec zd_X9_oddsOf 94 rfl) rfl ⟨(by unfold f_X9_oddsOf; rw [if_pos h44, if_neg h136]), rfl, (z_3 (by unfold m_X9_oddsOf; rw [if_pos h44, if_neg h136]) rfl)⟩
    · have hq := htx h44
      refine p_aload_n (z_dec zd_X9_oddsOf 30 rfl) rfl 1 rfl (n := 48) rfl ?_
      refine q_getR (z_dec zd_X9_oddsOf 31 rfl) zf_X9_28 (i := 61) rfl rfl (n := 51) rfl ?_
      refine p_iconst (z_dec zd_X9_oddsOf 32 rfl) (v := 0) (by decide) (n := 52) rfl ?_
      refine p_aload_n (z_dec zd_X9_oddsOf 33 rfl) rfl 1 rfl (n := 53) rfl ?_
      refine q_getR (z_dec zd_X9_oddsOf 34 rfl) zf_X9_9 (i := 55) rfl rfl (n := 56) rfl ?_
      refine p_iload_n (z_dec zd_X9_oddsOf 35 rfl) rfl 2 rfl (n := 57) rfl ?_
      refine q_iald (z_dec zd_X9_oddsOf 36 rfl) rfl (by decide) (a) rfl (by omega) (v := (I 55 a)) rfl (n := 58) rfl ?_
      refine q_iast (z_dec zd_X9_oddsOf 37 rfl) rfl (by decide) (0) rfl (by decide) (n := 59) rfl ?_
      refine p_aload_n (z_dec zd_X9_oddsOf 38 rfl) rfl 1 rfl (n := 60) rfl ?_
      refine q_getR (z_dec zd_X9_oddsOf 39 rfl) zf_X9_28 (i := 61) rfl rfl (n := 63) rfl ?_
      refine p_iconst (z_dec zd_X9_oddsOf 40 rfl) (v := 1) (by decide) (n := 64) rfl ?_
      refine p_aload_n (z_dec zd_X9_oddsOf 41 rfl) rfl 1 rfl (n := 65) rfl ?_
      refine q_getR (z_dec zd_X9_oddsOf 42 rfl) zf_X9_9 (i := 55) rfl rfl (n := 68) rfl ?_
      refine p_iload_n (z_dec zd_X9_oddsOf 43 rfl) rfl 3 rfl (n := 69) rfl ?_
      refine q_iald (z_dec zd_X9_oddsOf 44 rfl) rfl (by decide) (e) rfl (by omega) (v := (I 55 e)) (z_up_k _ _ (by decide)) (n := 70) rfl ?_
      refine q_iast (z_dec zd_X9_oddsOf 45 rfl) rfl (by decide) (1) rfl (by decide) (n := 71) rfl ?_
      refine p_aload_n (z_dec zd_X9_oddsOf 46 rfl) rfl 1 rfl (n := 72) rfl ?_
      refine q_getR (z_dec zd_X9_oddsOf 47 rfl) zf_X9_28 (i := 61) rfl rfl (n := 75) rfl ?_
      refine p_iconst (z_dec zd_X9_oddsOf 48 rfl) (v := 2) (by decide) (n := 76) rfl ?_
      refine p_aload_n (z_dec zd_X9_oddsOf 49 rfl) rfl 1 rfl (n := 77) rfl ?_
      refine q_getR (z_dec zd_X9_oddsOf 50 rfl) zf_X9_31 (i := 62) rfl rfl (n := 80) rfl ?_
      refine p_iload_n (z_dec zd_X9_oddsOf 51 rfl) rfl 4 rfl (n := 81) rfl ?_
      refine q_iald (z_dec zd_X9_oddsOf 52 rfl) rfl (by decide) (u) rfl (by omega) (v := (I 62 u)) ((z_up_k _ _ (by decide)).trans (z_up_k _ _ (by decide))) (n := 82) rfl ?_
      refine q_iast (z_dec zd_X9_oddsOf 53 rfl) rfl (by decide) (2) rfl (by decide) (n := 83) rfl ?_
      refine p_aload_n (z_dec zd_X9_oddsOf 54 rfl) rfl 1 rfl (n := 84) rfl ?_
      refine q_getR (z_dec zd_X9_oddsOf 55 rfl) zf_X9_28 (i := 61) rfl rfl (n := 87) rfl ?_
      refine p_iconst (z_dec zd_X9_oddsOf 56 rfl) (v := 3) (by decide) (n := 88) rfl ?_
      refine p_aload_n (z_dec zd_X9_oddsOf 57 rfl) rfl 1 rfl (n := 89) rfl ?_
      refine q_getR (z_dec zd_X9_oddsOf 58 rfl) zf_X9_34 (i := 63) rfl rfl (n := 92) rfl ?_
      refine p_iload_n (z_dec zd_X9_oddsOf 59 rfl) rfl 4 rfl (n := 93) rfl ?_
      refine q_iald (z_dec zd_X9_oddsOf 60 rfl) rfl (by decide) (u) rfl (by omega) (v := (I 63 u)) ((z_up_k _ _ (by decide)).trans ((z_up_k _ _ (by decide)).trans (z_up_k _ _ (by decide)))) (n := 94) rfl ?_
      refine q_callS (As := [.int (I 63 u)]) (rest := [.int 3, .ref 61]) (z_dec zd_X9_oddsOf 61 rfl) zk_X9_197 zs_X9_bitsOf (c_X9_bitsOf (d - 1) (by omega) b (z_up (z_up (z_up I 61 0 (I 55 a)) 61 1 (I 55 e)) 61 2 (I 62 u)) L (I 63 u)) rfl rfl (Nat.le_of_ble_eq_true rfl) (by omega) (n := 97) rfl ?_
      show PW zm_X9_oddsOf d 97 [(4, .int ((((6 + (I 55 a)) - (I 55 e)) + ((I 62 u) / 20)) - ((f_X9_bitsOf (I 63 a)) / 2))), (0, .ref 54), (1, .int (nI a)), (2, .int (nI e)), (3, .int (nI u))] [.int (f_X9_bitsOf (I 63 u)), .int 3, .ref 61] SH ((z_up (z_up (z_up I 61 0 (I 55 a)) 61 1 (I 55 e)) 61 2 (I 62 u)), L, z_R b) 0 0 _
      refine q_iast (z_dec zd_X9_oddsOf 62 rfl) rfl (by decide) (3) rfl (by decide) (n := 98) rfl ?_
      refine p_aload_n (z_dec zd_X9_oddsOf 63 rfl) rfl 1 rfl (n := 99) rfl ?_
      refine q_getR (z_dec zd_X9_oddsOf 64 rfl) zf_X9_28 (i := 61) rfl rfl (n := 102) rfl ?_
      refine p_iconst (z_dec zd_X9_oddsOf 65 rfl) (v := 4) (by decide) (n := 103) rfl ?_
      refine p_aload_n (z_dec zd_X9_oddsOf 66 rfl) rfl 1 rfl (n := 104) rfl ?_
      refine q_getR (z_dec zd_X9_oddsOf 67 rfl) zf_X9_34 (i := 63) rfl rfl (n := 107) rfl ?_
      refine p_iload_n (z_dec zd_X9_oddsOf 68 rfl) rfl 2 rfl (n := 108) rfl ?_
      refine q_iald (z_dec zd_X9_oddsOf 69 rfl) rfl (by decide) (a) rfl (by omega) (v := (I 63 a)) ((z_up_k _ _ (by decide)).trans ((z_up_k _ _ (by decide)).trans ((z_up_k _ _ (by decide)).trans (z_up_k _ _ (by decide))))) (n := 109) rfl ?_
      refine q_callS (As := [.int (I 63 a)]) (rest := [.int 4, .ref 61]) (z_dec zd_X9_oddsOf 70 rfl) zk_X9_197 zs_X9_bitsOf (c_X9_bitsOf (d - 1) (by omega) b (z_up (z_up (z_up (z_up I 61 0 (I 55 a)) 61 1 (I 55 e)) 61 2 (I 62 u)) 61 3 (f_X9_bitsOf (I 63 u))) L (I 63 a)) rfl rfl (Nat.le_of_ble_eq_true rfl) (by omega) (n := 112) rfl ?_
      show PW zm_X9_oddsOf d 112 [(4, .int ((((6 + (I 55 a)) - (I 55 e)) + ((I 62 u) / 20)) - ((f_X9_bitsOf (I 63 a)) / 2))), (0, .ref 54), (1, .int (nI a)), (2, .int (nI e)), (3, .int (nI u))] [.int (f_X9_bitsOf (I 63 a)), .int 4, .ref 61] SH ((z_up (z_up (z_up (z_up I 61 0 (I 55 a)) 61 1 (I 55 e)) 61 2 (I 62 u)) 61 3 (f_X9_bitsOf (I 63 u))), L, z_R b) 0 0 _
      refine q_iast (z_dec zd_X9_oddsOf 71 rfl) rfl (by decide) (4) rfl (by decide) (n := 113) rfl ?_
      refine p_aload_n (z_dec zd_X9_oddsOf 72 rfl) rfl 1 rfl (n := 114) rfl ?_
      refine q_getR (z_dec zd_X9_oddsOf 73 rfl) zf_X9_28 (i := 61) rfl rfl (n := 117) rfl ?_
      refine p_iconst (z_dec zd_X9_oddsOf 74 rfl) (v := 5) (by decide) (n := 118) rfl ?_
      refine p_aload_n (z_dec zd_X9_oddsOf 75 rfl) rfl 1 rfl (n := 119) rfl ?_
      refine q_getI (z_dec zd_X9_oddsOf 76 rfl) zf_X9_194 (by decide) rfl (v := (I 54 20)) ((z_up_k _ _ (by decide)).trans ((z_up_k _ _ (by decide)).trans ((z_up_k _ _ (by decide)).trans ((z_up_k _ _ (by decide)).trans (z_up_k _ _ (by decide)))))) (n := 122) rfl ?_
      refine q_iast (z_dec zd_X9_oddsOf 77 rfl) rfl (by decide) (5) rfl (by decide) (n := 123) rfl ?_
      refine p_aload_n (z_dec zd_X9_oddsOf 78 rfl) rfl 1 rfl (n := 124) rfl ?_
      refine p_iconst (z_dec zd_X9_oddsOf 79 rfl) (v := 0) (by decide) (n := 125) rfl ?_
      refine p_aload_n (z_dec zd_X9_oddsOf 80 rfl) rfl 1 rfl (n := 126) rfl ?_
      refine q_getI (z_dec zd_X9_oddsOf 81 rfl) zf_X9_83 (by decide) rfl (v := (I 54 10)) ((z_up_k _ _ (by decide)).trans ((z_up_k _ _ (by decide)).trans ((z_up_k _ _ (by decide)).trans ((z_up_k _ _ (by decide)).trans ((z_up_k _ _ (by decide)).trans (z_up_k _ _ (by decide))))))) (n := 129) rfl ?_
      refine q_callV (As := [.int 0, .int (nI ((I 54 10).toNatClampNeg))]) (rest := []) (z_dec zd_X9_oddsOf 82 rfl) zk_X9_191 zv_X9_workOut (c_X9_workOut (d - 1) (by omega) b (z_up (z_up (z_up (z_up (z_up (z_up I 61 0 (I 55 a)) 61 1 (I 55 e)) 61 2 (I 62 u)) 61 3 (f_X9_bitsOf (I 63 u))) 61 4 (f_X9_bitsOf (I 63 a))) 61 5 (I 54 20)) L 0 (Or.inr rfl) ((I 54 10).toNatClampNeg) (Nat.lt_succ_of_le hq.2)) rfl ⟨_, _, rfl⟩ (by simp only [← hq.1]; rfl) rfl (Nat.le_of_ble_eq_true rfl) (by omega) (n := 132) rfl ?_
      show PW zm_X9_oddsOf d 132 [(4, .int ((((6 + (I 55 a)) - (I 55 e)) + ((I 62 u) / 20)) - ((f_X9_bitsOf (I 63 a)) / 2))), (0, .ref 54), (1, .int (nI a)), (2, .int (nI e)), (3, .int (nI u))] [.int (f_X9_workOut (z_up (z_up (z_up (z_up (z_up (z_up I 61 0 (I 55 a)) 61 1 (I 55 e)) 61 2 (I 62 u)) 61 3 (f_X9_bitsOf (I 63 u))) 61 4 (f_X9_bitsOf (I 63 a))) 61 5 (I 54 20)) 0 ((I 54 10).toNatClampNeg))] SH ((m_X9_workOut (z_up (z_up (z_up (z_up (z_up (z_up I 61 0 (I 55 a)) 61 1 (I 55 e)) 61 2 (I 62 u)) 61 3 (f_X9_bitsOf (I 63 u))) 61 4 (f_X9_bitsOf (I 63 a))) 61 5 (I 54 20)) 0 ((I 54 10).toNatClampNeg)), L, z_R b) 0 0 _
      refine p_istore (z_dec zd_X9_oddsOf 83 rfl) (lv2 := [(4, .int (f_X9_workOut (z_up (z_up (z_up (z_up (z_up (z_up I 61 0 (I 55 a)) 61 1 (I 55 e)) 61 2 (I 62 u)) 61 3 (f_X9_bitsOf (I 63 u))) 61 4 (f_X9_bitsOf (I 63 a))) 61 5 (I 54 20)) 0 ((I 54 10).toNatClampNeg))), (0, .ref 54), (1, .int (nI a)), (2, .int (nI e)), (3, .int (nI u))]) (by decide) rfl (n := 134) rfl ?_
      refine p_iload (z_dec zd_X9_oddsOf 84 rfl) 0 rfl (n := 136) rfl ?_
      refine p_if_ge (z_dec zd_X9_oddsOf 85 rfl) (t := 143) (by decide) (n := 139) rfl (fun h136 => ?_) (fun h136 => ?_)
      · refine p_iload (z_dec zd_X9_oddsOf 88 rfl) 0 rfl (n := 145) rfl ?_
        refine p_bipush (z_dec zd_X9_oddsOf 89 rfl) (v := 12) (by decide) (n := 147) rfl ?_
        refine p_icmp_le (z_dec zd_X9_oddsOf 90 rfl) (t := 155) (by decide) (n := 150) rfl (fun h147 => ?_) (fun h147 => ?_)
        · refine p_iload (z_dec zd_X9_oddsOf 93 rfl) 0 rfl (n := 157) rfl ?_
          exact p_iret (z_dec zd_X9_oddsOf 94 rfl) rfl ⟨(by unfold f_X9_oddsOf; rw [if_neg h44, if_pos h136, if_pos h147]), rfl, (z_3 (by unfold m_X9_oddsOf; rw [if_neg h44, if_pos h136, if_pos h147]) rfl)⟩
        · refine p_bipush (z_dec zd_X9_oddsOf 91 rfl) (v := 12) (by decide) (n := 152) rfl ?_
          refine p_goto (z_dec zd_X9_oddsOf 92 rfl) (t := 157) (by decide) ?_
          exact p_iret (z_dec zd_X9_oddsOf 94 rfl) rfl ⟨(by unfold f_X9_oddsOf; rw [if_neg h44, if_pos h136, if_neg h147]), rfl, (z_3 (by unfold m_X9_oddsOf; rw [if_neg h44, if_pos h136, if_neg h147]) rfl)⟩
      · refine p_iconst (z_dec zd_X9_oddsOf 86 rfl) (v := 0) (by decide) (n := 140) rfl ?_
        refine p_goto (z_dec zd_X9_oddsOf 87 rfl) (t := 157) (by decide) ?_
        exact p_iret (z_dec zd_X9_oddsOf 94 rfl) rfl ⟨(by unfold f_X9_oddsOf; rw [if_neg h44, if_neg h136]), rfl, (z_3 (by unfold m_X9_oddsOf; rw [if_neg h44, if_neg h136]) rfl)⟩
  exact hentry
