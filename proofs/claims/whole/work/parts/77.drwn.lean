theorem yq_in1 {x : Int32} {N : Nat} (h1 : ¬ x < 1) (h2 : ¬ nI N < x) (hN : N < 2000000000) : x = nI x.toNatClampNeg ∧ 1 ≤ x.toNatClampNeg ∧ x.toNatClampNeg ≤ N := by
  have h3 : ¬ x < 0 := by
    intro q
    apply h1
    rw [Int32.lt_iff_toInt_lt] at q ⊢
    have e0 : (0 : Int32).toInt = 0 := rfl
    have e1 : (1 : Int32).toInt = 1 := rfl
    omega
  obtain ⟨j, hj, rfl⟩ := nI_of h3
  rw [nI_clamp hj]
  refine ⟨rfl, ?_, ?_⟩
  · rcases Nat.eq_zero_or_pos j with q | q
    · subst q; exact absurd (by decide) h1
    · exact q
  · rcases Nat.lt_or_ge N j with q | q
    · exact absurd (nI_lt q hj) h2
    · exact q
/-- cells that a card's going through on trial leaves as they are -/
def yq_o (a j : Nat) : Prop := (a < 13 ∨ 25 < a ∨ a = 14 ∨ a = 15 ∨ a = 16 ∨ (a = 13 ∧ j ≠ 8))
theorem yq_sF {a j : Nat} (h : yq_o a j) (I : Nat → Nat → Int32) (w l u : Nat) : m_X3_settle I w l u a j = I a j := z_stO I w l u a j (by unfold yq_o at h; omega) (by unfold yq_o at h; omega) (by unfold yq_o at h; omega)
theorem yq_oF {a j : Nat} (h : yq_o a j) (b : Bool) (I : Nat → Nat → Int32) (s k : Nat) (x y z : Int32) : m_X1_oddsOn b I s k x y z a j = I a j := z_ooO b I s k x y z a j (by unfold yq_o at h; omega) (by unfold yq_o at h; omega)
theorem yq_dF {a j : Nat} (h : yq_o a j) (I : Nat → Nat → Int32) : m_X7_draw I 19 a j = I a j := z_drO I 19 a j (Or.inl (by unfold yq_o at h; omega))
theorem yq_hcF {a j : Nat} (h : yq_o a j) (b : Bool) (L : Nat → Nat → Int64) (k sz len : Nat) (bd : Int32) : ∀ (r t : Nat) (Iv : Nat → Nat → Int32), gx_X3_holdCard_3 b L k sz len bd r t Iv a j = Iv a j
  | 0, t, Iv => rfl
  | r + 1, t, Iv => by
    unfold gx_X3_holdCard_3
    (repeat' split) <;> first
      | exact (yq_hcF h b L k sz len bd r (t + 1) _).trans ((yq_sF h _ _ _ _).trans (yq_oF h b _ _ _ _ _ _))
      | exact (yq_hcF h b L k sz len bd r (t + 1) _).trans ((yq_sF h _ _ _ _).trans ((yq_dF h _).trans (yq_oF h b _ _ _ _ _ _)))
      | exact Eq.refl (Iv a j)
theorem yq_gtF {a j : Nat} (h : yq_o a j) (b : Bool) (L : Nat → Nat → Int64) (k np sz len : Nat) (bd : Int32) : ∀ (r t : Nat) (Iv : Nat → Nat → Int32), gx_X3_goThrough_3 b L k np sz len bd r t Iv a j = Iv a j
  | 0, t, Iv => rfl
  | r + 1, t, Iv => by
    unfold gx_X3_goThrough_3
    exact (yq_gtF h b L k np sz len bd r (t + 1) _).trans ((z_edF _ 19 np a j (by unfold yq_o at h; omega) (by unfold yq_o at h; omega) (by unfold yq_o at h; omega) (by unfold yq_o at h; omega)).trans (yq_hcF h b L k sz len bd 8 0 Iv))
/-- as yq_A, and the card's length -/
def yq_D (np sz k len : Nat) (I : Nat → Nat → Int32) : Prop := yq_A np sz I ∧ I k 2 = nI len
theorem yq_Df {np sz k len : Nat} {I J : Nat → Nat → Int32} (hk : 42 ≤ k) (h : yq_D np sz k len I) (g : ∀ a j, yq_o a j → J a j = I a j) : yq_D np sz k len J := ⟨⟨(g 1 0 (Or.inl (by decide))).trans h.1.1, (g 13 4 (by unfold yq_o; omega)).trans h.1.2⟩, (g k 2 (by unfold yq_o; omega)).trans h.2⟩
theorem yq_bgF (I : Nat → Nat → Int32) (np a j : Nat) (h : yq_o a j) : m_X3_begin I np a j = I a j := (z_bgF I np a j (by unfold yq_o at h; omega) (by unfold yq_o at h; omega)).trans (z_cpF I np a j (by unfold yq_o at h; omega))
theorem yq_baF (I : Nat → Nat → Int32) (np a j : Nat) (h : yq_o a j) : m_X3_beginAnew I np a j = I a j := by
  unfold m_X3_beginAnew
  rw [z_up_k _ _ (by unfold yq_o at h; omega)]
  exact z_cpF I np a j (by unfold yq_o at h; omega)
theorem yq_Hba {np sz k len : Nat} {I : Nat → Nat → Int32} (hk : 42 ≤ k) (h : yq_D np sz k len I) : z_H np sz k len (m_X3_beginAnew I np) := by
  refine ⟨?_, (yq_baF I np 13 4 (by unfold yq_o; omega)).trans h.1.2, (yq_baF I np k 2 (by unfold yq_o; omega)).trans h.2⟩
  unfold m_X3_beginAnew
  rw [z_up_j _ _ (by decide)]
  exact z_cp0 I np
def gx_X8_drawn_105 (b : Bool) (I : Nat → Nat → Int32) (L : Nat → Nat → Int64) (np : Nat) (sz : Nat) (sh : Int32) (nm : Int32) (one : Int32) : Nat → Nat → (Nat → Nat → Int32) → Int32 × (Nat → Nat → Int32)
  | 0, t105, Iv => if one = (-1) then ((Iv 18 2), Iv) else ((Iv 25 one.toNatClampNeg), Iv)
  | r105 + 1, t105, Iv => gx_X8_drawn_105 b I L np sz sh nm one r105 (t105 + 1) (m_X3_goThrough b (m_X3_beginAnew Iv np) L (42 + 2 * sh.toNatClampNeg) np sz (I (42 + 2 * sh.toNatClampNeg) 2).toNatClampNeg (nm - nm / 100 * 100).toNatClampNeg 1)
def f_X8_drawn (b : Bool) (I : Nat → Nat → Int32) (L : Nat → Nat → Int64) (np : Nat) (sz : Nat) (seed : Int32) (sh : Int32) (nm : Int32) (one : Int32) : Int32 := if (f_X8_isShelf sh) = 0 then (-1) else if (nm / 100) < 1 then (-1) else if 30 < (nm / 100) then (-1) else if (nm - nm / 100 * 100) < 1 then (-1) else if 20 < (nm - nm / 100 * 100) then (-1) else if one = (-1) then if (f_X8_bytesRefusal I sh) = 0 then (gx_X8_drawn_105 b I L np sz sh nm one ((nm / 100).toNatClampNeg) 0 (z_up (m_X3_begin I np) 19 6 seed)).1 else (f_X8_bytesRefusal I sh) else if (f_X7_has I 1 one) = 0 then (-1) else if (f_X8_bytesRefusal I sh) = 0 then (gx_X8_drawn_105 b I L np sz sh nm one ((nm / 100).toNatClampNeg) 0 (z_up (m_X3_begin I np) 19 6 seed)).1 else (f_X8_bytesRefusal I sh)
def m_X8_drawn (b : Bool) (I : Nat → Nat → Int32) (L : Nat → Nat → Int64) (np : Nat) (sz : Nat) (seed : Int32) (sh : Int32) (nm : Int32) (one : Int32) : Nat → Nat → Int32 := if (f_X8_isShelf sh) = 0 then I else if (nm / 100) < 1 then I else if 30 < (nm / 100) then I else if (nm - nm / 100 * 100) < 1 then I else if 20 < (nm - nm / 100 * 100) then I else if one = (-1) then if (f_X8_bytesRefusal I sh) = 0 then (gx_X8_drawn_105 b I L np sz sh nm one ((nm / 100).toNatClampNeg) 0 (z_up (m_X3_begin I np) 19 6 seed)).2 else I else if (f_X7_has I 1 one) = 0 then I else if (f_X8_bytesRefusal I sh) = 0 then (gx_X8_drawn_105 b I L np sz sh nm one ((nm / 100).toNatClampNeg) 0 (z_up (m_X3_begin I np) 19 6 seed)).2 else I
set_option maxHeartbeats 1000000 in
set_option maxRecDepth 100000 in
theorem c_X8_drawn (d : Nat) (hd : 7 ≤ d) (b : Bool) (I : Nat → Nat → Int32) (L : Nat → Nat → Int64) (np : Nat) (hnp : I 1 0 = nI np) (hn10 : np ≤ 10) (sz : Nat) (hsz : I 13 4 = nI sz) (hs121 : sz ≤ 121) (hsl : ∀ j, j < 6 → I (42 + 2 * j) 2 = nI (I (42 + 2 * j) 2).toNatClampNeg ∧ (I (42 + 2 * j) 2).toNatClampNeg ≤ 60) (seed : Int32) (sh : Int32) (nm : Int32) (one : Int32) : z_CT zm_X8_drawn d [.ref 0, .int seed, .int sh, .int nm, .int one] SH (I, L, z_R b) 0 0 (z_ret (some (.int (f_X8_drawn b I L np sz seed sh nm one))) ((m_X8_drawn b I L np sz seed sh nm one), L, z_R b)) := by
  refine z_enter (by decide +kernel) (Nat.le_of_ble_eq_true rfl) ?_
  have hentry : PW zm_X8_drawn d 0 [(0, .ref 0), (1, .int seed), (2, .int sh), (3, .int nm), (4, .int one)] [] SH (I, L, z_R b) 0 0 (z_ret (some (.int (f_X8_drawn b I L np sz seed sh nm one))) ((m_X8_drawn b I L np sz seed sh nm one), L, z_R b)) := by
    refine p_iload_n (z_dec zd_X8_drawn 0 rfl) rfl 3 rfl (n := 1) rfl ?_
    refine p_bipush (z_dec zd_X8_drawn 1 rfl) (v := 100) (by decide) (n := 3) rfl ?_
    refine p_idiv (z_dec zd_X8_drawn 2 rfl) (by decide) (n := 4) rfl ?_
    refine p_istore (z_dec zd_X8_drawn 3 rfl) (lv2 := [(5, .int (nm / 100)), (0, .ref 0), (1, .int seed), (2, .int sh), (3, .int nm), (4, .int one)]) (by decide) rfl (n := 6) rfl ?_
    refine p_iload_n (z_dec zd_X8_drawn 4 rfl) rfl 4 rfl (n := 7) rfl ?_
    refine p_bipush (z_dec zd_X8_drawn 5 rfl) (v := 100) (by decide) (n := 9) rfl ?_
    refine p_irem (z_dec zd_X8_drawn 6 rfl) (by decide) (n := 10) rfl ?_
    refine p_istore (z_dec zd_X8_drawn 7 rfl) (lv2 := [(6, .int (nm - nm / 100 * 100)), (5, .int (nm / 100)), (0, .ref 0), (1, .int seed), (2, .int sh), (3, .int nm), (4, .int one)]) (by decide) rfl (n := 12) rfl ?_
    refine p_iload_n (z_dec zd_X8_drawn 8 rfl) rfl 4 rfl (n := 13) rfl ?_
    refine q_callS (As := [.int sh]) (rest := []) (z_dec zd_X8_drawn 9 rfl) zk_X8_80 zs_X8_isShelf (c_X8_isShelf (d - 1) (by omega) b I L sh) rfl rfl (Nat.le_of_ble_eq_true rfl) (by omega) (n := 16) rfl ?_
    show PW zm_X8_drawn d 16 [(6, .int (nm - nm / 100 * 100)), (5, .int (nm / 100)), (0, .ref 0), (1, .int seed), (2, .int sh), (3, .int nm), (4, .int one)] [.int (f_X8_isShelf sh)] SH (I, L, z_R b) 0 0 _
    refine p_if_eq (z_dec zd_X8_drawn 10 rfl) (t := 63) (by decide) (n := 19) rfl (fun h16 => ?_) (fun h16 => ?_)
    · refine p_iconst (z_dec zd_X8_drawn 31 rfl) (v := (-1)) (by decide) (n := 64) rfl ?_
      exact p_iret (z_dec zd_X8_drawn 32 rfl) rfl ⟨(by unfold f_X8_drawn; rw [if_pos h16]), rfl, (z_3 (by unfold m_X8_drawn; rw [if_pos h16]) rfl)⟩
    · have hj_sh := z_shc h16
      refine p_iload (z_dec zd_X8_drawn 11 rfl) 1 rfl (n := 21) rfl ?_
      refine p_iconst (z_dec zd_X8_drawn 12 rfl) (v := 1) (by decide) (n := 22) rfl ?_
      refine p_icmp_lt (z_dec zd_X8_drawn 13 rfl) (t := 63) (by decide) (n := 25) rfl (fun h22 => ?_) (fun h22 => ?_)
      · refine p_iconst (z_dec zd_X8_drawn 31 rfl) (v := (-1)) (by decide) (n := 64) rfl ?_
        exact p_iret (z_dec zd_X8_drawn 32 rfl) rfl ⟨(by unfold f_X8_drawn; rw [if_neg h16, if_pos h22]), rfl, (z_3 (by unfold m_X8_drawn; rw [if_neg h16, if_pos h22]) rfl)⟩
      · refine p_iload (z_dec zd_X8_drawn 14 rfl) 1 rfl (n := 27) rfl ?_
        refine p_bipush (z_dec zd_X8_drawn 15 rfl) (v := 30) (by decide) (n := 29) rfl ?_
        refine p_icmp_gt (z_dec zd_X8_drawn 16 rfl) (t := 63) (by decide) (n := 32) rfl (fun h29 => ?_) (fun h29 => ?_)
        · refine p_iconst (z_dec zd_X8_drawn 31 rfl) (v := (-1)) (by decide) (n := 64) rfl ?_
          exact p_iret (z_dec zd_X8_drawn 32 rfl) rfl ⟨(by unfold f_X8_drawn; rw [if_neg h16, if_neg h22, if_pos h29]), rfl, (z_3 (by unfold m_X8_drawn; rw [if_neg h16, if_neg h22, if_pos h29]) rfl)⟩
        · have hnm := yq_in1 (N := 30) h22 h29 (by omega)
          refine p_iload (z_dec zd_X8_drawn 17 rfl) 0 rfl (n := 34) rfl ?_
          refine p_iconst (z_dec zd_X8_drawn 18 rfl) (v := 1) (by decide) (n := 35) rfl ?_
          refine p_icmp_lt (z_dec zd_X8_drawn 19 rfl) (t := 63) (by decide) (n := 38) rfl (fun h35 => ?_) (fun h35 => ?_)
          · refine p_iconst (z_dec zd_X8_drawn 31 rfl) (v := (-1)) (by decide) (n := 64) rfl ?_
            exact p_iret (z_dec zd_X8_drawn 32 rfl) rfl ⟨(by unfold f_X8_drawn; rw [if_neg h16, if_neg h22, if_neg h29, if_pos h35]), rfl, (z_3 (by unfold m_X8_drawn; rw [if_neg h16, if_neg h22, if_neg h29, if_pos h35]) rfl)⟩
          · refine p_iload (z_dec zd_X8_drawn 20 rfl) 0 rfl (n := 40) rfl ?_
            refine p_bipush (z_dec zd_X8_drawn 21 rfl) (v := 20) (by decide) (n := 42) rfl ?_
            refine p_icmp_gt (z_dec zd_X8_drawn 22 rfl) (t := 63) (by decide) (n := 45) rfl (fun h42 => ?_) (fun h42 => ?_)
            · refine p_iconst (z_dec zd_X8_drawn 31 rfl) (v := (-1)) (by decide) (n := 64) rfl ?_
              exact p_iret (z_dec zd_X8_drawn 32 rfl) rfl ⟨(by unfold f_X8_drawn; rw [if_neg h16, if_neg h22, if_neg h29, if_neg h35, if_pos h42]), rfl, (z_3 (by unfold m_X8_drawn; rw [if_neg h16, if_neg h22, if_neg h29, if_neg h35, if_pos h42]) rfl)⟩
            · have hdm := yq_in1 (N := 20) h35 h42 (by omega)
              refine p_iload (z_dec zd_X8_drawn 23 rfl) 6 rfl (n := 47) rfl ?_
              refine p_iconst (z_dec zd_X8_drawn 24 rfl) (v := (-1)) (by decide) (n := 48) rfl ?_
              refine p_icmp_eq (z_dec zd_X8_drawn 25 rfl) (t := 65) (by decide) (n := 51) rfl (fun h48 => ?_) (fun h48 => ?_)
              · refine p_aload_n (z_dec zd_X8_drawn 33 rfl) rfl 2 rfl (n := 66) rfl ?_
                refine p_iload_n (z_dec zd_X8_drawn 34 rfl) rfl 4 rfl (n := 67) rfl ?_
                refine q_callV (As := [.int sh]) (rest := []) (z_dec zd_X8_drawn 35 rfl) zk_X8_142 zv_X8_bytesRefusal (c_X8_bytesRefusal (d - 1) (by omega) b I L sh) rfl ⟨_, _, rfl⟩ rfl rfl (Nat.le_of_ble_eq_true rfl) (by omega) (n := 70) rfl ?_
                show PW zm_X8_drawn d 70 [(6, .int (nm - nm / 100 * 100)), (5, .int (nm / 100)), (0, .ref 0), (1, .int seed), (2, .int sh), (3, .int nm), (4, .int one)] [.int (f_X8_bytesRefusal I sh)] SH (I, L, z_R b) 0 0 _
                refine p_istore (z_dec zd_X8_drawn 36 rfl) (lv2 := [(7, .int (f_X8_bytesRefusal I sh)), (6, .int (nm - nm / 100 * 100)), (5, .int (nm / 100)), (0, .ref 0), (1, .int seed), (2, .int sh), (3, .int nm), (4, .int one)]) (by decide) rfl (n := 72) rfl ?_
                refine p_iload (z_dec zd_X8_drawn 37 rfl) 0 rfl (n := 74) rfl ?_
                refine p_if_eq (z_dec zd_X8_drawn 38 rfl) (t := 80) (by decide) (n := 77) rfl (fun h74 => ?_) (fun h74 => ?_)
                · refine p_aload_n (z_dec zd_X8_drawn 41 rfl) rfl 3 rfl (n := 81) rfl ?_
                  refine q_getR (z_dec zd_X8_drawn 42 rfl) zf_X8_33 (i := 18) rfl rfl (n := 84) rfl ?_
                  refine p_aload_n (z_dec zd_X8_drawn 43 rfl) rfl 3 rfl (n := 85) rfl ?_
                  refine q_getR (z_dec zd_X8_drawn 44 rfl) zf_X8_10 (i := 1) rfl rfl (n := 88) rfl ?_
                  refine q_callV (As := [.ref 1]) (rest := []) (z_dec zd_X8_drawn 45 rfl) zk_X8_146 zv_X3_begin (c_X3_begin (d - 1) (by omega) b I L np ((yq_Ai hnp hsz).1) hn10) rfl ⟨_, _, rfl⟩ rfl rfl (Nat.le_of_ble_eq_true rfl) (by omega) (n := 91) rfl ?_
                  show PW zm_X8_drawn d 91 [(7, .int (f_X8_bytesRefusal I sh)), (6, .int (nm - nm / 100 * 100)), (5, .int (nm / 100)), (0, .ref 0), (1, .int seed), (2, .int sh), (3, .int nm), (4, .int one)] [] SH ((m_X3_begin I np), L, z_R b) 0 0 _
                  have hP91 : yq_D np sz (42 + 2 * sh.toNatClampNeg) (I (42 + 2 * sh.toNatClampNeg) 2).toNatClampNeg ((m_X3_begin I np)) := yq_Df (by omega) ⟨yq_Ai hnp hsz, (hsl _ hj_sh.2).1⟩ (fun a j h => yq_bgF I np a j h)
                  refine p_aload_n (z_dec zd_X8_drawn 46 rfl) rfl 3 rfl (n := 92) rfl ?_
                  refine q_getR (z_dec zd_X8_drawn 47 rfl) zf_X8_33 (i := 18) rfl rfl (n := 95) rfl ?_
                  refine q_getR (z_dec zd_X8_drawn 48 rfl) zf_X8_164 (i := 19) rfl rfl (n := 98) rfl ?_
                  refine p_iload_n (z_dec zd_X8_drawn 49 rfl) rfl 4 rfl (n := 99) rfl ?_
                  refine q_putI (z_dec zd_X8_drawn 50 rfl) zp_X8_226 (fun q => by cases q) rfl (n := 102) rfl ?_
                  have hP102 : yq_D np sz (42 + 2 * sh.toNatClampNeg) (I (42 + 2 * sh.toNatClampNeg) 2).toNatClampNeg ((z_up (m_X3_begin I np) 19 6 seed)) := yq_Df (by omega) hP91 (fun a j h => z_up_k _ _ (by unfold yq_o at h; omega))
                  refine p_iconst (z_dec zd_X8_drawn 51 rfl) (v := 0) (by decide) (n := 103) rfl ?_
                  refine p_istore (z_dec zd_X8_drawn 52 rfl) (lv2 := [(8, .int 0), (7, .int (f_X8_bytesRefusal I sh)), (6, .int (nm - nm / 100 * 100)), (5, .int (nm / 100)), (0, .ref 0), (1, .int seed), (2, .int sh), (3, .int nm), (4, .int one)]) (by decide) rfl (n := 105) rfl ?_
                  have hL105 : ∀ (r105 t105 : Nat) (Iv : Nat → Nat → Int32), t105 + r105 = (nm / 100).toNatClampNeg → yq_D np sz (42 + 2 * sh.toNatClampNeg) (I (42 + 2 * sh.toNatClampNeg) 2).toNatClampNeg Iv → PW zm_X8_drawn d 105 [(8, .int (nI t105)), (7, .int (f_X8_bytesRefusal I sh)), (6, .int (nm - nm / 100 * 100)), (5, .int (nm / 100)), (0, .ref 0), (1, .int seed), (2, .int sh), (3, .int nm), (4, .int one)] [] SH (Iv, L, z_R b) 0 0 (z_ret (some (.int (gx_X8_drawn_105 b I L np sz sh nm one r105 t105 Iv).1)) ((gx_X8_drawn_105 b I L np sz sh nm one r105 t105 Iv).2, L, z_R b)) := by
                    intro r105
                    induction r105 with
                    | zero =>
                      intro t105 Iv ht105 hlo
                      refine p_iload (z_dec zd_X8_drawn 53 rfl) 0 rfl (n := 107) rfl ?_
                      refine p_iload (z_dec zd_X8_drawn 54 rfl) 3 rfl (n := 109) rfl ?_
                      refine p_icmp_ge (z_dec zd_X8_drawn 55 rfl) (t := 149) (by decide) (n := 112) rfl (fun h109 => ?_) (fun h109 => ?_)
                      · refine p_iload (z_dec zd_X8_drawn 74 rfl) 8 rfl (n := 151) rfl ?_
                        refine p_iconst (z_dec zd_X8_drawn 75 rfl) (v := (-1)) (by decide) (n := 152) rfl ?_
                        refine p_icmp_ne (z_dec zd_X8_drawn 76 rfl) (t := 165) (by decide) (n := 155) rfl (fun h152 => ?_) (fun h152 => ?_)
                        · refine p_aload_n (z_dec zd_X8_drawn 81 rfl) rfl 4 rfl (n := 166) rfl ?_
                          refine q_getR (z_dec zd_X8_drawn 82 rfl) zf_X8_33 (i := 18) rfl rfl (n := 169) rfl ?_
                          refine q_getR (z_dec zd_X8_drawn 83 rfl) zf_X8_232 (i := 25) rfl rfl (n := 172) rfl ?_
                          refine p_iload (z_dec zd_X8_drawn 84 rfl) 8 rfl (n := 174) rfl ?_
                          refine q_iald (z_dec zd_X8_drawn 85 rfl) rfl (by decide) (one.toNatClampNeg) (absurd h48 h152) (absurd h48 h152) (v := (Iv 25 one.toNatClampNeg)) rfl (n := 175) rfl ?_
                          exact p_iret (z_dec zd_X8_drawn 86 rfl) rfl ⟨(by (conv => rhs; unfold gx_X8_drawn_105); rw [if_neg h152]), rfl, (z_3 (by (conv => rhs; unfold gx_X8_drawn_105); rw [if_neg h152]) rfl)⟩
                        · refine p_aload_n (z_dec zd_X8_drawn 77 rfl) rfl 4 rfl (n := 156) rfl ?_
                          refine q_getR (z_dec zd_X8_drawn 78 rfl) zf_X8_33 (i := 18) rfl rfl (n := 159) rfl ?_
                          refine q_getI (z_dec zd_X8_drawn 79 rfl) zf_X8_154 (by decide) rfl (v := (Iv 18 2)) rfl (n := 162) rfl ?_
                          refine p_goto (z_dec zd_X8_drawn 80 rfl) (t := 175) (by decide) ?_
                          exact p_iret (z_dec zd_X8_drawn 86 rfl) rfl ⟨(by (conv => rhs; unfold gx_X8_drawn_105); rw [if_pos h152]), rfl, (z_3 (by (conv => rhs; unfold gx_X8_drawn_105); rw [if_pos h152]) rfl)⟩
                      · exact absurd ((by have := z_nge (a := (nm / 100).toNatClampNeg) (b := t105) (by rw [← hnm.1]; exact h109); exact this)) (by omega)
                    | succ r105 ih105 =>
                      intro t105 Iv ht105 hlo
                      refine p_iload (z_dec zd_X8_drawn 53 rfl) 0 rfl (n := 107) rfl ?_
                      refine p_iload (z_dec zd_X8_drawn 54 rfl) 3 rfl (n := 109) rfl ?_
                      refine p_icmp_ge (z_dec zd_X8_drawn 55 rfl) (t := 149) (by decide) (n := 112) rfl (fun h109 => ?_) (fun h109 => ?_)
                      · exact absurd ((by have := z_ge (a := (nm / 100).toNatClampNeg) (b := t105) (by rw [← hnm.1]; exact h109); exact this)) (by omega)
                      · have hx105 : t105 < (nm / 100).toNatClampNeg := by omega
                        refine p_aload_n (z_dec zd_X8_drawn 56 rfl) rfl 4 rfl (n := 113) rfl ?_
                        refine q_getR (z_dec zd_X8_drawn 57 rfl) zf_X8_33 (i := 18) rfl rfl (n := 116) rfl ?_
                        refine p_aload_n (z_dec zd_X8_drawn 58 rfl) rfl 4 rfl (n := 117) rfl ?_
                        refine q_getR (z_dec zd_X8_drawn 59 rfl) zf_X8_10 (i := 1) rfl rfl (n := 120) rfl ?_
                        refine q_callV (As := [.ref 1]) (rest := []) (z_dec zd_X8_drawn 60 rfl) zk_X8_229 zv_X3_beginAnew (c_X3_beginAnew (d - 1) (by omega) b Iv L np hlo.1.1 hn10) rfl ⟨_, _, rfl⟩ rfl rfl (Nat.le_of_ble_eq_true rfl) (by omega) (n := 123) rfl ?_
                        show PW zm_X8_drawn d 123 [(8, .int (nI t105)), (7, .int (f_X8_bytesRefusal I sh)), (6, .int (nm - nm / 100 * 100)), (5, .int (nm / 100)), (0, .ref 0), (1, .int seed), (2, .int sh), (3, .int nm), (4, .int one)] [] SH ((m_X3_beginAnew Iv np), L, z_R b) 0 0 _
                        have hP123 : yq_D np sz (42 + 2 * sh.toNatClampNeg) (I (42 + 2 * sh.toNatClampNeg) 2).toNatClampNeg ((m_X3_beginAnew Iv np)) := yq_Df (by omega) hlo (fun a j h => yq_baF Iv np a j h)
                        refine p_aload_n (z_dec zd_X8_drawn 61 rfl) rfl 4 rfl (n := 124) rfl ?_
                        refine q_getR (z_dec zd_X8_drawn 62 rfl) zf_X8_33 (i := 18) rfl rfl (n := 127) rfl ?_
                        refine p_iload (z_dec zd_X8_drawn 63 rfl) 2 rfl (n := 129) rfl ?_
                        refine p_aload_n (z_dec zd_X8_drawn 64 rfl) rfl 4 rfl (n := 130) rfl ?_
                        refine q_getR (z_dec zd_X8_drawn 65 rfl) zf_X8_67 (i := 41) rfl rfl (n := 133) rfl ?_
                        refine p_iload_n (z_dec zd_X8_drawn 66 rfl) rfl 6 rfl (n := 134) rfl ?_
                        refine q_aald (z_dec zd_X8_drawn 67 rfl) rfl (by decide) (sh.toNatClampNeg) hj_sh.1 hj_sh.2 (a := (42 + 2 * sh.toNatClampNeg)) (if_pos hj_sh.2) (n := 135) rfl ?_
                        refine p_aload_n (z_dec zd_X8_drawn 68 rfl) rfl 4 rfl (n := 136) rfl ?_
                        refine q_getR (z_dec zd_X8_drawn 69 rfl) zf_X8_26 (i := 13) rfl rfl (n := 139) rfl ?_
                        refine p_iconst (z_dec zd_X8_drawn 70 rfl) (v := 1) (by decide) (n := 140) rfl ?_
                        refine q_callV (As := [.int (nI (nm - nm / 100 * 100).toNatClampNeg), .ref (42 + 2 * sh.toNatClampNeg), .ref 13, .int 1]) (rest := []) (z_dec zd_X8_drawn 71 rfl) zk_X8_160 zv_X3_goThrough (c_X3_goThrough (d - 1) (by omega) b (m_X3_beginAnew Iv np) L (42 + 2 * sh.toNatClampNeg) (z_SfOf b _ hj_sh.2) (by omega) np hn10 sz hs121 (I (42 + 2 * sh.toNatClampNeg) 2).toNatClampNeg (hsl _ hj_sh.2).2 (yq_Hba (by omega) hlo) (nm - nm / 100 * 100).toNatClampNeg (by omega) 1) rfl ⟨_, _, rfl⟩ (by simp only [← hdm.1]; rfl) rfl (Nat.le_of_ble_eq_true rfl) (by omega) (n := 143) rfl ?_
                        show PW zm_X8_drawn d 143 [(8, .int (nI t105)), (7, .int (f_X8_bytesRefusal I sh)), (6, .int (nm - nm / 100 * 100)), (5, .int (nm / 100)), (0, .ref 0), (1, .int seed), (2, .int sh), (3, .int nm), (4, .int one)] [] SH ((m_X3_goThrough b (m_X3_beginAnew Iv np) L (42 + 2 * sh.toNatClampNeg) np sz (I (42 + 2 * sh.toNatClampNeg) 2).toNatClampNeg (nm - nm / 100 * 100).toNatClampNeg 1), L, z_R b) 0 0 _
                        have hP143 : yq_D np sz (42 + 2 * sh.toNatClampNeg) (I (42 + 2 * sh.toNatClampNeg) 2).toNatClampNeg ((m_X3_goThrough b (m_X3_beginAnew Iv np) L (42 + 2 * sh.toNatClampNeg) np sz (I (42 + 2 * sh.toNatClampNeg) 2).toNatClampNeg (nm - nm / 100 * 100).toNatClampNeg 1)) := yq_Df (by omega) hP123 (fun a j h => yq_gtF h b L _ _ _ _ _ _ _ _)
                        refine p_iinc (z_dec zd_X8_drawn 72 rfl) 0 rfl (v := (nI (t105 + 1))) (nI_1 _) (lv2 := [(8, .int (nI (t105 + 1))), (7, .int (f_X8_bytesRefusal I sh)), (6, .int (nm - nm / 100 * 100)), (5, .int (nm / 100)), (0, .ref 0), (1, .int seed), (2, .int sh), (3, .int nm), (4, .int one)]) (by decide) rfl (n := 146) rfl ?_
                        refine p_goto (z_dec zd_X8_drawn 73 rfl) (t := 105) (by decide) ?_
                        rw [show gx_X8_drawn_105 b I L np sz sh nm one (r105 + 1) t105 Iv = gx_X8_drawn_105 b I L np sz sh nm one r105 (t105 + 1) (m_X3_goThrough b (m_X3_beginAnew Iv np) L (42 + 2 * sh.toNatClampNeg) np sz (I (42 + 2 * sh.toNatClampNeg) 2).toNatClampNeg (nm - nm / 100 * 100).toNatClampNeg 1) from by rfl]
                        exact ih105 (t105 + 1) (m_X3_goThrough b (m_X3_beginAnew Iv np) L (42 + 2 * sh.toNatClampNeg) np sz (I (42 + 2 * sh.toNatClampNeg) 2).toNatClampNeg (nm - nm / 100 * 100).toNatClampNeg 1) (by omega) hP143
                  exact (by have q := (hL105 ((nm / 100).toNatClampNeg) 0 (z_up (m_X3_begin I np) 19 6 seed) (by omega) hP102); (rw [show f_X8_drawn b I L np sz seed sh nm one = _ from by unfold f_X8_drawn; rw [if_neg h16, if_neg h22, if_neg h29, if_neg h35, if_neg h42, if_pos h48, if_pos h74]]); (rw [show m_X8_drawn b I L np sz seed sh nm one = _ from by unfold m_X8_drawn; rw [if_neg h16, if_neg h22, if_neg h29, if_neg h35, if_neg h42, if_pos h48, if_pos h74]]); exact q)
                · refine p_iload (z_dec zd_X8_drawn 39 rfl) 0 rfl (n := 79) rfl ?_
                  exact p_iret (z_dec zd_X8_drawn 40 rfl) rfl ⟨(by unfold f_X8_drawn; rw [if_neg h16, if_neg h22, if_neg h29, if_neg h35, if_neg h42, if_pos h48, if_neg h74]), rfl, (z_3 (by unfold m_X8_drawn; rw [if_neg h16, if_neg h22, if_neg h29, if_neg h35, if_neg h42, if_pos h48, if_neg h74]) rfl)⟩
              · refine p_aload_n (z_dec zd_X8_drawn 26 rfl) rfl 2 rfl (n := 52) rfl ?_
                refine q_getR (z_dec zd_X8_drawn 27 rfl) zf_X8_10 (i := 1) rfl rfl (n := 55) rfl ?_
                refine p_iload (z_dec zd_X8_drawn 28 rfl) 6 rfl (n := 57) rfl ?_
                refine q_callV (As := [.int one]) (rest := []) (z_dec zd_X8_drawn 29 rfl) zk_X8_133 zv_X7_has (c_X7_has (d - 1) (by omega) b I L 1 (z_Yd1 b) one) rfl ⟨_, _, rfl⟩ rfl rfl (Nat.le_of_ble_eq_true rfl) (by omega) (n := 60) rfl ?_
                show PW zm_X8_drawn d 60 [(6, .int (nm - nm / 100 * 100)), (5, .int (nm / 100)), (0, .ref 0), (1, .int seed), (2, .int sh), (3, .int nm), (4, .int one)] [.int (f_X7_has I 1 one)] SH (I, L, z_R b) 0 0 _
                refine p_if_ne (z_dec zd_X8_drawn 30 rfl) (t := 65) (by decide) (n := 63) rfl (fun h60 => ?_) (fun h60 => ?_)
                · have ho := z_has hnp hn10 h60
                  refine p_aload_n (z_dec zd_X8_drawn 33 rfl) rfl 2 rfl (n := 66) rfl ?_
                  refine p_iload_n (z_dec zd_X8_drawn 34 rfl) rfl 4 rfl (n := 67) rfl ?_
                  refine q_callV (As := [.int sh]) (rest := []) (z_dec zd_X8_drawn 35 rfl) zk_X8_142 zv_X8_bytesRefusal (c_X8_bytesRefusal (d - 1) (by omega) b I L sh) rfl ⟨_, _, rfl⟩ rfl rfl (Nat.le_of_ble_eq_true rfl) (by omega) (n := 70) rfl ?_
                  show PW zm_X8_drawn d 70 [(6, .int (nm - nm / 100 * 100)), (5, .int (nm / 100)), (0, .ref 0), (1, .int seed), (2, .int sh), (3, .int nm), (4, .int one)] [.int (f_X8_bytesRefusal I sh)] SH (I, L, z_R b) 0 0 _
                  refine p_istore (z_dec zd_X8_drawn 36 rfl) (lv2 := [(7, .int (f_X8_bytesRefusal I sh)), (6, .int (nm - nm / 100 * 100)), (5, .int (nm / 100)), (0, .ref 0), (1, .int seed), (2, .int sh), (3, .int nm), (4, .int one)]) (by decide) rfl (n := 72) rfl ?_
                  refine p_iload (z_dec zd_X8_drawn 37 rfl) 0 rfl (n := 74) rfl ?_
                  refine p_if_eq (z_dec zd_X8_drawn 38 rfl) (t := 80) (by decide) (n := 77) rfl (fun h74 => ?_) (fun h74 => ?_)
                  · refine p_aload_n (z_dec zd_X8_drawn 41 rfl) rfl 3 rfl (n := 81) rfl ?_
                    refine q_getR (z_dec zd_X8_drawn 42 rfl) zf_X8_33 (i := 18) rfl rfl (n := 84) rfl ?_
                    refine p_aload_n (z_dec zd_X8_drawn 43 rfl) rfl 3 rfl (n := 85) rfl ?_
                    refine q_getR (z_dec zd_X8_drawn 44 rfl) zf_X8_10 (i := 1) rfl rfl (n := 88) rfl ?_
                    refine q_callV (As := [.ref 1]) (rest := []) (z_dec zd_X8_drawn 45 rfl) zk_X8_146 zv_X3_begin (c_X3_begin (d - 1) (by omega) b I L np ((yq_Ai hnp hsz).1) hn10) rfl ⟨_, _, rfl⟩ rfl rfl (Nat.le_of_ble_eq_true rfl) (by omega) (n := 91) rfl ?_
                    show PW zm_X8_drawn d 91 [(7, .int (f_X8_bytesRefusal I sh)), (6, .int (nm - nm / 100 * 100)), (5, .int (nm / 100)), (0, .ref 0), (1, .int seed), (2, .int sh), (3, .int nm), (4, .int one)] [] SH ((m_X3_begin I np), L, z_R b) 0 0 _
                    have hP91 : yq_D np sz (42 + 2 * sh.toNatClampNeg) (I (42 + 2 * sh.toNatClampNeg) 2).toNatClampNeg ((m_X3_begin I np)) := yq_Df (by omega) ⟨yq_Ai hnp hsz, (hsl _ hj_sh.2).1⟩ (fun a j h => yq_bgF I np a j h)
                    refine p_aload_n (z_dec zd_X8_drawn 46 rfl) rfl 3 rfl (n := 92) rfl ?_
                    refine q_getR (z_dec zd_X8_drawn 47 rfl) zf_X8_33 (i := 18) rfl rfl (n := 95) rfl ?_
                    refine q_getR (z_dec zd_X8_drawn 48 rfl) zf_X8_164 (i := 19) rfl rfl (n := 98) rfl ?_
                    refine p_iload_n (z_dec zd_X8_drawn 49 rfl) rfl 4 rfl (n := 99) rfl ?_
                    refine q_putI (z_dec zd_X8_drawn 50 rfl) zp_X8_226 (fun q => by cases q) rfl (n := 102) rfl ?_
                    have hP102 : yq_D np sz (42 + 2 * sh.toNatClampNeg) (I (42 + 2 * sh.toNatClampNeg) 2).toNatClampNeg ((z_up (m_X3_begin I np) 19 6 seed)) := yq_Df (by omega) hP91 (fun a j h => z_up_k _ _ (by unfold yq_o at h; omega))
                    refine p_iconst (z_dec zd_X8_drawn 51 rfl) (v := 0) (by decide) (n := 103) rfl ?_
                    refine p_istore (z_dec zd_X8_drawn 52 rfl) (lv2 := [(8, .int 0), (7, .int (f_X8_bytesRefusal I sh)), (6, .int (nm - nm / 100 * 100)), (5, .int (nm / 100)), (0, .ref 0), (1, .int seed), (2, .int sh), (3, .int nm), (4, .int one)]) (by decide) rfl (n := 105) rfl ?_
                    have hL105 : ∀ (r105 t105 : Nat) (Iv : Nat → Nat → Int32), t105 + r105 = (nm / 100).toNatClampNeg → yq_D np sz (42 + 2 * sh.toNatClampNeg) (I (42 + 2 * sh.toNatClampNeg) 2).toNatClampNeg Iv → PW zm_X8_drawn d 105 [(8, .int (nI t105)), (7, .int (f_X8_bytesRefusal I sh)), (6, .int (nm - nm / 100 * 100)), (5, .int (nm / 100)), (0, .ref 0), (1, .int seed), (2, .int sh), (3, .int nm), (4, .int one)] [] SH (Iv, L, z_R b) 0 0 (z_ret (some (.int (gx_X8_drawn_105 b I L np sz sh nm one r105 t105 Iv).1)) ((gx_X8_drawn_105 b I L np sz sh nm one r105 t105 Iv).2, L, z_R b)) := by
                      intro r105
                      induction r105 with
                      | zero =>
                        intro t105 Iv ht105 hlo
                        refine p_iload (z_dec zd_X8_drawn 53 rfl) 0 rfl (n := 107) rfl ?_
                        refine p_iload (z_dec zd_X8_drawn 54 rfl) 3 rfl (n := 109) rfl ?_
                        refine p_icmp_ge (z_dec zd_X8_drawn 55 rfl) (t := 149) (by decide) (n := 112) rfl (fun h109 => ?_) (fun h109 => ?_)
                        · refine p_iload (z_dec zd_X8_drawn 74 rfl) 8 rfl (n := 151) rfl ?_
                          refine p_iconst (z_dec zd_X8_drawn 75 rfl) (v := (-1)) (by decide) (n := 152) rfl ?_
                          refine p_icmp_ne (z_dec zd_X8_drawn 76 rfl) (t := 165) (by decide) (n := 155) rfl (fun h152 => ?_) (fun h152 => ?_)
                          · refine p_aload_n (z_dec zd_X8_drawn 81 rfl) rfl 4 rfl (n := 166) rfl ?_
                            refine q_getR (z_dec zd_X8_drawn 82 rfl) zf_X8_33 (i := 18) rfl rfl (n := 169) rfl ?_
                            refine q_getR (z_dec zd_X8_drawn 83 rfl) zf_X8_232 (i := 25) rfl rfl (n := 172) rfl ?_
                            refine p_iload (z_dec zd_X8_drawn 84 rfl) 8 rfl (n := 174) rfl ?_
                            refine q_iald (z_dec zd_X8_drawn 85 rfl) rfl (by decide) (one.toNatClampNeg) ho.1 (Nat.lt_of_lt_of_le ho.2 hn10) (v := (Iv 25 one.toNatClampNeg)) rfl (n := 175) rfl ?_
                            exact p_iret (z_dec zd_X8_drawn 86 rfl) rfl ⟨(by (conv => rhs; unfold gx_X8_drawn_105); rw [if_neg h152]), rfl, (z_3 (by (conv => rhs; unfold gx_X8_drawn_105); rw [if_neg h152]) rfl)⟩
                          · refine p_aload_n (z_dec zd_X8_drawn 77 rfl) rfl 4 rfl (n := 156) rfl ?_
                            refine q_getR (z_dec zd_X8_drawn 78 rfl) zf_X8_33 (i := 18) rfl rfl (n := 159) rfl ?_
                            refine q_getI (z_dec zd_X8_drawn 79 rfl) zf_X8_154 (by decide) rfl (v := (Iv 18 2)) rfl (n := 162) rfl ?_
                            refine p_goto (z_dec zd_X8_drawn 80 rfl) (t := 175) (by decide) ?_
                            exact p_iret (z_dec zd_X8_drawn 86 rfl) rfl ⟨(by (conv => rhs; unfold gx_X8_drawn_105); rw [if_pos h152]), rfl, (z_3 (by (conv => rhs; unfold gx_X8_drawn_105); rw [if_pos h152]) rfl)⟩
                        · exact absurd ((by have := z_nge (a := (nm / 100).toNatClampNeg) (b := t105) (by rw [← hnm.1]; exact h109); exact this)) (by omega)
                      | succ r105 ih105 =>
                        intro t105 Iv ht105 hlo
                        refine p_iload (z_dec zd_X8_drawn 53 rfl) 0 rfl (n := 107) rfl ?_
                        refine p_iload (z_dec zd_X8_drawn 54 rfl) 3 rfl (n := 109) rfl ?_
                        refine p_icmp_ge (z_dec zd_X8_drawn 55 rfl) (t := 149) (by decide) (n := 112) rfl (fun h109 => ?_) (fun h109 => ?_)
                        · exact absurd ((by have := z_ge (a := (nm / 100).toNatClampNeg) (b := t105) (by rw [← hnm.1]; exact h109); exact this)) (by omega)
                        · have hx105 : t105 < (nm / 100).toNatClampNeg := by omega
                          refine p_aload_n (z_dec zd_X8_drawn 56 rfl) rfl 4 rfl (n := 113) rfl ?_
                          refine q_getR (z_dec zd_X8_drawn 57 rfl) zf_X8_33 (i := 18) rfl rfl (n := 116) rfl ?_
                          refine p_aload_n (z_dec zd_X8_drawn 58 rfl) rfl 4 rfl (n := 117) rfl ?_
                          refine q_getR (z_dec zd_X8_drawn 59 rfl) zf_X8_10 (i := 1) rfl rfl (n := 120) rfl ?_
                          refine q_callV (As := [.ref 1]) (rest := []) (z_dec zd_X8_drawn 60 rfl) zk_X8_229 zv_X3_beginAnew (c_X3_beginAnew (d - 1) (by omega) b Iv L np hlo.1.1 hn10) rfl ⟨_, _, rfl⟩ rfl rfl (Nat.le_of_ble_eq_true rfl) (by omega) (n := 123) rfl ?_
                          show PW zm_X8_drawn d 123 [(8, .int (nI t105)), (7, .int (f_X8_bytesRefusal I sh)), (6, .int (nm - nm / 100 * 100)), (5, .int (nm / 100)), (0, .ref 0), (1, .int seed), (2, .int sh), (3, .int nm), (4, .int one)] [] SH ((m_X3_beginAnew Iv np), L, z_R b) 0 0 _
                          have hP123 : yq_D np sz (42 + 2 * sh.toNatClampNeg) (I (42 + 2 * sh.toNatClampNeg) 2).toNatClampNeg ((m_X3_beginAnew Iv np)) := yq_Df (by omega) hlo (fun a j h => yq_baF Iv np a j h)
                          refine p_aload_n (z_dec zd_X8_drawn 61 rfl) rfl 4 rfl (n := 124) rfl ?_
                          refine q_getR (z_dec zd_X8_drawn 62 rfl) zf_X8_33 (i := 18) rfl rfl (n := 127) rfl ?_
                          refine p_iload (z_dec zd_X8_drawn 63 rfl) 2 rfl (n := 129) rfl ?_
                          refine p_aload_n (z_dec zd_X8_drawn 64 rfl) rfl 4 rfl (n := 130) rfl ?_
                          refine q_getR (z_dec zd_X8_drawn 65 rfl) zf_X8_67 (i := 41) rfl rfl (n := 133) rfl ?_
                          refine p_iload_n (z_dec zd_X8_drawn 66 rfl) rfl 6 rfl (n := 134) rfl ?_
                          refine q_aald (z_dec zd_X8_drawn 67 rfl) rfl (by decide) (sh.toNatClampNeg) hj_sh.1 hj_sh.2 (a := (42 + 2 * sh.toNatClampNeg)) (if_pos hj_sh.2) (n := 135) rfl ?_
                          refine p_aload_n (z_dec zd_X8_drawn 68 rfl) rfl 4 rfl (n := 136) rfl ?_
                          refine q_getR (z_dec zd_X8_drawn 69 rfl) zf_X8_26 (i := 13) rfl rfl (n := 139) rfl ?_
                          refine p_iconst (z_dec zd_X8_drawn 70 rfl) (v := 1) (by decide) (n := 140) rfl ?_
                          refine q_callV (As := [.int (nI (nm - nm / 100 * 100).toNatClampNeg), .ref (42 + 2 * sh.toNatClampNeg), .ref 13, .int 1]) (rest := []) (z_dec zd_X8_drawn 71 rfl) zk_X8_160 zv_X3_goThrough (c_X3_goThrough (d - 1) (by omega) b (m_X3_beginAnew Iv np) L (42 + 2 * sh.toNatClampNeg) (z_SfOf b _ hj_sh.2) (by omega) np hn10 sz hs121 (I (42 + 2 * sh.toNatClampNeg) 2).toNatClampNeg (hsl _ hj_sh.2).2 (yq_Hba (by omega) hlo) (nm - nm / 100 * 100).toNatClampNeg (by omega) 1) rfl ⟨_, _, rfl⟩ (by simp only [← hdm.1]; rfl) rfl (Nat.le_of_ble_eq_true rfl) (by omega) (n := 143) rfl ?_
                          show PW zm_X8_drawn d 143 [(8, .int (nI t105)), (7, .int (f_X8_bytesRefusal I sh)), (6, .int (nm - nm / 100 * 100)), (5, .int (nm / 100)), (0, .ref 0), (1, .int seed), (2, .int sh), (3, .int nm), (4, .int one)] [] SH ((m_X3_goThrough b (m_X3_beginAnew Iv np) L (42 + 2 * sh.toNatClampNeg) np sz (I (42 + 2 * sh.toNatClampNeg) 2).toNatClampNeg (nm - nm / 100 * 100).toNatClampNeg 1), L, z_R b) 0 0 _
                          have hP143 : yq_D np sz (42 + 2 * sh.toNatClampNeg) (I (42 + 2 * sh.toNatClampNeg) 2).toNatClampNeg ((m_X3_goThrough b (m_X3_beginAnew Iv np) L (42 + 2 * sh.toNatClampNeg) np sz (I (42 + 2 * sh.toNatClampNeg) 2).toNatClampNeg (nm - nm / 100 * 100).toNatClampNeg 1)) := yq_Df (by omega) hP123 (fun a j h => yq_gtF h b L _ _ _ _ _ _ _ _)
                          refine p_iinc (z_dec zd_X8_drawn 72 rfl) 0 rfl (v := (nI (t105 + 1))) (nI_1 _) (lv2 := [(8, .int (nI (t105 + 1))), (7, .int (f_X8_bytesRefusal I sh)), (6, .int (nm - nm / 100 * 100)), (5, .int (nm / 100)), (0, .ref 0), (1, .int seed), (2, .int sh), (3, .int nm), (4, .int one)]) (by decide) rfl (n := 146) rfl ?_
                          refine p_goto (z_dec zd_X8_drawn 73 rfl) (t := 105) (by decide) ?_
                          rw [show gx_X8_drawn_105 b I L np sz sh nm one (r105 + 1) t105 Iv = gx_X8_drawn_105 b I L np sz sh nm one r105 (t105 + 1) (m_X3_goThrough b (m_X3_beginAnew Iv np) L (42 + 2 * sh.toNatClampNeg) np sz (I (42 + 2 * sh.toNatClampNeg) 2).toNatClampNeg (nm - nm / 100 * 100).toNatClampNeg 1) from by rfl]
                          exact ih105 (t105 + 1) (m_X3_goThrough b (m_X3_beginAnew Iv np) L (42 + 2 * sh.toNatClampNeg) np sz (I (42 + 2 * sh.toNatClampNeg) 2).toNatClampNeg (nm - nm / 100 * 100).toNatClampNeg 1) (by omega) hP143
                    exact (by have q := (hL105 ((nm / 100).toNatClampNeg) 0 (z_up (m_X3_begin I np) 19 6 seed) (by omega) hP102); (rw [show f_X8_drawn b I L np sz seed sh nm one = _ from by unfold f_X8_drawn; rw [if_neg h16, if_neg h22, if_neg h29, if_neg h35, if_neg h42, if_neg h48, if_neg h60, if_pos h74]]); (rw [show m_X8_drawn b I L np sz seed sh nm one = _ from by unfold m_X8_drawn; rw [if_neg h16, if_neg h22, if_neg h29, if_neg h35, if_neg h42, if_neg h48, if_neg h60, if_pos h74]]); exact q)
                  · refine p_iload (z_dec zd_X8_drawn 39 rfl) 0 rfl (n := 79) rfl ?_
                    exact p_iret (z_dec zd_X8_drawn 40 rfl) rfl ⟨(by unfold f_X8_drawn; rw [if_neg h16, if_neg h22, if_neg h29, if_neg h35, if_neg h42, if_neg h48, if_neg h60, if_neg h74]), rfl, (z_3 (by unfold m_X8_drawn; rw [if_neg h16, if_neg h22, if_neg h29, if_neg h35, if_neg h42, if_neg h48, if_neg h60, if_neg h74]) rfl)⟩
                · refine p_iconst (z_dec zd_X8_drawn 31 rfl) (v := (-1)) (by decide) (n := 64) rfl ?_
                  exact p_iret (z_dec zd_X8_drawn 32 rfl) rfl ⟨(by unfold f_X8_drawn; rw [if_neg h16, if_neg h22, if_neg h29, if_neg h35, if_neg h42, if_neg h48, if_pos h60]), rfl, (z_3 (by unfold m_X8_drawn; rw [if_neg h16, if_neg h22, if_neg h29, if_neg h35, if_neg h42, if_neg h48, if_pos h60]) rfl)⟩
  exact hentry
