theorem z_sg {x c : Int32} (h : x = c) (hc : ¬ c = -1) : ¬ x = -1 := fun q => hc (h.symm.trans q)
theorem z_gxN (b : Bool) : ∀ (r t : Nat) (v : Int32) (Iv : Nat → Nat → Int32), z_P Iv → z_P (gx_X1_readNumber_4 b r t v Iv)
  | 0, t, v, Iv, h => z_P_wr h _
  | r + 1, t, v, Iv, h => by
    unfold gx_X1_readNumber_4
    split
    · exact z_P_wr h _
    · rename_i h1
      exact z_gxN b r (t + 1) _ _ (z_P_av h (z_dig h1))
theorem z_P_rn {b : Bool} {I : Nat → Nat → Int32} (h : z_P I) : z_P (m_X1_readNumber b I) := z_gxN b 4 0 0 I h
theorem z_gxP (b : Bool) (FL : Nat → Nat → (Nat → Nat → Int32) → Int32 × (Nat → Nat → Int32)) (lv op : Nat) (hl : lv ≤ 4) (hPL : ∀ (lv op : Nat) (J : Nat → Nat → Int32), lv ≤ 5 → z_P J → z_P (FL lv op J).2) : ∀ (r t : Nat) (Iv : Nat → Nat → Int32), z_P Iv → z_P (gx_X1_readLevel_26 b FL lv op r t Iv).2
  | 0, t, Iv, h => h
  | r + 1, t, Iv, h => by
    unfold gx_X1_readLevel_26
    split
    · rename_i h1
      have ha := z_P_av h (z_lev (by omega) h1)
      have hf := hPL (lv + 1) op _ (by omega) ha
      split
      · exact hf
      · split
        · exact z_P_wr hf _
        · exact z_gxP b FL lv op hl hPL r (t + 1) _ (z_P_wr hf _)
    · exact h
theorem z_P_rl {b : Bool} {I : Nat → Nat → Int32} {FL : Nat → Nat → (Nat → Nat → Int32) → Int32 × (Nat → Nat → Int32)} {FO : Nat → (Nat → Nat → Int32) → Int32 × (Nat → Nat → Int32)} {lv op : Nat} (hl5 : lv ≤ 5) (h : z_P I) (hPL : ∀ (lv op : Nat) (J : Nat → Nat → Int32), lv ≤ 5 → z_P J → z_P (FL lv op J).2) (hPO : ∀ (op : Nat) (J : Nat → Nat → Int32), z_P J → z_P (FO op J).2) : z_P (m_X1_readLevel b I FL FO lv op) := by
  unfold m_X1_readLevel
  split
  · rename_i h1
    have hl4 : lv ≤ 4 := z_ge (b := 4) h1
    have hf := hPL (lv + 1) op I (by omega) h
    split
    · exact hf
    · exact z_gxP b FL lv op hl4 hPL 120 0 _ hf
  · exact hPO _ _ h
set_option maxHeartbeats 4000000 in
theorem z_P_ro {b : Bool} {I : Nat → Nat → Int32} {FL : Nat → Nat → (Nat → Nat → Int32) → Int32 × (Nat → Nat → Int32)} {FO : Nat → (Nat → Nat → Int32) → Int32 × (Nat → Nat → Int32)} {op : Nat} (h : z_P I) (hPL : ∀ (lv op : Nat) (J : Nat → Nat → Int32), lv ≤ 5 → z_P J → z_P (FL lv op J).2) (hPO : ∀ (op : Nat) (J : Nat → Nat → Int32), z_P J → z_P (FO op J).2) : z_P (m_X1_readOperand b I FL FO op) := by
  unfold m_X1_readOperand
  repeat' split
  all_goals first
    | exact h
    | exact z_P_rn h
    | exact z_P_wr (z_P_av h (z_nam (by assumption))) _
    | (have hav : z_P (z_av I) := by first | exact z_P_av h (z_sg (c := 40) (by assumption) (by decide)) | exact z_P_av h (z_sg (c := 33) (by assumption) (by decide)) | exact z_P_av h (z_sg (c := 45) (by assumption) (by decide))
       first | exact hPL _ _ _ (by omega) hav | exact hPO _ _ hav | exact z_P_wr (hPO _ _ hav) _ | exact z_P_av (hPL _ _ _ (by omega) hav) (z_sg (c := 41) (by assumption) (by decide)))
theorem z_ro01 (b : Bool) (I : Nat → Nat → Int32) (FL : Nat → Nat → (Nat → Nat → Int32) → Int32 × (Nat → Nat → Int32)) (FO : Nat → (Nat → Nat → Int32) → Int32 × (Nat → Nat → Int32)) (op : Nat) : f_X1_readOperand b I FL FO op = 0 ∨ f_X1_readOperand b I FL FO op = 1 := by
  unfold f_X1_readOperand
  (repeat' split) <;> first | exact Or.inl rfl | exact Or.inr rfl
/-- the reading by n rounds -/
def z_rp (b : Bool) : Nat → (Nat → Nat → (Nat → Nat → Int32) → Int32 × (Nat → Nat → Int32)) × (Nat → (Nat → Nat → Int32) → Int32 × (Nat → Nat → Int32))
  | 0 => (fun _ _ I => (0, I), fun _ I => (0, I))
  | n + 1 => (fun lv op I => (f_X1_readLevel b I (z_rp b n).1 (z_rp b n).2 lv op, m_X1_readLevel b I (z_rp b n).1 (z_rp b n).2 lv op), fun op I => (f_X1_readOperand b I (z_rp b n).1 (z_rp b n).2 op, m_X1_readOperand b I (z_rp b n).1 (z_rp b n).2 op))
theorem z_rpP (b : Bool) : ∀ n : Nat, (∀ (lv op : Nat) (J : Nat → Nat → Int32), lv ≤ 5 → z_P J → z_P ((z_rp b n).1 lv op J).2) ∧ (∀ (op : Nat) (J : Nat → Nat → Int32), z_P J → z_P ((z_rp b n).2 op J).2) ∧ (∀ (op : Nat) (J : Nat → Nat → Int32), ((z_rp b n).2 op J).1 = 0 ∨ ((z_rp b n).2 op J).1 = 1)
  | 0 => ⟨fun _ _ _ _ h => h, fun _ _ h => h, fun _ _ => Or.inl rfl⟩
  | n + 1 => by
    obtain ⟨a, c, e⟩ := z_rpP b n
    exact ⟨fun lv op J hl h => z_P_rl hl h a c, fun op J h => z_P_ro h a c, fun op J => z_ro01 b J _ _ op⟩
theorem z_rec (b : Bool) (L : Nat → Nat → Int64) : ∀ n : Nat, (∀ (d lv op : Nat) (J : Nat → Nat → Int32), n + 3 ≤ d → lv ≤ 5 → op ≤ 6 → z_mL lv op < n → z_P J → z_CT zm_X1_readLevel d [.ref 13, .int (nI lv), .int (nI op)] SH (J, L, z_R b) 0 0 (z_ret (some (.int ((z_rp b n).1 lv op J).1)) (((z_rp b n).1 lv op J).2, L, z_R b))) ∧ (∀ (d op : Nat) (J : Nat → Nat → Int32), n + 3 ≤ d → op ≤ 6 → z_mO op < n → z_P J → z_CT zm_X1_readOperand d [.ref 13, .int (nI op)] SH (J, L, z_R b) 0 0 (z_ret (some (.int ((z_rp b n).2 op J).1)) (((z_rp b n).2 op J).2, L, z_R b)))
  | 0 => ⟨fun _ _ _ _ _ _ _ h => absurd h (by omega), fun _ _ _ _ _ h => absurd h (by omega)⟩
  | n + 1 => by
    obtain ⟨h1, h2⟩ := z_rec b L n
    obtain ⟨p1, p2, p3⟩ := z_rpP b n
    refine ⟨fun d lv op J hd hl ho hn hP => ?_, fun d op J hd ho hn hP => ?_⟩
    · exact c_X1_readLevel d (by omega) b J L hP n (z_rp b n).1 (z_rp b n).2 (fun lv op J a1 a2 a3 a4 => h1 (d - 1) lv op J (by omega) a1 a2 a3 a4) (fun op J a1 a2 a3 => h2 (d - 1) op J (by omega) a1 a2 a3) p1 p2 p3 lv (by omega) op (by omega) hn
    · exact c_X1_readOperand d (by omega) b J L hP n (z_rp b n).1 (z_rp b n).2 (fun lv op J a1 a2 a3 a4 => h1 (d - 1) lv op J (by omega) a1 a2 a3 a4) (fun op J a1 a2 a3 => h2 (d - 1) op J (by omega) a1 a2 a3) p1 p2 p3 op (by omega) hn
/-- a whole E is read -/
def z_rE (b : Bool) (I : Nat → Nat → Int32) : Int32 × (Nat → Nat → Int32) := (z_rp b 63).1 0 0 I
theorem c_rE (d : Nat) (hd : 66 ≤ d) (b : Bool) (I : Nat → Nat → Int32) (L : Nat → Nat → Int64) (hP : z_P I) : z_CT zm_X1_readLevel d [.ref 13, .int 0, .int 0] SH (I, L, z_R b) 0 0 (z_ret (some (.int (z_rE b I).1)) ((z_rE b I).2, L, z_R b)) := (z_rec b L 63).1 d 0 0 I (by omega) (by omega) (by omega) (by decide) hP
theorem z_P_rE {b : Bool} {I : Nat → Nat → Int32} (h : z_P I) : z_P (z_rE b I).2 := (z_rpP b 63).1 0 0 I (by omega) h
def f_X1_readLine (b : Bool) (I : Nat → Nat → Int32) : Int32 := if (z_rE b I).1 = 0 then 0 else if (f_X1_next ((z_rE b I).2) (((z_rE b I).2 13 1).toNatClampNeg) (((z_rE b I).2 13 2).toNatClampNeg)) = 63 then if (z_rE b (m_X1_write b (z_up (z_rE b I).2 13 2 (((z_rE b I).2 13 2) + 1)) (((z_up (z_rE b I).2 13 2 (((z_rE b I).2 13 2) + 1)) 13 6).toNatClampNeg) (-63))).1 = 0 then 0 else 1 else 1
def m_X1_readLine (b : Bool) (I : Nat → Nat → Int32) : Nat → Nat → Int32 := if (z_rE b I).1 = 0 then (z_rE b I).2 else if (f_X1_next ((z_rE b I).2) (((z_rE b I).2 13 1).toNatClampNeg) (((z_rE b I).2 13 2).toNatClampNeg)) = 63 then if (z_rE b (m_X1_write b (z_up (z_rE b I).2 13 2 (((z_rE b I).2 13 2) + 1)) (((z_up (z_rE b I).2 13 2 (((z_rE b I).2 13 2) + 1)) 13 6).toNatClampNeg) (-63))).1 = 0 then (z_rE b (m_X1_write b (z_up (z_rE b I).2 13 2 (((z_rE b I).2 13 2) + 1)) (((z_up (z_rE b I).2 13 2 (((z_rE b I).2 13 2) + 1)) 13 6).toNatClampNeg) (-63))).2 else (m_X1_write b ((z_rE b (m_X1_write b (z_up (z_rE b I).2 13 2 (((z_rE b I).2 13 2) + 1)) (((z_up (z_rE b I).2 13 2 (((z_rE b I).2 13 2) + 1)) 13 6).toNatClampNeg) (-63))).2) (((z_rE b (m_X1_write b (z_up (z_rE b I).2 13 2 (((z_rE b I).2 13 2) + 1)) (((z_up (z_rE b I).2 13 2 (((z_rE b I).2 13 2) + 1)) 13 6).toNatClampNeg) (-63))).2 13 6).toNatClampNeg) (-59)) else (m_X1_write b ((z_rE b I).2) (((z_rE b I).2 13 6).toNatClampNeg) (-59))
set_option maxHeartbeats 4000000 in
set_option maxRecDepth 100000 in
theorem c_X1_readLine (d : Nat) (hd : 67 ≤ d) (b : Bool) (I : Nat → Nat → Int32) (L : Nat → Nat → Int64) (hP : z_P I) : z_CT zm_X1_readLine d [.ref 13] SH (I, L, z_R b) 0 0 (z_ret (some (.int (f_X1_readLine b I))) ((m_X1_readLine b I), L, z_R b)) := by
  refine z_enter (by decide +kernel) (Nat.le_of_ble_eq_true rfl) ?_
  have hentry : PW zm_X1_readLine d 0 [(0, .ref 13)] [] SH (I, L, z_R b) 0 0 (z_ret (some (.int (f_X1_readLine b I))) ((m_X1_readLine b I), L, z_R b)) := by
    refine p_aload_n (z_dec zd_X1_readLine 0 rfl) rfl 0 rfl (n := 1) rfl ?_
    refine p_iconst (z_dec zd_X1_readLine 1 rfl) (v := 0) (by decide) (n := 2) rfl ?_
    refine p_iconst (z_dec zd_X1_readLine 2 rfl) (v := 0) (by decide) (n := 3) rfl ?_
    refine q_callV (As := [.int 0, .int 0]) (rest := []) (z_dec zd_X1_readLine 3 rfl) zk_X1_51 zv_X1_readLevel (c_rE (d - 1) (by omega) b I L hP) rfl ⟨_, _, rfl⟩ rfl rfl (Nat.le_of_ble_eq_true rfl) (by omega) (n := 6) rfl ?_
    show PW zm_X1_readLine d 6 [(0, .ref 13)] [.int ((z_rE b I).1)] SH ((z_rE b I).2, L, z_R b) 0 0 _
    have hP6 : z_P ((z_rE b I).2) := z_P_rE hP
    refine p_if_ne (z_dec zd_X1_readLine 4 rfl) (t := 11) (by decide) (n := 9) rfl (fun h6 => ?_) (fun h6 => ?_)
    · refine p_aload_n (z_dec zd_X1_readLine 7 rfl) rfl 0 rfl (n := 12) rfl ?_
      refine q_callV (As := []) (rest := []) (z_dec zd_X1_readLine 8 rfl) zk_X1_47 zv_X1_next (c_X1_next (d - 1) (by omega) b ((z_rE b I).2) L (((z_rE b I).2 13 1).toNatClampNeg) hP6.1.1 hP6.1.2 (((z_rE b I).2 13 2).toNatClampNeg) hP6.2.1.1 (Nat.le_trans hP6.2.1.2 hP6.1.2)) rfl ⟨_, _, rfl⟩ rfl rfl (Nat.le_of_ble_eq_true rfl) (by omega) (n := 15) rfl ?_
      show PW zm_X1_readLine d 15 [(0, .ref 13)] [.int (f_X1_next ((z_rE b I).2) (((z_rE b I).2 13 1).toNatClampNeg) (((z_rE b I).2 13 2).toNatClampNeg))] SH ((z_rE b I).2, L, z_R b) 0 0 _
      refine p_bipush (z_dec zd_X1_readLine 9 rfl) (v := 63) (by decide) (n := 17) rfl ?_
      refine p_icmp_ne (z_dec zd_X1_readLine 10 rfl) (t := 47) (by decide) (n := 20) rfl (fun h17 => ?_) (fun h17 => ?_)
      · refine p_aload_n (z_dec zd_X1_readLine 27 rfl) rfl 0 rfl (n := 48) rfl ?_
        refine p_bipush (z_dec zd_X1_readLine 28 rfl) (v := (-59)) (by decide) (n := 50) rfl ?_
        refine q_callV (As := [.int (-59)]) (rest := []) (z_dec zd_X1_readLine 29 rfl) zk_X1_55 zv_X1_write (c_X1_write (d - 1) (by omega) b ((z_rE b I).2) L (((z_rE b I).2 13 6).toNatClampNeg) hP6.2.2.1 hP6.2.2.2 (-59)) rfl ⟨_, _, rfl⟩ rfl rfl (Nat.le_of_ble_eq_true rfl) (by omega) (n := 53) rfl ?_
        show PW zm_X1_readLine d 53 [(0, .ref 13)] [] SH ((m_X1_write b ((z_rE b I).2) (((z_rE b I).2 13 6).toNatClampNeg) (-59)), L, z_R b) 0 0 _
        refine p_iconst (z_dec zd_X1_readLine 30 rfl) (v := 1) (by decide) (n := 54) rfl ?_
        exact p_zret (z_dec zd_X1_readLine 31 rfl) rfl (Or.inr rfl) ⟨(by unfold f_X1_readLine; rw [if_neg h6, if_neg h17]), rfl, (z_3 (by unfold m_X1_readLine; rw [if_neg h6, if_neg h17]) rfl)⟩
      · refine p_aload_n (z_dec zd_X1_readLine 11 rfl) rfl 0 rfl (n := 21) rfl ?_
        refine p_dup (z_dec zd_X1_readLine 12 rfl) rfl (n := 22) rfl ?_
        refine q_getI (z_dec zd_X1_readLine 13 rfl) zf_X1_19 (by decide) rfl (v := ((z_rE b I).2 13 2)) rfl (n := 25) rfl ?_
        refine p_iconst (z_dec zd_X1_readLine 14 rfl) (v := 1) (by decide) (n := 26) rfl ?_
        refine p_iadd (z_dec zd_X1_readLine 15 rfl) (n := 27) rfl ?_
        refine q_putI (z_dec zd_X1_readLine 16 rfl) zp_X1_19 (fun q => by cases q) rfl (n := 30) rfl ?_
        have hP30 : z_P ((z_up (z_rE b I).2 13 2 (((z_rE b I).2 13 2) + 1))) := z_P_av hP6 (z_sg (c := 63) h17 (by decide))
        refine p_aload_n (z_dec zd_X1_readLine 17 rfl) rfl 0 rfl (n := 31) rfl ?_
        refine p_bipush (z_dec zd_X1_readLine 18 rfl) (v := (-63)) (by decide) (n := 33) rfl ?_
        refine q_callV (As := [.int (-63)]) (rest := []) (z_dec zd_X1_readLine 19 rfl) zk_X1_55 zv_X1_write (c_X1_write (d - 1) (by omega) b (z_up (z_rE b I).2 13 2 (((z_rE b I).2 13 2) + 1)) L (((z_up (z_rE b I).2 13 2 (((z_rE b I).2 13 2) + 1)) 13 6).toNatClampNeg) hP30.2.2.1 hP30.2.2.2 (-63)) rfl ⟨_, _, rfl⟩ rfl rfl (Nat.le_of_ble_eq_true rfl) (by omega) (n := 36) rfl ?_
        show PW zm_X1_readLine d 36 [(0, .ref 13)] [] SH ((m_X1_write b (z_up (z_rE b I).2 13 2 (((z_rE b I).2 13 2) + 1)) (((z_up (z_rE b I).2 13 2 (((z_rE b I).2 13 2) + 1)) 13 6).toNatClampNeg) (-63)), L, z_R b) 0 0 _
        have hP36 : z_P ((m_X1_write b (z_up (z_rE b I).2 13 2 (((z_rE b I).2 13 2) + 1)) (((z_up (z_rE b I).2 13 2 (((z_rE b I).2 13 2) + 1)) 13 6).toNatClampNeg) (-63))) := z_P_wr hP30 _
        refine p_aload_n (z_dec zd_X1_readLine 20 rfl) rfl 0 rfl (n := 37) rfl ?_
        refine p_iconst (z_dec zd_X1_readLine 21 rfl) (v := 0) (by decide) (n := 38) rfl ?_
        refine p_iconst (z_dec zd_X1_readLine 22 rfl) (v := 0) (by decide) (n := 39) rfl ?_
        refine q_callV (As := [.int 0, .int 0]) (rest := []) (z_dec zd_X1_readLine 23 rfl) zk_X1_51 zv_X1_readLevel (c_rE (d - 1) (by omega) b (m_X1_write b (z_up (z_rE b I).2 13 2 (((z_rE b I).2 13 2) + 1)) (((z_up (z_rE b I).2 13 2 (((z_rE b I).2 13 2) + 1)) 13 6).toNatClampNeg) (-63)) L hP36) rfl ⟨_, _, rfl⟩ rfl rfl (Nat.le_of_ble_eq_true rfl) (by omega) (n := 42) rfl ?_
        show PW zm_X1_readLine d 42 [(0, .ref 13)] [.int ((z_rE b (m_X1_write b (z_up (z_rE b I).2 13 2 (((z_rE b I).2 13 2) + 1)) (((z_up (z_rE b I).2 13 2 (((z_rE b I).2 13 2) + 1)) 13 6).toNatClampNeg) (-63))).1)] SH ((z_rE b (m_X1_write b (z_up (z_rE b I).2 13 2 (((z_rE b I).2 13 2) + 1)) (((z_up (z_rE b I).2 13 2 (((z_rE b I).2 13 2) + 1)) 13 6).toNatClampNeg) (-63))).2, L, z_R b) 0 0 _
        have hP42 : z_P ((z_rE b (m_X1_write b (z_up (z_rE b I).2 13 2 (((z_rE b I).2 13 2) + 1)) (((z_up (z_rE b I).2 13 2 (((z_rE b I).2 13 2) + 1)) 13 6).toNatClampNeg) (-63))).2) := z_P_rE hP36
        refine p_if_ne (z_dec zd_X1_readLine 24 rfl) (t := 47) (by decide) (n := 45) rfl (fun h42 => ?_) (fun h42 => ?_)
        · refine p_aload_n (z_dec zd_X1_readLine 27 rfl) rfl 0 rfl (n := 48) rfl ?_
          refine p_bipush (z_dec zd_X1_readLine 28 rfl) (v := (-59)) (by decide) (n := 50) rfl ?_
          refine q_callV (As := [.int (-59)]) (rest := []) (z_dec zd_X1_readLine 29 rfl) zk_X1_55 zv_X1_write (c_X1_write (d - 1) (by omega) b ((z_rE b (m_X1_write b (z_up (z_rE b I).2 13 2 (((z_rE b I).2 13 2) + 1)) (((z_up (z_rE b I).2 13 2 (((z_rE b I).2 13 2) + 1)) 13 6).toNatClampNeg) (-63))).2) L (((z_rE b (m_X1_write b (z_up (z_rE b I).2 13 2 (((z_rE b I).2 13 2) + 1)) (((z_up (z_rE b I).2 13 2 (((z_rE b I).2 13 2) + 1)) 13 6).toNatClampNeg) (-63))).2 13 6).toNatClampNeg) hP42.2.2.1 hP42.2.2.2 (-59)) rfl ⟨_, _, rfl⟩ rfl rfl (Nat.le_of_ble_eq_true rfl) (by omega) (n := 53) rfl ?_
          show PW zm_X1_readLine d 53 [(0, .ref 13)] [] SH ((m_X1_write b ((z_rE b (m_X1_write b (z_up (z_rE b I).2 13 2 (((z_rE b I).2 13 2) + 1)) (((z_up (z_rE b I).2 13 2 (((z_rE b I).2 13 2) + 1)) 13 6).toNatClampNeg) (-63))).2) (((z_rE b (m_X1_write b (z_up (z_rE b I).2 13 2 (((z_rE b I).2 13 2) + 1)) (((z_up (z_rE b I).2 13 2 (((z_rE b I).2 13 2) + 1)) 13 6).toNatClampNeg) (-63))).2 13 6).toNatClampNeg) (-59)), L, z_R b) 0 0 _
          refine p_iconst (z_dec zd_X1_readLine 30 rfl) (v := 1) (by decide) (n := 54) rfl ?_
          exact p_zret (z_dec zd_X1_readLine 31 rfl) rfl (Or.inr rfl) ⟨(by unfold f_X1_readLine; rw [if_neg h6, if_pos h17, if_neg h42]), rfl, (z_3 (by unfold m_X1_readLine; rw [if_neg h6, if_pos h17, if_neg h42]) rfl)⟩
        · refine p_iconst (z_dec zd_X1_readLine 25 rfl) (v := 0) (by decide) (n := 46) rfl ?_
          exact p_zret (z_dec zd_X1_readLine 26 rfl) rfl (Or.inl rfl) ⟨(by unfold f_X1_readLine; rw [if_neg h6, if_pos h17, if_pos h42]), rfl, (z_3 (by unfold m_X1_readLine; rw [if_neg h6, if_pos h17, if_pos h42]) rfl)⟩
    · refine p_iconst (z_dec zd_X1_readLine 5 rfl) (v := 0) (by decide) (n := 10) rfl ?_
      exact p_zret (z_dec zd_X1_readLine 6 rfl) rfl (Or.inl rfl) ⟨(by unfold f_X1_readLine; rw [if_pos h6]), rfl, (z_3 (by unfold m_X1_readLine; rw [if_pos h6]) rfl)⟩
  exact hentry
theorem fb_X1_readLine (b : Bool) (I : Nat → Nat → Int32) : f_X1_readLine b I = 0 ∨ f_X1_readLine b I = 1 := by
  unfold f_X1_readLine
  (repeat' split) <;> first | exact Or.inl rfl | exact Or.inr rfl
