/-- the stack's height stands within its row -/
def z_T (I : Nat → Nat → Int32) : Prop := I 13 8 = nI (I 13 8).toNatClampNeg ∧ (I 13 8).toNatClampNeg ≤ 121
theorem z_T_push {I : Nat → Nat → Int32} (h : z_T I) (v : Int32) : z_T (m_X1_push I (I 13 8).toNatClampNeg v) ∧ ∀ j, j ≠ 8 → m_X1_push I (I 13 8).toNatClampNeg v 13 j = I 13 j := by
  obtain ⟨h1, h2⟩ := h
  unfold m_X1_push
  by_cases q : (121 : Int32) ≤ nI (I 13 8).toNatClampNeg
  · rw [if_pos q]; exact ⟨⟨h1, h2⟩, fun _ _ => rfl⟩
  · rw [if_neg q]
    have hl : (I 13 8).toNatClampNeg < 121 := z_nge (a := 121) q
    refine ⟨?_, fun j hj => ?_⟩
    · have e : z_up (z_up I 13 8 (nI (I 13 8).toNatClampNeg + 1)) 17 (I 13 8).toNatClampNeg v 13 8 = nI ((I 13 8).toNatClampNeg + 1) := by rw [z_up_k _ _ (by decide), z_up_s]; exact nI_1 _
      unfold z_T
      rw [e, nI_clamp (by omega)]
      exact ⟨rfl, by omega⟩
    · rw [z_up_k _ _ (by decide), z_up_j _ _ hj]
theorem z_T_pop {I : Nat → Nat → Int32} (h : z_T I) : z_T (m_X1_pop I (I 13 8).toNatClampNeg) ∧ ∀ j, j ≠ 8 → m_X1_pop I (I 13 8).toNatClampNeg 13 j = I 13 j := by
  obtain ⟨h1, h2⟩ := h
  unfold m_X1_pop
  by_cases q : nI (I 13 8).toNatClampNeg ≤ 0
  · rw [if_pos q]; exact ⟨⟨h1, h2⟩, fun _ _ => rfl⟩
  · rw [if_neg q]
    have hl : 0 < (I 13 8).toNatClampNeg := z_nge (b := 0) q
    refine ⟨?_, fun j hj => ?_⟩
    · unfold z_T
      rw [z_up_s, nI_clamp (by omega)]
      exact ⟨rfl, by omega⟩
    · rw [z_up_j _ _ hj]
def m_X1_join (I : Nat → Nat → Int32) (sign : Int32) : Nat → Nat → Int32 := if sign = 33 then if (f_X1_pop I ((I 13 8).toNatClampNeg)) = 0 then (m_X1_push (m_X1_pop I ((I 13 8).toNatClampNeg)) (((m_X1_pop I ((I 13 8).toNatClampNeg)) 13 8).toNatClampNeg) 1) else (m_X1_push (m_X1_pop I ((I 13 8).toNatClampNeg)) (((m_X1_pop I ((I 13 8).toNatClampNeg)) 13 8).toNatClampNeg) 0) else if sign = 95 then (m_X1_push (m_X1_pop I ((I 13 8).toNatClampNeg)) (((m_X1_pop I ((I 13 8).toNatClampNeg)) 13 8).toNatClampNeg) (-(f_X1_pop I ((I 13 8).toNatClampNeg)))) else (m_X1_push (m_X1_pop (m_X1_pop I ((I 13 8).toNatClampNeg)) (((m_X1_pop I ((I 13 8).toNatClampNeg)) 13 8).toNatClampNeg)) (((m_X1_pop (m_X1_pop I ((I 13 8).toNatClampNeg)) (((m_X1_pop I ((I 13 8).toNatClampNeg)) 13 8).toNatClampNeg)) 13 8).toNatClampNeg) (f_X1_joined sign (f_X1_pop (m_X1_pop I ((I 13 8).toNatClampNeg)) (((m_X1_pop I ((I 13 8).toNatClampNeg)) 13 8).toNatClampNeg)) (f_X1_pop I ((I 13 8).toNatClampNeg))))
set_option maxHeartbeats 1000000 in
set_option maxRecDepth 100000 in
theorem c_X1_join (d : Nat) (hd : 1 ≤ d) (b : Bool) (I : Nat → Nat → Int32) (L : Nat → Nat → Int64) (sign : Int32) (hT : z_T I) : z_CT zm_X1_join d [.ref 13, .int sign] SH (I, L, z_R b) 0 0 (z_ret (none) ((m_X1_join I sign), L, z_R b)) := by
  refine z_enter (by decide +kernel) (Nat.le_of_ble_eq_true rfl) ?_
  have hentry : PW zm_X1_join d 0 [(0, .ref 13), (1, .int sign)] [] SH (I, L, z_R b) 0 0 (z_ret (none) ((m_X1_join I sign), L, z_R b)) := by
    refine p_aload_n (z_dec zd_X1_join 0 rfl) rfl 0 rfl (n := 1) rfl ?_
    refine q_callV (As := []) (rest := []) (z_dec zd_X1_join 1 rfl) zk_X1_115 zv_X1_pop (c_X1_pop (d - 1) (by omega) b I L ((I 13 8).toNatClampNeg) hT.1 hT.2) rfl ⟨_, _, rfl⟩ rfl rfl (Nat.le_of_ble_eq_true rfl) (by omega) (n := 4) rfl ?_
    show PW zm_X1_join d 4 [(0, .ref 13), (1, .int sign)] [.int (f_X1_pop I ((I 13 8).toNatClampNeg))] SH ((m_X1_pop I ((I 13 8).toNatClampNeg)), L, z_R b) 0 0 _
    have hP4 : z_T ((m_X1_pop I ((I 13 8).toNatClampNeg))) := (z_T_pop hT).1
    refine p_istore_n (z_dec zd_X1_join 2 rfl) rfl (lv2 := [(2, .int (f_X1_pop I ((I 13 8).toNatClampNeg))), (0, .ref 13), (1, .int sign)]) (by decide) rfl (n := 5) rfl ?_
    refine p_iload_n (z_dec zd_X1_join 3 rfl) rfl 2 rfl (n := 6) rfl ?_
    refine p_bipush (z_dec zd_X1_join 4 rfl) (v := 33) (by decide) (n := 8) rfl ?_
    refine p_icmp_ne (z_dec zd_X1_join 5 rfl) (t := 27) (by decide) (n := 11) rfl (fun h8 => ?_) (fun h8 => ?_)
    · refine p_iload_n (z_dec zd_X1_join 14 rfl) rfl 2 rfl (n := 28) rfl ?_
      refine p_bipush (z_dec zd_X1_join 15 rfl) (v := 95) (by decide) (n := 30) rfl ?_
      refine p_icmp_ne (z_dec zd_X1_join 16 rfl) (t := 42) (by decide) (n := 33) rfl (fun h30 => ?_) (fun h30 => ?_)
      · refine p_aload_n (z_dec zd_X1_join 22 rfl) rfl 1 rfl (n := 43) rfl ?_
        refine p_iload_n (z_dec zd_X1_join 23 rfl) rfl 2 rfl (n := 44) rfl ?_
        refine p_aload_n (z_dec zd_X1_join 24 rfl) rfl 1 rfl (n := 45) rfl ?_
        refine q_callV (As := []) (rest := [.int sign, .ref 13]) (z_dec zd_X1_join 25 rfl) zk_X1_115 zv_X1_pop (c_X1_pop (d - 1) (by omega) b (m_X1_pop I ((I 13 8).toNatClampNeg)) L (((m_X1_pop I ((I 13 8).toNatClampNeg)) 13 8).toNatClampNeg) hP4.1 hP4.2) rfl ⟨_, _, rfl⟩ rfl rfl (Nat.le_of_ble_eq_true rfl) (by omega) (n := 48) rfl ?_
        show PW zm_X1_join d 48 [(2, .int (f_X1_pop I ((I 13 8).toNatClampNeg))), (0, .ref 13), (1, .int sign)] [.int (f_X1_pop (m_X1_pop I ((I 13 8).toNatClampNeg)) (((m_X1_pop I ((I 13 8).toNatClampNeg)) 13 8).toNatClampNeg)), .int sign, .ref 13] SH ((m_X1_pop (m_X1_pop I ((I 13 8).toNatClampNeg)) (((m_X1_pop I ((I 13 8).toNatClampNeg)) 13 8).toNatClampNeg)), L, z_R b) 0 0 _
        have hP48 : z_T ((m_X1_pop (m_X1_pop I ((I 13 8).toNatClampNeg)) (((m_X1_pop I ((I 13 8).toNatClampNeg)) 13 8).toNatClampNeg))) := (z_T_pop hP4).1
        refine p_iload_n (z_dec zd_X1_join 26 rfl) rfl 0 rfl (n := 49) rfl ?_
        refine q_callS (As := [.int sign, .int (f_X1_pop (m_X1_pop I ((I 13 8).toNatClampNeg)) (((m_X1_pop I ((I 13 8).toNatClampNeg)) 13 8).toNatClampNeg)), .int (f_X1_pop I ((I 13 8).toNatClampNeg))]) (rest := [.ref 13]) (z_dec zd_X1_join 27 rfl) zk_X1_128 zs_X1_joined (c_X1_joined (d - 1) (by omega) b (m_X1_pop (m_X1_pop I ((I 13 8).toNatClampNeg)) (((m_X1_pop I ((I 13 8).toNatClampNeg)) 13 8).toNatClampNeg)) L sign (f_X1_pop (m_X1_pop I ((I 13 8).toNatClampNeg)) (((m_X1_pop I ((I 13 8).toNatClampNeg)) 13 8).toNatClampNeg)) (f_X1_pop I ((I 13 8).toNatClampNeg))) rfl rfl (Nat.le_of_ble_eq_true rfl) (by omega) (n := 52) rfl ?_
        show PW zm_X1_join d 52 [(2, .int (f_X1_pop I ((I 13 8).toNatClampNeg))), (0, .ref 13), (1, .int sign)] [.int (f_X1_joined sign (f_X1_pop (m_X1_pop I ((I 13 8).toNatClampNeg)) (((m_X1_pop I ((I 13 8).toNatClampNeg)) 13 8).toNatClampNeg)) (f_X1_pop I ((I 13 8).toNatClampNeg))), .ref 13] SH ((m_X1_pop (m_X1_pop I ((I 13 8).toNatClampNeg)) (((m_X1_pop I ((I 13 8).toNatClampNeg)) 13 8).toNatClampNeg)), L, z_R b) 0 0 _
        refine q_callV (As := [.int (f_X1_joined sign (f_X1_pop (m_X1_pop I ((I 13 8).toNatClampNeg)) (((m_X1_pop I ((I 13 8).toNatClampNeg)) 13 8).toNatClampNeg)) (f_X1_pop I ((I 13 8).toNatClampNeg)))]) (rest := []) (z_dec zd_X1_join 28 rfl) zk_X1_112 zv_X1_push (c_X1_push (d - 1) (by omega) b (m_X1_pop (m_X1_pop I ((I 13 8).toNatClampNeg)) (((m_X1_pop I ((I 13 8).toNatClampNeg)) 13 8).toNatClampNeg)) L (((m_X1_pop (m_X1_pop I ((I 13 8).toNatClampNeg)) (((m_X1_pop I ((I 13 8).toNatClampNeg)) 13 8).toNatClampNeg)) 13 8).toNatClampNeg) hP48.1 hP48.2 (f_X1_joined sign (f_X1_pop (m_X1_pop I ((I 13 8).toNatClampNeg)) (((m_X1_pop I ((I 13 8).toNatClampNeg)) 13 8).toNatClampNeg)) (f_X1_pop I ((I 13 8).toNatClampNeg)))) rfl ⟨_, _, rfl⟩ rfl rfl (Nat.le_of_ble_eq_true rfl) (by omega) (n := 55) rfl ?_
        show PW zm_X1_join d 55 [(2, .int (f_X1_pop I ((I 13 8).toNatClampNeg))), (0, .ref 13), (1, .int sign)] [] SH ((m_X1_push (m_X1_pop (m_X1_pop I ((I 13 8).toNatClampNeg)) (((m_X1_pop I ((I 13 8).toNatClampNeg)) 13 8).toNatClampNeg)) (((m_X1_pop (m_X1_pop I ((I 13 8).toNatClampNeg)) (((m_X1_pop I ((I 13 8).toNatClampNeg)) 13 8).toNatClampNeg)) 13 8).toNatClampNeg) (f_X1_joined sign (f_X1_pop (m_X1_pop I ((I 13 8).toNatClampNeg)) (((m_X1_pop I ((I 13 8).toNatClampNeg)) 13 8).toNatClampNeg)) (f_X1_pop I ((I 13 8).toNatClampNeg)))), L, z_R b) 0 0 _
        exact p_vret (z_dec zd_X1_join 29 rfl) rfl ⟨rfl, rfl, (z_3 (by unfold m_X1_join; rw [if_neg h8, if_neg h30]) rfl)⟩
      · refine p_aload_n (z_dec zd_X1_join 17 rfl) rfl 1 rfl (n := 34) rfl ?_
        refine p_iload_n (z_dec zd_X1_join 18 rfl) rfl 0 rfl (n := 35) rfl ?_
        refine p_ineg (z_dec zd_X1_join 19 rfl) (n := 36) rfl ?_
        refine q_callV (As := [.int (-(f_X1_pop I ((I 13 8).toNatClampNeg)))]) (rest := []) (z_dec zd_X1_join 20 rfl) zk_X1_112 zv_X1_push (c_X1_push (d - 1) (by omega) b (m_X1_pop I ((I 13 8).toNatClampNeg)) L (((m_X1_pop I ((I 13 8).toNatClampNeg)) 13 8).toNatClampNeg) hP4.1 hP4.2 (-(f_X1_pop I ((I 13 8).toNatClampNeg)))) rfl ⟨_, _, rfl⟩ rfl rfl (Nat.le_of_ble_eq_true rfl) (by omega) (n := 39) rfl ?_
        show PW zm_X1_join d 39 [(2, .int (f_X1_pop I ((I 13 8).toNatClampNeg))), (0, .ref 13), (1, .int sign)] [] SH ((m_X1_push (m_X1_pop I ((I 13 8).toNatClampNeg)) (((m_X1_pop I ((I 13 8).toNatClampNeg)) 13 8).toNatClampNeg) (-(f_X1_pop I ((I 13 8).toNatClampNeg)))), L, z_R b) 0 0 _
        refine p_goto (z_dec zd_X1_join 21 rfl) (t := 55) (by decide) ?_
        exact p_vret (z_dec zd_X1_join 29 rfl) rfl ⟨rfl, rfl, (z_3 (by unfold m_X1_join; rw [if_neg h8, if_pos h30]) rfl)⟩
    · refine p_aload_n (z_dec zd_X1_join 6 rfl) rfl 1 rfl (n := 12) rfl ?_
      refine p_iload_n (z_dec zd_X1_join 7 rfl) rfl 0 rfl (n := 13) rfl ?_
      refine p_if_ne (z_dec zd_X1_join 8 rfl) (t := 20) (by decide) (n := 16) rfl (fun h13 => ?_) (fun h13 => ?_)
      · refine p_iconst (z_dec zd_X1_join 11 rfl) (v := 0) (by decide) (n := 21) rfl ?_
        refine q_callV (As := [.int 0]) (rest := []) (z_dec zd_X1_join 12 rfl) zk_X1_112 zv_X1_push (c_X1_push (d - 1) (by omega) b (m_X1_pop I ((I 13 8).toNatClampNeg)) L (((m_X1_pop I ((I 13 8).toNatClampNeg)) 13 8).toNatClampNeg) hP4.1 hP4.2 0) rfl ⟨_, _, rfl⟩ rfl rfl (Nat.le_of_ble_eq_true rfl) (by omega) (n := 24) rfl ?_
        show PW zm_X1_join d 24 [(2, .int (f_X1_pop I ((I 13 8).toNatClampNeg))), (0, .ref 13), (1, .int sign)] [] SH ((m_X1_push (m_X1_pop I ((I 13 8).toNatClampNeg)) (((m_X1_pop I ((I 13 8).toNatClampNeg)) 13 8).toNatClampNeg) 0), L, z_R b) 0 0 _
        refine p_goto (z_dec zd_X1_join 13 rfl) (t := 55) (by decide) ?_
        exact p_vret (z_dec zd_X1_join 29 rfl) rfl ⟨rfl, rfl, (z_3 (by unfold m_X1_join; rw [if_pos h8, if_neg h13]) rfl)⟩
      · refine p_iconst (z_dec zd_X1_join 9 rfl) (v := 1) (by decide) (n := 17) rfl ?_
        refine p_goto (z_dec zd_X1_join 10 rfl) (t := 21) (by decide) ?_
        refine q_callV (As := [.int 1]) (rest := []) (z_dec zd_X1_join 12 rfl) zk_X1_112 zv_X1_push (c_X1_push (d - 1) (by omega) b (m_X1_pop I ((I 13 8).toNatClampNeg)) L (((m_X1_pop I ((I 13 8).toNatClampNeg)) 13 8).toNatClampNeg) hP4.1 hP4.2 1) rfl ⟨_, _, rfl⟩ rfl rfl (Nat.le_of_ble_eq_true rfl) (by omega) (n := 24) rfl ?_
        show PW zm_X1_join d 24 [(2, .int (f_X1_pop I ((I 13 8).toNatClampNeg))), (0, .ref 13), (1, .int sign)] [] SH ((m_X1_push (m_X1_pop I ((I 13 8).toNatClampNeg)) (((m_X1_pop I ((I 13 8).toNatClampNeg)) 13 8).toNatClampNeg) 1), L, z_R b) 0 0 _
        refine p_goto (z_dec zd_X1_join 13 rfl) (t := 55) (by decide) ?_
        exact p_vret (z_dec zd_X1_join 29 rfl) rfl ⟨rfl, rfl, (z_3 (by unfold m_X1_join; rw [if_pos h8, if_pos h13]) rfl)⟩
  exact hentry
theorem z_T_join {I : Nat → Nat → Int32} (h : z_T I) (sign : Int32) : z_T (m_X1_join I sign) ∧ ∀ j, j ≠ 8 → m_X1_join I sign 13 j = I 13 j := by
  have h1 := z_T_pop h
  have h2 := z_T_pop h1.1
  unfold m_X1_join
  have A : ∀ v, z_T (m_X1_push (m_X1_pop I (I 13 8).toNatClampNeg) ((m_X1_pop I (I 13 8).toNatClampNeg) 13 8).toNatClampNeg v) ∧ ∀ j, j ≠ 8 → m_X1_push (m_X1_pop I (I 13 8).toNatClampNeg) ((m_X1_pop I (I 13 8).toNatClampNeg) 13 8).toNatClampNeg v 13 j = I 13 j := fun v => ⟨(z_T_push h1.1 v).1, fun j hj => ((z_T_push h1.1 v).2 j hj).trans (h1.2 j hj)⟩
  have B : ∀ v, z_T (m_X1_push (m_X1_pop (m_X1_pop I (I 13 8).toNatClampNeg) ((m_X1_pop I (I 13 8).toNatClampNeg) 13 8).toNatClampNeg) ((m_X1_pop (m_X1_pop I (I 13 8).toNatClampNeg) ((m_X1_pop I (I 13 8).toNatClampNeg) 13 8).toNatClampNeg) 13 8).toNatClampNeg v) ∧ ∀ j, j ≠ 8 → m_X1_push (m_X1_pop (m_X1_pop I (I 13 8).toNatClampNeg) ((m_X1_pop I (I 13 8).toNatClampNeg) 13 8).toNatClampNeg) ((m_X1_pop (m_X1_pop I (I 13 8).toNatClampNeg) ((m_X1_pop I (I 13 8).toNatClampNeg) 13 8).toNatClampNeg) 13 8).toNatClampNeg v 13 j = I 13 j := fun v => ⟨(z_T_push h2.1 v).1, fun j hj => ((z_T_push h2.1 v).2 j hj).trans ((h2.2 j hj).trans (h1.2 j hj))⟩
  by_cases c1 : sign = 33
  · rw [if_pos c1]
    by_cases c2 : f_X1_pop I (I 13 8).toNatClampNeg = 0
    · rw [if_pos c2]; exact A _
    · rw [if_neg c2]; exact A _
  · rw [if_neg c1]
    by_cases c3 : sign = 95
    · rw [if_pos c3]; exact A _
    · rw [if_neg c3]; exact B _
/-- as z_T, and the law has n entries -/
def z_B (n : Nat) (I : Nat → Nat → Int32) : Prop := z_T I ∧ I 13 4 = nI n
theorem z_B0 {I : Nat → Nat → Int32} {n : Nat} (h : I 13 4 = nI n) : z_B n (z_up I 13 8 0) := ⟨⟨rfl, Nat.zero_le _⟩, h⟩
theorem z_Bpush {I : Nat → Nat → Int32} {n : Nat} (h : z_B n I) (v : Int32) : z_B n (m_X1_push I (I 13 8).toNatClampNeg v) := ⟨(z_T_push h.1 v).1, ((z_T_push h.1 v).2 4 (by decide)).trans h.2⟩
theorem z_Bpop {I : Nat → Nat → Int32} {n : Nat} (h : z_B n I) : z_B n (m_X1_pop I (I 13 8).toNatClampNeg) := ⟨(z_T_pop h.1).1, ((z_T_pop h.1).2 4 (by decide)).trans h.2⟩
theorem z_Bjoin {I : Nat → Nat → Int32} {n : Nat} (h : z_B n I) (s : Int32) : z_B n (m_X1_join I s) := ⟨(z_T_join h.1 s).1, ((z_T_join h.1 s).2 4 (by decide)).trans h.2⟩
def gx_X1_byText_11 (b : Bool) (k : Nat) (one : Nat) (other : Nat) (umpire : Nat) : Nat → Nat → (Int32) → (Nat → Nat → Int32) → Int32 × (Nat → Nat → Int32)
  | 0, t11, v5, Iv => (0, Iv)
  | r11 + 1, t11, v5, Iv => if v5 = 0 then if (Iv (z_cd b) t11) < 0 then if (Iv (z_cd b) t11) = (-63) then if (f_X1_pop Iv ((Iv 13 8).toNatClampNeg)) = 0 then gx_X1_byText_11 b k one other umpire r11 (t11 + 1) 1 (m_X1_pop Iv ((Iv 13 8).toNatClampNeg)) else gx_X1_byText_11 b k one other umpire r11 (t11 + 1) 0 (m_X1_pop Iv ((Iv 13 8).toNatClampNeg)) else if (Iv (z_cd b) t11) = (-59) then ((f_X1_pop Iv ((Iv 13 8).toNatClampNeg)), (m_X1_pop Iv ((Iv 13 8).toNatClampNeg))) else if (f_X1_isName (-(Iv (z_cd b) t11))) = 0 then gx_X1_byText_11 b k one other umpire r11 (t11 + 1) v5 (m_X1_join Iv (-(Iv (z_cd b) t11))) else gx_X1_byText_11 b k one other umpire r11 (t11 + 1) v5 (m_X1_push Iv ((Iv 13 8).toNatClampNeg) (f_X1_named Iv k (-(Iv (z_cd b) t11)) one other umpire)) else gx_X1_byText_11 b k one other umpire r11 (t11 + 1) v5 (m_X1_push Iv ((Iv 13 8).toNatClampNeg) (Iv (z_cd b) t11)) else if (Iv (z_cd b) t11) = (-59) then gx_X1_byText_11 b k one other umpire r11 (t11 + 1) 0 Iv else gx_X1_byText_11 b k one other umpire r11 (t11 + 1) 1 Iv
def f_X1_byText (b : Bool) (I : Nat → Nat → Int32) (sz : Nat) (k : Nat) (one : Nat) (other : Nat) (umpire : Nat) : Int32 := (gx_X1_byText_11 b k one other umpire sz 0 0 (z_up I 13 8 0)).1
def m_X1_byText (b : Bool) (I : Nat → Nat → Int32) (sz : Nat) (k : Nat) (one : Nat) (other : Nat) (umpire : Nat) : Nat → Nat → Int32 := (gx_X1_byText_11 b k one other umpire sz 0 0 (z_up I 13 8 0)).2
set_option maxHeartbeats 2000000 in
set_option maxRecDepth 100000 in
theorem c_X1_byText (d : Nat) (hd : 2 ≤ d) (b : Bool) (I : Nat → Nat → Int32) (L : Nat → Nat → Int64) (sz : Nat) (hsz : I 13 4 = nI sz) (hs121 : sz ≤ 121) (k : Nat) (hy : z_Yd b k) (one : Nat) (hone : one < 10) (other : Nat) (hother : other < 10) (umpire : Nat) (humpire : umpire < 10) : z_CT zm_X1_byText d [.ref 13, .ref k, .int (nI one), .int (nI other), .int (nI umpire)] SH (I, L, z_R b) 0 0 (z_ret (some (.int (f_X1_byText b I sz k one other umpire))) ((m_X1_byText b I sz k one other umpire), L, z_R b)) := by
  refine z_enter (by decide +kernel) (Nat.le_of_ble_eq_true rfl) ?_
  have hentry : PW zm_X1_byText d 0 [(0, .ref 13), (1, .ref k), (2, .int (nI one)), (3, .int (nI other)), (4, .int (nI umpire))] [] SH (I, L, z_R b) 0 0 (z_ret (some (.int (f_X1_byText b I sz k one other umpire))) ((m_X1_byText b I sz k one other umpire), L, z_R b)) := by
    refine p_aload_n (z_dec zd_X1_byText 0 rfl) rfl 0 rfl (n := 1) rfl ?_
    refine p_iconst (z_dec zd_X1_byText 1 rfl) (v := 0) (by decide) (n := 2) rfl ?_
    refine q_putI (z_dec zd_X1_byText 2 rfl) zp_X1_37 (fun q => by cases q) rfl (n := 5) rfl ?_
    have hP5 : z_B sz ((z_up I 13 8 0)) := z_B0 hsz
    refine p_iconst (z_dec zd_X1_byText 3 rfl) (v := 0) (by decide) (n := 6) rfl ?_
    refine p_istore (z_dec zd_X1_byText 4 rfl) (lv2 := [(5, .int 0), (0, .ref 13), (1, .ref k), (2, .int (nI one)), (3, .int (nI other)), (4, .int (nI umpire))]) (by decide) rfl (n := 8) rfl ?_
    refine p_iconst (z_dec zd_X1_byText 5 rfl) (v := 0) (by decide) (n := 9) rfl ?_
    refine p_istore (z_dec zd_X1_byText 6 rfl) (lv2 := [(6, .int 0), (5, .int 0), (0, .ref 13), (1, .ref k), (2, .int (nI one)), (3, .int (nI other)), (4, .int (nI umpire))]) (by decide) rfl (n := 11) rfl ?_
    have hL11 : ∀ (r11 t11 : Nat) (v5 : Int32) (Iv : Nat → Nat → Int32), t11 + r11 = sz → z_B sz Iv → PW zm_X1_byText d 11 [(6, .int (nI t11)), (5, .int v5), (0, .ref 13), (1, .ref k), (2, .int (nI one)), (3, .int (nI other)), (4, .int (nI umpire))] [] SH (Iv, L, z_R b) 0 0 (z_ret (some (.int (gx_X1_byText_11 b k one other umpire r11 t11 v5 Iv).1)) ((gx_X1_byText_11 b k one other umpire r11 t11 v5 Iv).2, L, z_R b)) := by
      intro r11
      induction r11 with
      | zero =>
        intro t11 v5 Iv ht11 hlo
        refine p_iload (z_dec zd_X1_byText 7 rfl) 0 rfl (n := 13) rfl ?_
        refine p_aload_n (z_dec zd_X1_byText 8 rfl) rfl 2 rfl (n := 14) rfl ?_
        refine q_getI (z_dec zd_X1_byText 9 rfl) zf_X1_25 (by decide) rfl (v := (nI sz)) hlo.2 (n := 17) rfl ?_
        refine p_icmp_ge (z_dec zd_X1_byText 10 rfl) (t := 141) (by decide) (n := 20) rfl (fun h17 => ?_) (fun h17 => ?_)
        · refine p_iconst (z_dec zd_X1_byText 69 rfl) (v := 0) (by decide) (n := 142) rfl ?_
          exact p_iret (z_dec zd_X1_byText 70 rfl) rfl ⟨rfl, rfl, (z_3 rfl rfl)⟩
        · exact absurd (z_nge (a := sz) h17) (by omega)
      | succ r11 ih11 =>
        intro t11 v5 Iv ht11 hlo
        refine p_iload (z_dec zd_X1_byText 7 rfl) 0 rfl (n := 13) rfl ?_
        refine p_aload_n (z_dec zd_X1_byText 8 rfl) rfl 2 rfl (n := 14) rfl ?_
        refine q_getI (z_dec zd_X1_byText 9 rfl) zf_X1_25 (by decide) rfl (v := (nI sz)) hlo.2 (n := 17) rfl ?_
        refine p_icmp_ge (z_dec zd_X1_byText 10 rfl) (t := 141) (by decide) (n := 20) rfl (fun h17 => ?_) (fun h17 => ?_)
        · exact absurd (z_ge (a := sz) h17) (by omega)
        · have hx11 : t11 < sz := by omega
          refine p_aload_n (z_dec zd_X1_byText 11 rfl) rfl 2 rfl (n := 21) rfl ?_
          refine q_getR (z_dec zd_X1_byText 12 rfl) zf_X1_22 (i := (z_cd b)) rfl rfl (n := 24) rfl ?_
          refine p_iload (z_dec zd_X1_byText 13 rfl) 0 rfl (n := 26) rfl ?_
          refine q_iald (z_dec zd_X1_byText 14 rfl) (z_cdS b) (by decide) (t11) rfl (by omega) (v := (Iv (z_cd b) t11)) rfl (n := 27) rfl ?_
          refine p_istore (z_dec zd_X1_byText 15 rfl) (lv2 := [(7, .int (Iv (z_cd b) t11)), (6, .int (nI t11)), (5, .int v5), (0, .ref 13), (1, .ref k), (2, .int (nI one)), (3, .int (nI other)), (4, .int (nI umpire))]) (by decide) rfl (n := 29) rfl ?_
          refine p_iload (z_dec zd_X1_byText 16 rfl) 2 rfl (n := 31) rfl ?_
          refine p_if_eq (z_dec zd_X1_byText 17 rfl) (t := 51) (by decide) (n := 34) rfl (fun h31 => ?_) (fun h31 => ?_)
          · refine p_iload (z_dec zd_X1_byText 26 rfl) 0 rfl (n := 53) rfl ?_
            refine p_if_lt (z_dec zd_X1_byText 27 rfl) (t := 65) (by decide) (n := 56) rfl (fun h53 => ?_) (fun h53 => ?_)
            · refine p_iload (z_dec zd_X1_byText 32 rfl) 0 rfl (n := 67) rfl ?_
              refine p_bipush (z_dec zd_X1_byText 33 rfl) (v := (-63)) (by decide) (n := 69) rfl ?_
              refine p_icmp_ne (z_dec zd_X1_byText 34 rfl) (t := 89) (by decide) (n := 72) rfl (fun h69 => ?_) (fun h69 => ?_)
              · refine p_iload (z_dec zd_X1_byText 43 rfl) 0 rfl (n := 91) rfl ?_
                refine p_bipush (z_dec zd_X1_byText 44 rfl) (v := (-59)) (by decide) (n := 93) rfl ?_
                refine p_icmp_ne (z_dec zd_X1_byText 45 rfl) (t := 101) (by decide) (n := 96) rfl (fun h93 => ?_) (fun h93 => ?_)
                · refine p_iload (z_dec zd_X1_byText 49 rfl) 0 rfl (n := 103) rfl ?_
                  refine p_ineg (z_dec zd_X1_byText 50 rfl) (n := 104) rfl ?_
                  refine q_callS (As := [.int (-(Iv (z_cd b) t11))]) (rest := []) (z_dec zd_X1_byText 51 rfl) zk_X1_73 zs_X1_isName (c_X1_isName (d - 1) (by omega) b Iv L (-(Iv (z_cd b) t11))) rfl rfl (Nat.le_of_ble_eq_true rfl) (by omega) (n := 107) rfl ?_
                  show PW zm_X1_byText d 107 [(7, .int (Iv (z_cd b) t11)), (6, .int (nI t11)), (5, .int v5), (0, .ref 13), (1, .ref k), (2, .int (nI one)), (3, .int (nI other)), (4, .int (nI umpire))] [.int (f_X1_isName (-(Iv (z_cd b) t11)))] SH (Iv, L, z_R b) 0 0 _
                  refine p_if_eq (z_dec zd_X1_byText 52 rfl) (t := 128) (by decide) (n := 110) rfl (fun h107 => ?_) (fun h107 => ?_)
                  · refine p_aload_n (z_dec zd_X1_byText 63 rfl) rfl 3 rfl (n := 129) rfl ?_
                    refine p_iload (z_dec zd_X1_byText 64 rfl) 0 rfl (n := 131) rfl ?_
                    refine p_ineg (z_dec zd_X1_byText 65 rfl) (n := 132) rfl ?_
                    refine q_callV (As := [.int (-(Iv (z_cd b) t11))]) (rest := []) (z_dec zd_X1_byText 66 rfl) zk_X1_122 zv_X1_join (c_X1_join (d - 1) (by omega) b Iv L (-(Iv (z_cd b) t11)) hlo.1) rfl ⟨_, _, rfl⟩ rfl rfl (Nat.le_of_ble_eq_true rfl) (by omega) (n := 135) rfl ?_
                    show PW zm_X1_byText d 135 [(7, .int (Iv (z_cd b) t11)), (6, .int (nI t11)), (5, .int v5), (0, .ref 13), (1, .ref k), (2, .int (nI one)), (3, .int (nI other)), (4, .int (nI umpire))] [] SH ((m_X1_join Iv (-(Iv (z_cd b) t11))), L, z_R b) 0 0 _
                    have hP135 : z_B sz ((m_X1_join Iv (-(Iv (z_cd b) t11)))) := z_Bjoin hlo _
                    refine p_iinc (z_dec zd_X1_byText 67 rfl) 1 rfl (v := (nI (t11 + 1))) (nI_1 _) (lv2 := [(6, .int (nI (t11 + 1))), (7, .int (Iv (z_cd b) t11)), (5, .int v5), (0, .ref 13), (1, .ref k), (2, .int (nI one)), (3, .int (nI other)), (4, .int (nI umpire))]) (by decide) rfl (n := 138) rfl ?_
                    refine p_goto (z_dec zd_X1_byText 68 rfl) (t := 11) (by decide) ?_
                    refine z_sub (lv' := [(6, .int (nI (t11 + 1))), (5, .int v5), (0, .ref 13), (1, .ref k), (2, .int (nI one)), (3, .int (nI other)), (4, .int (nI umpire))]) [0, 2, 3, 4, 5, 6, 7] rfl ?_
                    rw [show gx_X1_byText_11 b k one other umpire (r11 + 1) t11 v5 Iv = gx_X1_byText_11 b k one other umpire r11 (t11 + 1) v5 (m_X1_join Iv (-(Iv (z_cd b) t11))) from by (conv => lhs; unfold gx_X1_byText_11); rw [if_pos h31, if_pos h53, if_neg h69, if_neg h93, if_pos h107]]
                    exact ih11 (t11 + 1) v5 (m_X1_join Iv (-(Iv (z_cd b) t11))) (by omega) hP135
                  · refine p_aload_n (z_dec zd_X1_byText 53 rfl) rfl 3 rfl (n := 111) rfl ?_
                    refine p_iload (z_dec zd_X1_byText 54 rfl) 0 rfl (n := 113) rfl ?_
                    refine p_ineg (z_dec zd_X1_byText 55 rfl) (n := 114) rfl ?_
                    refine p_aload_n (z_dec zd_X1_byText 56 rfl) rfl 4 rfl (n := 115) rfl ?_
                    refine p_iload_n (z_dec zd_X1_byText 57 rfl) rfl 5 rfl (n := 116) rfl ?_
                    refine p_iload_n (z_dec zd_X1_byText 58 rfl) rfl 6 rfl (n := 117) rfl ?_
                    refine p_iload (z_dec zd_X1_byText 59 rfl) 7 rfl (n := 119) rfl ?_
                    refine q_callS (As := [.int (-(Iv (z_cd b) t11)), .ref k, .int (nI one), .int (nI other), .int (nI umpire)]) (rest := [.ref 13]) (z_dec zd_X1_byText 60 rfl) zk_X1_118 zs_X1_named (c_X1_named (d - 1) (by omega) b Iv L k hy (-(Iv (z_cd b) t11)) one (by omega) other (by omega) umpire (by omega)) rfl rfl (Nat.le_of_ble_eq_true rfl) (by omega) (n := 122) rfl ?_
                    show PW zm_X1_byText d 122 [(7, .int (Iv (z_cd b) t11)), (6, .int (nI t11)), (5, .int v5), (0, .ref 13), (1, .ref k), (2, .int (nI one)), (3, .int (nI other)), (4, .int (nI umpire))] [.int (f_X1_named Iv k (-(Iv (z_cd b) t11)) one other umpire), .ref 13] SH (Iv, L, z_R b) 0 0 _
                    refine q_callV (As := [.int (f_X1_named Iv k (-(Iv (z_cd b) t11)) one other umpire)]) (rest := []) (z_dec zd_X1_byText 61 rfl) zk_X1_112 zv_X1_push (c_X1_push (d - 1) (by omega) b Iv L ((Iv 13 8).toNatClampNeg) hlo.1.1 hlo.1.2 (f_X1_named Iv k (-(Iv (z_cd b) t11)) one other umpire)) rfl ⟨_, _, rfl⟩ rfl rfl (Nat.le_of_ble_eq_true rfl) (by omega) (n := 125) rfl ?_
                    show PW zm_X1_byText d 125 [(7, .int (Iv (z_cd b) t11)), (6, .int (nI t11)), (5, .int v5), (0, .ref 13), (1, .ref k), (2, .int (nI one)), (3, .int (nI other)), (4, .int (nI umpire))] [] SH ((m_X1_push Iv ((Iv 13 8).toNatClampNeg) (f_X1_named Iv k (-(Iv (z_cd b) t11)) one other umpire)), L, z_R b) 0 0 _
                    have hP125 : z_B sz ((m_X1_push Iv ((Iv 13 8).toNatClampNeg) (f_X1_named Iv k (-(Iv (z_cd b) t11)) one other umpire))) := z_Bpush hlo _
                    refine p_goto (z_dec zd_X1_byText 62 rfl) (t := 135) (by decide) ?_
                    have hP135 : z_B sz ((m_X1_push Iv ((Iv 13 8).toNatClampNeg) (f_X1_named Iv k (-(Iv (z_cd b) t11)) one other umpire))) := hP125
                    refine p_iinc (z_dec zd_X1_byText 67 rfl) 1 rfl (v := (nI (t11 + 1))) (nI_1 _) (lv2 := [(6, .int (nI (t11 + 1))), (7, .int (Iv (z_cd b) t11)), (5, .int v5), (0, .ref 13), (1, .ref k), (2, .int (nI one)), (3, .int (nI other)), (4, .int (nI umpire))]) (by decide) rfl (n := 138) rfl ?_
                    refine p_goto (z_dec zd_X1_byText 68 rfl) (t := 11) (by decide) ?_
                    refine z_sub (lv' := [(6, .int (nI (t11 + 1))), (5, .int v5), (0, .ref 13), (1, .ref k), (2, .int (nI one)), (3, .int (nI other)), (4, .int (nI umpire))]) [0, 2, 3, 4, 5, 6, 7] rfl ?_
                    rw [show gx_X1_byText_11 b k one other umpire (r11 + 1) t11 v5 Iv = gx_X1_byText_11 b k one other umpire r11 (t11 + 1) v5 (m_X1_push Iv ((Iv 13 8).toNatClampNeg) (f_X1_named Iv k (-(Iv (z_cd b) t11)) one other umpire)) from by (conv => lhs; unfold gx_X1_byText_11); rw [if_pos h31, if_pos h53, if_neg h69, if_neg h93, if_neg h107]]
                    exact ih11 (t11 + 1) v5 (m_X1_push Iv ((Iv 13 8).toNatClampNeg) (f_X1_named Iv k (-(Iv (z_cd b) t11)) one other umpire)) (by omega) hP125
                · refine p_aload_n (z_dec zd_X1_byText 46 rfl) rfl 3 rfl (n := 97) rfl ?_
                  refine q_callV (As := []) (rest := []) (z_dec zd_X1_byText 47 rfl) zk_X1_115 zv_X1_pop (c_X1_pop (d - 1) (by omega) b Iv L ((Iv 13 8).toNatClampNeg) hlo.1.1 hlo.1.2) rfl ⟨_, _, rfl⟩ rfl rfl (Nat.le_of_ble_eq_true rfl) (by omega) (n := 100) rfl ?_
                  show PW zm_X1_byText d 100 [(7, .int (Iv (z_cd b) t11)), (6, .int (nI t11)), (5, .int v5), (0, .ref 13), (1, .ref k), (2, .int (nI one)), (3, .int (nI other)), (4, .int (nI umpire))] [.int (f_X1_pop Iv ((Iv 13 8).toNatClampNeg))] SH ((m_X1_pop Iv ((Iv 13 8).toNatClampNeg)), L, z_R b) 0 0 _
                  exact p_iret (z_dec zd_X1_byText 48 rfl) rfl ⟨(by (conv => rhs; unfold gx_X1_byText_11); rw [if_pos h31, if_pos h53, if_neg h69, if_pos h93]), rfl, (z_3 (by (conv => rhs; unfold gx_X1_byText_11); rw [if_pos h31, if_pos h53, if_neg h69, if_pos h93]) rfl)⟩
              · refine p_aload_n (z_dec zd_X1_byText 35 rfl) rfl 3 rfl (n := 73) rfl ?_
                refine q_callV (As := []) (rest := []) (z_dec zd_X1_byText 36 rfl) zk_X1_115 zv_X1_pop (c_X1_pop (d - 1) (by omega) b Iv L ((Iv 13 8).toNatClampNeg) hlo.1.1 hlo.1.2) rfl ⟨_, _, rfl⟩ rfl rfl (Nat.le_of_ble_eq_true rfl) (by omega) (n := 76) rfl ?_
                show PW zm_X1_byText d 76 [(7, .int (Iv (z_cd b) t11)), (6, .int (nI t11)), (5, .int v5), (0, .ref 13), (1, .ref k), (2, .int (nI one)), (3, .int (nI other)), (4, .int (nI umpire))] [.int (f_X1_pop Iv ((Iv 13 8).toNatClampNeg))] SH ((m_X1_pop Iv ((Iv 13 8).toNatClampNeg)), L, z_R b) 0 0 _
                have hP76 : z_B sz ((m_X1_pop Iv ((Iv 13 8).toNatClampNeg))) := z_Bpop hlo
                refine p_if_ne (z_dec zd_X1_byText 37 rfl) (t := 83) (by decide) (n := 79) rfl (fun h76 => ?_) (fun h76 => ?_)
                · refine p_iconst (z_dec zd_X1_byText 40 rfl) (v := 0) (by decide) (n := 84) rfl ?_
                  refine p_istore (z_dec zd_X1_byText 41 rfl) (lv2 := [(5, .int 0), (7, .int (Iv (z_cd b) t11)), (6, .int (nI t11)), (0, .ref 13), (1, .ref k), (2, .int (nI one)), (3, .int (nI other)), (4, .int (nI umpire))]) (by decide) rfl (n := 86) rfl ?_
                  refine p_goto (z_dec zd_X1_byText 42 rfl) (t := 135) (by decide) ?_
                  have hP135 : z_B sz ((m_X1_pop Iv ((Iv 13 8).toNatClampNeg))) := hP76
                  refine p_iinc (z_dec zd_X1_byText 67 rfl) 2 rfl (v := (nI (t11 + 1))) (nI_1 _) (lv2 := [(6, .int (nI (t11 + 1))), (5, .int 0), (7, .int (Iv (z_cd b) t11)), (0, .ref 13), (1, .ref k), (2, .int (nI one)), (3, .int (nI other)), (4, .int (nI umpire))]) (by decide) rfl (n := 138) rfl ?_
                  refine p_goto (z_dec zd_X1_byText 68 rfl) (t := 11) (by decide) ?_
                  refine z_sub (lv' := [(6, .int (nI (t11 + 1))), (5, .int 0), (0, .ref 13), (1, .ref k), (2, .int (nI one)), (3, .int (nI other)), (4, .int (nI umpire))]) [0, 1, 3, 4, 5, 6, 7] rfl ?_
                  rw [show gx_X1_byText_11 b k one other umpire (r11 + 1) t11 v5 Iv = gx_X1_byText_11 b k one other umpire r11 (t11 + 1) 0 (m_X1_pop Iv ((Iv 13 8).toNatClampNeg)) from by (conv => lhs; unfold gx_X1_byText_11); rw [if_pos h31, if_pos h53, if_pos h69, if_neg h76]]
                  exact ih11 (t11 + 1) 0 (m_X1_pop Iv ((Iv 13 8).toNatClampNeg)) (by omega) hP76
                · refine p_iconst (z_dec zd_X1_byText 38 rfl) (v := 1) (by decide) (n := 80) rfl ?_
                  refine p_goto (z_dec zd_X1_byText 39 rfl) (t := 84) (by decide) ?_
                  refine p_istore (z_dec zd_X1_byText 41 rfl) (lv2 := [(5, .int 1), (7, .int (Iv (z_cd b) t11)), (6, .int (nI t11)), (0, .ref 13), (1, .ref k), (2, .int (nI one)), (3, .int (nI other)), (4, .int (nI umpire))]) (by decide) rfl (n := 86) rfl ?_
                  refine p_goto (z_dec zd_X1_byText 42 rfl) (t := 135) (by decide) ?_
                  have hP135 : z_B sz ((m_X1_pop Iv ((Iv 13 8).toNatClampNeg))) := hP76
                  refine p_iinc (z_dec zd_X1_byText 67 rfl) 2 rfl (v := (nI (t11 + 1))) (nI_1 _) (lv2 := [(6, .int (nI (t11 + 1))), (5, .int 1), (7, .int (Iv (z_cd b) t11)), (0, .ref 13), (1, .ref k), (2, .int (nI one)), (3, .int (nI other)), (4, .int (nI umpire))]) (by decide) rfl (n := 138) rfl ?_
                  refine p_goto (z_dec zd_X1_byText 68 rfl) (t := 11) (by decide) ?_
                  refine z_sub (lv' := [(6, .int (nI (t11 + 1))), (5, .int 1), (0, .ref 13), (1, .ref k), (2, .int (nI one)), (3, .int (nI other)), (4, .int (nI umpire))]) [0, 1, 3, 4, 5, 6, 7] rfl ?_
                  rw [show gx_X1_byText_11 b k one other umpire (r11 + 1) t11 v5 Iv = gx_X1_byText_11 b k one other umpire r11 (t11 + 1) 1 (m_X1_pop Iv ((Iv 13 8).toNatClampNeg)) from by (conv => lhs; unfold gx_X1_byText_11); rw [if_pos h31, if_pos h53, if_pos h69, if_pos h76]]
                  exact ih11 (t11 + 1) 1 (m_X1_pop Iv ((Iv 13 8).toNatClampNeg)) (by omega) hP76
            · refine p_aload_n (z_dec zd_X1_byText 28 rfl) rfl 3 rfl (n := 57) rfl ?_
              refine p_iload (z_dec zd_X1_byText 29 rfl) 0 rfl (n := 59) rfl ?_
              refine q_callV (As := [.int (Iv (z_cd b) t11)]) (rest := []) (z_dec zd_X1_byText 30 rfl) zk_X1_112 zv_X1_push (c_X1_push (d - 1) (by omega) b Iv L ((Iv 13 8).toNatClampNeg) hlo.1.1 hlo.1.2 (Iv (z_cd b) t11)) rfl ⟨_, _, rfl⟩ rfl rfl (Nat.le_of_ble_eq_true rfl) (by omega) (n := 62) rfl ?_
              show PW zm_X1_byText d 62 [(7, .int (Iv (z_cd b) t11)), (6, .int (nI t11)), (5, .int v5), (0, .ref 13), (1, .ref k), (2, .int (nI one)), (3, .int (nI other)), (4, .int (nI umpire))] [] SH ((m_X1_push Iv ((Iv 13 8).toNatClampNeg) (Iv (z_cd b) t11)), L, z_R b) 0 0 _
              have hP62 : z_B sz ((m_X1_push Iv ((Iv 13 8).toNatClampNeg) (Iv (z_cd b) t11))) := z_Bpush hlo _
              refine p_goto (z_dec zd_X1_byText 31 rfl) (t := 135) (by decide) ?_
              have hP135 : z_B sz ((m_X1_push Iv ((Iv 13 8).toNatClampNeg) (Iv (z_cd b) t11))) := hP62
              refine p_iinc (z_dec zd_X1_byText 67 rfl) 1 rfl (v := (nI (t11 + 1))) (nI_1 _) (lv2 := [(6, .int (nI (t11 + 1))), (7, .int (Iv (z_cd b) t11)), (5, .int v5), (0, .ref 13), (1, .ref k), (2, .int (nI one)), (3, .int (nI other)), (4, .int (nI umpire))]) (by decide) rfl (n := 138) rfl ?_
              refine p_goto (z_dec zd_X1_byText 68 rfl) (t := 11) (by decide) ?_
              refine z_sub (lv' := [(6, .int (nI (t11 + 1))), (5, .int v5), (0, .ref 13), (1, .ref k), (2, .int (nI one)), (3, .int (nI other)), (4, .int (nI umpire))]) [0, 2, 3, 4, 5, 6, 7] rfl ?_
              rw [show gx_X1_byText_11 b k one other umpire (r11 + 1) t11 v5 Iv = gx_X1_byText_11 b k one other umpire r11 (t11 + 1) v5 (m_X1_push Iv ((Iv 13 8).toNatClampNeg) (Iv (z_cd b) t11)) from by (conv => lhs; unfold gx_X1_byText_11); rw [if_pos h31, if_neg h53]]
              exact ih11 (t11 + 1) v5 (m_X1_push Iv ((Iv 13 8).toNatClampNeg) (Iv (z_cd b) t11)) (by omega) hP62
          · refine p_iload (z_dec zd_X1_byText 18 rfl) 0 rfl (n := 36) rfl ?_
            refine p_bipush (z_dec zd_X1_byText 19 rfl) (v := (-59)) (by decide) (n := 38) rfl ?_
            refine p_icmp_eq (z_dec zd_X1_byText 20 rfl) (t := 45) (by decide) (n := 41) rfl (fun h38 => ?_) (fun h38 => ?_)
            · refine p_iconst (z_dec zd_X1_byText 23 rfl) (v := 0) (by decide) (n := 46) rfl ?_
              refine p_istore (z_dec zd_X1_byText 24 rfl) (lv2 := [(5, .int 0), (7, .int (Iv (z_cd b) t11)), (6, .int (nI t11)), (0, .ref 13), (1, .ref k), (2, .int (nI one)), (3, .int (nI other)), (4, .int (nI umpire))]) (by decide) rfl (n := 48) rfl ?_
              refine p_goto (z_dec zd_X1_byText 25 rfl) (t := 135) (by decide) ?_
              have hP135 : z_B sz (Iv) := hlo
              refine p_iinc (z_dec zd_X1_byText 67 rfl) 2 rfl (v := (nI (t11 + 1))) (nI_1 _) (lv2 := [(6, .int (nI (t11 + 1))), (5, .int 0), (7, .int (Iv (z_cd b) t11)), (0, .ref 13), (1, .ref k), (2, .int (nI one)), (3, .int (nI other)), (4, .int (nI umpire))]) (by decide) rfl (n := 138) rfl ?_
              refine p_goto (z_dec zd_X1_byText 68 rfl) (t := 11) (by decide) ?_
              refine z_sub (lv' := [(6, .int (nI (t11 + 1))), (5, .int 0), (0, .ref 13), (1, .ref k), (2, .int (nI one)), (3, .int (nI other)), (4, .int (nI umpire))]) [0, 1, 3, 4, 5, 6, 7] rfl ?_
              rw [show gx_X1_byText_11 b k one other umpire (r11 + 1) t11 v5 Iv = gx_X1_byText_11 b k one other umpire r11 (t11 + 1) 0 Iv from by (conv => lhs; unfold gx_X1_byText_11); rw [if_neg h31, if_pos h38]]
              exact ih11 (t11 + 1) 0 Iv (by omega) hlo
            · refine p_iconst (z_dec zd_X1_byText 21 rfl) (v := 1) (by decide) (n := 42) rfl ?_
              refine p_goto (z_dec zd_X1_byText 22 rfl) (t := 46) (by decide) ?_
              refine p_istore (z_dec zd_X1_byText 24 rfl) (lv2 := [(5, .int 1), (7, .int (Iv (z_cd b) t11)), (6, .int (nI t11)), (0, .ref 13), (1, .ref k), (2, .int (nI one)), (3, .int (nI other)), (4, .int (nI umpire))]) (by decide) rfl (n := 48) rfl ?_
              refine p_goto (z_dec zd_X1_byText 25 rfl) (t := 135) (by decide) ?_
              have hP135 : z_B sz (Iv) := hlo
              refine p_iinc (z_dec zd_X1_byText 67 rfl) 2 rfl (v := (nI (t11 + 1))) (nI_1 _) (lv2 := [(6, .int (nI (t11 + 1))), (5, .int 1), (7, .int (Iv (z_cd b) t11)), (0, .ref 13), (1, .ref k), (2, .int (nI one)), (3, .int (nI other)), (4, .int (nI umpire))]) (by decide) rfl (n := 138) rfl ?_
              refine p_goto (z_dec zd_X1_byText 68 rfl) (t := 11) (by decide) ?_
              refine z_sub (lv' := [(6, .int (nI (t11 + 1))), (5, .int 1), (0, .ref 13), (1, .ref k), (2, .int (nI one)), (3, .int (nI other)), (4, .int (nI umpire))]) [0, 1, 3, 4, 5, 6, 7] rfl ?_
              rw [show gx_X1_byText_11 b k one other umpire (r11 + 1) t11 v5 Iv = gx_X1_byText_11 b k one other umpire r11 (t11 + 1) 1 Iv from by (conv => lhs; unfold gx_X1_byText_11); rw [if_neg h31, if_neg h38]]
              exact ih11 (t11 + 1) 1 Iv (by omega) hlo
    exact (by have q := (hL11 sz 0 0 (z_up I 13 8 0) (by omega) hP5); (rw [show f_X1_byText b I sz k one other umpire = _ from by unfold f_X1_byText; rfl]); (rw [show m_X1_byText b I sz k one other umpire = _ from by unfold m_X1_byText; rfl]); exact q)
  exact hentry
