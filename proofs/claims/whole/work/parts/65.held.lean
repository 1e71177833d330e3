theorem z_Ggc4 {L : Nat → Nat → Int64} {np sh : Nat} : ∀ (r t : Nat) (v : Int32) (Iv : Nat → Nat → Int32), z_G np Iv → z_G np (gx_X9_goesCard_4 L np sh r t v Iv).2
  | 0, t, v, Iv, h => h
  | r + 1, t, v, Iv, h => by
    unfold gx_X9_goesCard_4
    (repeat' split) <;> first | exact h | exact z_Ggc4 r (t + 1) _ _ (z_Gih (z_Goo h _ _ _) _ _ _ _)
theorem z_Ggc {L : Nat → Nat → Int64} {np sh : Nat} {I : Nat → Nat → Int32} (h : z_G np I) : z_G np (m_X9_goesCard I L np sh) := z_Ggc4 9 0 0 I h
theorem z_rwI2 {I : Nat → Nat → Int32} {sh s : Int32} (h : ¬ f_X9_rowIs I sh s < 0) : sh = nI sh.toNatClampNeg ∧ sh.toNatClampNeg < 6 := z_rwI (Int32.not_lt.mp h)
def f_X9_held (I : Nat → Nat → Int32) (L : Nat → Nat → Int64) (np : Nat) (sh : Int32) : Int32 := if 0 ≤ (f_X9_rowIs I sh 0) then ((f_X9_goesCard (m_X9_begins I np) L np sh.toNatClampNeg) - (f_X9_goesCard (m_X9_begins I np) L np sh.toNatClampNeg) / 16 * 16) else (f_X9_rowIs I sh 0)
def m_X9_held (I : Nat → Nat → Int32) (L : Nat → Nat → Int64) (np : Nat) (sh : Int32) : Nat → Nat → Int32 := if 0 ≤ (f_X9_rowIs I sh 0) then (m_X9_goesCard (m_X9_begins I np) L np sh.toNatClampNeg) else I
set_option maxHeartbeats 1000000 in
set_option maxRecDepth 100000 in
theorem c_X9_held (d : Nat) (hd : 57 ≤ d) (b : Bool) (I : Nat → Nat → Int32) (L : Nat → Nat → Int64) (np : Nat) (hn10 : np ≤ 10) (hG : z_G np I) (sh : Int32) : z_CT zm_X9_held d [.ref 54, .int sh] SH (I, L, z_R b) 0 0 (z_ret (some (.int (f_X9_held I L np sh))) ((m_X9_held I L np sh), L, z_R b)) := by
  refine z_enter (by decide +kernel) (Nat.le_of_ble_eq_true rfl) ?_
  have hentry : PW zm_X9_held d 0 [(0, .ref 54), (1, .int sh)] [] SH (I, L, z_R b) 0 0 (z_ret (some (.int (f_X9_held I L np sh))) ((m_X9_held I L np sh), L, z_R b)) := by
    refine p_aload_n (z_dec zd_X9_held 0 rfl) rfl 0 rfl (n := 1) rfl ?_
    refine p_iload_n (z_dec zd_X9_held 1 rfl) rfl 1 rfl (n := 2) rfl ?_
    refine p_iconst (z_dec zd_X9_held 2 rfl) (v := 0) (by decide) (n := 3) rfl ?_
    refine q_callV (As := [.int sh, .int 0]) (rest := []) (z_dec zd_X9_held 3 rfl) zk_X9_233 zv_X9_rowIs (c_X9_rowIs (d - 1) (by omega) b I L sh 0) rfl ⟨_, _, rfl⟩ rfl rfl (Nat.le_of_ble_eq_true rfl) (by omega) (n := 6) rfl ?_
    show PW zm_X9_held d 6 [(0, .ref 54), (1, .int sh)] [.int (f_X9_rowIs I sh 0)] SH (I, L, z_R b) 0 0 _
    refine p_if_ge (z_dec zd_X9_held 4 rfl) (t := 16) (by decide) (n := 9) rfl (fun h6 => ?_) (fun h6 => ?_)
    · have hs := z_rwI h6
      refine p_aload_n (z_dec zd_X9_held 10 rfl) rfl 0 rfl (n := 17) rfl ?_
      refine q_callV (As := []) (rest := []) (z_dec zd_X9_held 11 rfl) zk_X9_206 zv_X9_begins (c_X9_begins (d - 1) (by omega) b I L np hG.1 hn10) rfl ⟨_, _, rfl⟩ rfl rfl (Nat.le_of_ble_eq_true rfl) (by omega) (n := 20) rfl ?_
      show PW zm_X9_held d 20 [(0, .ref 54), (1, .int sh)] [] SH ((m_X9_begins I np), L, z_R b) 0 0 _
      have hP20 : z_G np ((m_X9_begins I np)) := z_Gbg hG
      refine p_aload_n (z_dec zd_X9_held 12 rfl) rfl 0 rfl (n := 21) rfl ?_
      refine p_iload_n (z_dec zd_X9_held 13 rfl) rfl 1 rfl (n := 22) rfl ?_
      refine q_callV (As := [.int (nI sh.toNatClampNeg)]) (rest := []) (z_dec zd_X9_held 14 rfl) zk_X9_236 zv_X9_goesCard (c_X9_goesCard (d - 1) (by omega) b (m_X9_begins I np) L np hn10 hP20 sh.toNatClampNeg hs.2) rfl ⟨_, _, rfl⟩ (by simp only [← hs.1]; rfl) rfl (Nat.le_of_ble_eq_true rfl) (by omega) (n := 25) rfl ?_
      show PW zm_X9_held d 25 [(0, .ref 54), (1, .int sh)] [.int (f_X9_goesCard (m_X9_begins I np) L np sh.toNatClampNeg)] SH ((m_X9_goesCard (m_X9_begins I np) L np sh.toNatClampNeg), L, z_R b) 0 0 _
      refine p_bipush (z_dec zd_X9_held 15 rfl) (v := 16) (by decide) (n := 27) rfl ?_
      refine p_irem (z_dec zd_X9_held 16 rfl) (by decide) (n := 28) rfl ?_
      exact p_iret (z_dec zd_X9_held 17 rfl) rfl ⟨(by unfold f_X9_held; rw [if_pos h6]), rfl, (z_3 (by unfold m_X9_held; rw [if_pos h6]) rfl)⟩
    · refine p_aload_n (z_dec zd_X9_held 5 rfl) rfl 0 rfl (n := 10) rfl ?_
      refine p_iload_n (z_dec zd_X9_held 6 rfl) rfl 1 rfl (n := 11) rfl ?_
      refine p_iconst (z_dec zd_X9_held 7 rfl) (v := 0) (by decide) (n := 12) rfl ?_
      refine q_callV (As := [.int sh, .int 0]) (rest := []) (z_dec zd_X9_held 8 rfl) zk_X9_233 zv_X9_rowIs (c_X9_rowIs (d - 1) (by omega) b I L sh 0) rfl ⟨_, _, rfl⟩ rfl rfl (Nat.le_of_ble_eq_true rfl) (by omega) (n := 15) rfl ?_
      show PW zm_X9_held d 15 [(0, .ref 54), (1, .int sh)] [.int (f_X9_rowIs I sh 0)] SH (I, L, z_R b) 0 0 _
      exact p_iret (z_dec zd_X9_held 9 rfl) rfl ⟨(by unfold f_X9_held; rw [if_neg h6]), rfl, (z_3 (by unfold m_X9_held; rw [if_neg h6]) rfl)⟩
  exact hentry
def f_X9_loses (I : Nat → Nat → Int32) (L : Nat → Nat → Int64) (np : Nat) (sh : Int32) : Int32 := if 0 ≤ (f_X9_rowIs I sh 0) then ((f_X9_goesCard (m_X9_begins I np) L np sh.toNatClampNeg) / 16) else (f_X9_rowIs I sh 0)
def m_X9_loses (I : Nat → Nat → Int32) (L : Nat → Nat → Int64) (np : Nat) (sh : Int32) : Nat → Nat → Int32 := if 0 ≤ (f_X9_rowIs I sh 0) then (m_X9_goesCard (m_X9_begins I np) L np sh.toNatClampNeg) else I
set_option maxHeartbeats 1000000 in
set_option maxRecDepth 100000 in
theorem c_X9_loses (d : Nat) (hd : 57 ≤ d) (b : Bool) (I : Nat → Nat → Int32) (L : Nat → Nat → Int64) (np : Nat) (hn10 : np ≤ 10) (hG : z_G np I) (sh : Int32) : z_CT zm_X9_loses d [.ref 54, .int sh] SH (I, L, z_R b) 0 0 (z_ret (some (.int (f_X9_loses I L np sh))) ((m_X9_loses I L np sh), L, z_R b)) := by
  refine z_enter (by decide +kernel) (Nat.le_of_ble_eq_true rfl) ?_
  have hentry : PW zm_X9_loses d 0 [(0, .ref 54), (1, .int sh)] [] SH (I, L, z_R b) 0 0 (z_ret (some (.int (f_X9_loses I L np sh))) ((m_X9_loses I L np sh), L, z_R b)) := by
    refine p_aload_n (z_dec zd_X9_loses 0 rfl) rfl 0 rfl (n := 1) rfl ?_
    refine p_iload_n (z_dec zd_X9_loses 1 rfl) rfl 1 rfl (n := 2) rfl ?_
    refine p_iconst (z_dec zd_X9_loses 2 rfl) (v := 0) (by decide) (n := 3) rfl ?_
    refine q_callV (As := [.int sh, .int 0]) (rest := []) (z_dec zd_X9_loses 3 rfl) zk_X9_233 zv_X9_rowIs (c_X9_rowIs (d - 1) (by omega) b I L sh 0) rfl ⟨_, _, rfl⟩ rfl rfl (Nat.le_of_ble_eq_true rfl) (by omega) (n := 6) rfl ?_
    show PW zm_X9_loses d 6 [(0, .ref 54), (1, .int sh)] [.int (f_X9_rowIs I sh 0)] SH (I, L, z_R b) 0 0 _
    refine p_if_ge (z_dec zd_X9_loses 4 rfl) (t := 16) (by decide) (n := 9) rfl (fun h6 => ?_) (fun h6 => ?_)
    · have hs := z_rwI h6
      refine p_aload_n (z_dec zd_X9_loses 10 rfl) rfl 0 rfl (n := 17) rfl ?_
      refine q_callV (As := []) (rest := []) (z_dec zd_X9_loses 11 rfl) zk_X9_206 zv_X9_begins (c_X9_begins (d - 1) (by omega) b I L np hG.1 hn10) rfl ⟨_, _, rfl⟩ rfl rfl (Nat.le_of_ble_eq_true rfl) (by omega) (n := 20) rfl ?_
      show PW zm_X9_loses d 20 [(0, .ref 54), (1, .int sh)] [] SH ((m_X9_begins I np), L, z_R b) 0 0 _
      have hP20 : z_G np ((m_X9_begins I np)) := z_Gbg hG
      refine p_aload_n (z_dec zd_X9_loses 12 rfl) rfl 0 rfl (n := 21) rfl ?_
      refine p_iload_n (z_dec zd_X9_loses 13 rfl) rfl 1 rfl (n := 22) rfl ?_
      refine q_callV (As := [.int (nI sh.toNatClampNeg)]) (rest := []) (z_dec zd_X9_loses 14 rfl) zk_X9_236 zv_X9_goesCard (c_X9_goesCard (d - 1) (by omega) b (m_X9_begins I np) L np hn10 hP20 sh.toNatClampNeg hs.2) rfl ⟨_, _, rfl⟩ (by simp only [← hs.1]; rfl) rfl (Nat.le_of_ble_eq_true rfl) (by omega) (n := 25) rfl ?_
      show PW zm_X9_loses d 25 [(0, .ref 54), (1, .int sh)] [.int (f_X9_goesCard (m_X9_begins I np) L np sh.toNatClampNeg)] SH ((m_X9_goesCard (m_X9_begins I np) L np sh.toNatClampNeg), L, z_R b) 0 0 _
      refine p_bipush (z_dec zd_X9_loses 15 rfl) (v := 16) (by decide) (n := 27) rfl ?_
      refine p_idiv (z_dec zd_X9_loses 16 rfl) (by decide) (n := 28) rfl ?_
      exact p_iret (z_dec zd_X9_loses 17 rfl) rfl ⟨(by unfold f_X9_loses; rw [if_pos h6]), rfl, (z_3 (by unfold m_X9_loses; rw [if_pos h6]) rfl)⟩
    · refine p_aload_n (z_dec zd_X9_loses 5 rfl) rfl 0 rfl (n := 10) rfl ?_
      refine p_iload_n (z_dec zd_X9_loses 6 rfl) rfl 1 rfl (n := 11) rfl ?_
      refine p_iconst (z_dec zd_X9_loses 7 rfl) (v := 0) (by decide) (n := 12) rfl ?_
      refine q_callV (As := [.int sh, .int 0]) (rest := []) (z_dec zd_X9_loses 8 rfl) zk_X9_233 zv_X9_rowIs (c_X9_rowIs (d - 1) (by omega) b I L sh 0) rfl ⟨_, _, rfl⟩ rfl rfl (Nat.le_of_ble_eq_true rfl) (by omega) (n := 15) rfl ?_
      show PW zm_X9_loses d 15 [(0, .ref 54), (1, .int sh)] [.int (f_X9_rowIs I sh 0)] SH (I, L, z_R b) 0 0 _
      exact p_iret (z_dec zd_X9_loses 9 rfl) rfl ⟨(by unfold f_X9_loses; rw [if_neg h6]), rfl, (z_3 (by unfold m_X9_loses; rw [if_neg h6]) rfl)⟩
  exact hentry
def gx_X9_behind_85 (L : Nat → Nat → Int64) (np : Nat) (sh : Int32) (one : Int32) (what : Int32) : Nat → Nat → (Int32) → (Nat → Nat → Int32) → Int32 × (Nat → Nat → Int32)
  | 0, t85, v5, Iv => if what = 0 then ((Iv 63 one.toNatClampNeg), Iv) else if what = 1 then ((Iv 62 one.toNatClampNeg), Iv) else if what = 2 then ((f_X9_judgesNow Iv np), Iv) else (v5, Iv)
  | r85 + 1, t85, v5, Iv => gx_X9_behind_85 L np sh one what r85 (t85 + 1) (v5 + ((f_X9_goesCard Iv L np sh.toNatClampNeg) - (f_X9_goesCard Iv L np sh.toNatClampNeg) / 16 * 16)) (m_X9_endsDay (m_X9_goesCard Iv L np sh.toNatClampNeg) np)
def f_X9_behind (I : Nat → Nat → Int32) (L : Nat → Nat → Int64) (np : Nat) (sh : Int32) (n : Int32) (one : Int32) (what : Int32) : Int32 := if (f_X9_rowIs I sh 0) = (-1) then (-1) else if (f_X9_within (n.toInt64) 0 20) = 0 then (-1) else if (f_X9_within (what.toInt64) 0 3) = 0 then (-1) else if 2 ≤ what then if one = 0 then if 0 ≤ (f_X9_rowIs I sh 0) then (gx_X9_behind_85 L np sh one what n.toNatClampNeg 0 0 (m_X9_begins I np)).1 else (f_X9_rowIs I sh 0) else (-1) else if (f_X9_isOne np (one.toInt64)) = 0 then (-1) else if 0 ≤ (f_X9_rowIs I sh 0) then (gx_X9_behind_85 L np sh one what n.toNatClampNeg 0 0 (m_X9_begins I np)).1 else (f_X9_rowIs I sh 0)
def m_X9_behind (I : Nat → Nat → Int32) (L : Nat → Nat → Int64) (np : Nat) (sh : Int32) (n : Int32) (one : Int32) (what : Int32) : Nat → Nat → Int32 := if (f_X9_rowIs I sh 0) = (-1) then I else if (f_X9_within (n.toInt64) 0 20) = 0 then I else if (f_X9_within (what.toInt64) 0 3) = 0 then I else if 2 ≤ what then if one = 0 then if 0 ≤ (f_X9_rowIs I sh 0) then (gx_X9_behind_85 L np sh one what n.toNatClampNeg 0 0 (m_X9_begins I np)).2 else I else I else if (f_X9_isOne np (one.toInt64)) = 0 then I else if 0 ≤ (f_X9_rowIs I sh 0) then (gx_X9_behind_85 L np sh one what n.toNatClampNeg 0 0 (m_X9_begins I np)).2 else I
set_option maxHeartbeats 1000000 in
set_option maxRecDepth 100000 in
theorem c_X9_behind (d : Nat) (hd : 57 ≤ d) (b : Bool) (I : Nat → Nat → Int32) (L : Nat → Nat → Int64) (np : Nat) (hn10 : np ≤ 10) (hG : z_G np I) (sh : Int32) (n : Int32) (one : Int32) (what : Int32) : z_CT zm_X9_behind d [.ref 54, .int sh, .int n, .int one, .int what] SH (I, L, z_R b) 0 0 (z_ret (some (.int (f_X9_behind I L np sh n one what))) ((m_X9_behind I L np sh n one what), L, z_R b)) := by
  refine z_enter (by decide +kernel) (Nat.le_of_ble_eq_true rfl) ?_
  have hentry : PW zm_X9_behind d 0 [(0, .ref 54), (1, .int sh), (2, .int n), (3, .int one), (4, .int what)] [] SH (I, L, z_R b) 0 0 (z_ret (some (.int (f_X9_behind I L np sh n one what))) ((m_X9_behind I L np sh n one what), L, z_R b)) := by
    refine p_aload_n (z_dec zd_X9_behind 0 rfl) rfl 0 rfl (n := 1) rfl ?_
    refine p_iload_n (z_dec zd_X9_behind 1 rfl) rfl 1 rfl (n := 2) rfl ?_
    refine p_iconst (z_dec zd_X9_behind 2 rfl) (v := 0) (by decide) (n := 3) rfl ?_
    refine q_callV (As := [.int sh, .int 0]) (rest := []) (z_dec zd_X9_behind 3 rfl) zk_X9_233 zv_X9_rowIs (c_X9_rowIs (d - 1) (by omega) b I L sh 0) rfl ⟨_, _, rfl⟩ rfl rfl (Nat.le_of_ble_eq_true rfl) (by omega) (n := 6) rfl ?_
    show PW zm_X9_behind d 6 [(0, .ref 54), (1, .int sh), (2, .int n), (3, .int one), (4, .int what)] [.int (f_X9_rowIs I sh 0)] SH (I, L, z_R b) 0 0 _
    refine p_iconst (z_dec zd_X9_behind 4 rfl) (v := (-1)) (by decide) (n := 7) rfl ?_
    refine p_icmp_eq (z_dec zd_X9_behind 5 rfl) (t := 57) (by decide) (n := 10) rfl (fun h7 => ?_) (fun h7 => ?_)
    · refine p_iconst (z_dec zd_X9_behind 29 rfl) (v := (-1)) (by decide) (n := 58) rfl ?_
      exact p_iret (z_dec zd_X9_behind 30 rfl) rfl ⟨(by unfold f_X9_behind; rw [if_pos h7]), rfl, (z_3 (by unfold m_X9_behind; rw [if_pos h7]) rfl)⟩
    · refine p_iload_n (z_dec zd_X9_behind 6 rfl) rfl 2 rfl (n := 11) rfl ?_
      refine p_i2l (z_dec zd_X9_behind 7 rfl) (n := 12) rfl ?_
      refine p_lconst (z_dec zd_X9_behind 8 rfl) (v := 0) (by decide) (n := 13) rfl ?_
      refine p_ldc2 (z_dec zd_X9_behind 9 rfl) zq_X9_239 (n := 16) rfl ?_
      refine q_callS (As := [.long (n.toInt64), .long 0, .long 20]) (rest := []) (z_dec zd_X9_behind 10 rfl) zk_X9_96 zs_X9_within (c_X9_within (d - 1) (by omega) b I L (n.toInt64) 0 20) rfl rfl (Nat.le_of_ble_eq_true rfl) (by omega) (n := 19) rfl ?_
      show PW zm_X9_behind d 19 [(0, .ref 54), (1, .int sh), (2, .int n), (3, .int one), (4, .int what)] [.int (f_X9_within (n.toInt64) 0 20)] SH (I, L, z_R b) 0 0 _
      refine p_if_eq (z_dec zd_X9_behind 11 rfl) (t := 57) (by decide) (n := 22) rfl (fun h19 => ?_) (fun h19 => ?_)
      · refine p_iconst (z_dec zd_X9_behind 29 rfl) (v := (-1)) (by decide) (n := 58) rfl ?_
        exact p_iret (z_dec zd_X9_behind 30 rfl) rfl ⟨(by unfold f_X9_behind; rw [if_neg h7, if_pos h19]), rfl, (z_3 (by unfold m_X9_behind; rw [if_neg h7, if_pos h19]) rfl)⟩
      · have hn := z_with (N := 20) rfl h19
        refine p_iload (z_dec zd_X9_behind 12 rfl) 4 rfl (n := 24) rfl ?_
        refine p_i2l (z_dec zd_X9_behind 13 rfl) (n := 25) rfl ?_
        refine p_lconst (z_dec zd_X9_behind 14 rfl) (v := 0) (by decide) (n := 26) rfl ?_
        refine p_ldc2 (z_dec zd_X9_behind 15 rfl) zq_X9_119 (n := 29) rfl ?_
        refine q_callS (As := [.long (what.toInt64), .long 0, .long 3]) (rest := []) (z_dec zd_X9_behind 16 rfl) zk_X9_96 zs_X9_within (c_X9_within (d - 1) (by omega) b I L (what.toInt64) 0 3) rfl rfl (Nat.le_of_ble_eq_true rfl) (by omega) (n := 32) rfl ?_
        show PW zm_X9_behind d 32 [(0, .ref 54), (1, .int sh), (2, .int n), (3, .int one), (4, .int what)] [.int (f_X9_within (what.toInt64) 0 3)] SH (I, L, z_R b) 0 0 _
        refine p_if_eq (z_dec zd_X9_behind 17 rfl) (t := 57) (by decide) (n := 35) rfl (fun h32 => ?_) (fun h32 => ?_)
        · refine p_iconst (z_dec zd_X9_behind 29 rfl) (v := (-1)) (by decide) (n := 58) rfl ?_
          exact p_iret (z_dec zd_X9_behind 30 rfl) rfl ⟨(by unfold f_X9_behind; rw [if_neg h7, if_neg h19, if_pos h32]), rfl, (z_3 (by unfold m_X9_behind; rw [if_neg h7, if_neg h19, if_pos h32]) rfl)⟩
        · refine p_iload (z_dec zd_X9_behind 18 rfl) 4 rfl (n := 37) rfl ?_
          refine p_iconst (z_dec zd_X9_behind 19 rfl) (v := 2) (by decide) (n := 38) rfl ?_
          refine p_icmp_ge (z_dec zd_X9_behind 20 rfl) (t := 53) (by decide) (n := 41) rfl (fun h38 => ?_) (fun h38 => ?_)
          · refine p_iload_n (z_dec zd_X9_behind 27 rfl) rfl 3 rfl (n := 54) rfl ?_
            refine p_if_eq (z_dec zd_X9_behind 28 rfl) (t := 59) (by decide) (n := 57) rfl (fun h54 => ?_) (fun h54 => ?_)
            · refine p_aload_n (z_dec zd_X9_behind 31 rfl) rfl 0 rfl (n := 60) rfl ?_
              refine p_iload_n (z_dec zd_X9_behind 32 rfl) rfl 1 rfl (n := 61) rfl ?_
              refine p_iconst (z_dec zd_X9_behind 33 rfl) (v := 0) (by decide) (n := 62) rfl ?_
              refine q_callV (As := [.int sh, .int 0]) (rest := []) (z_dec zd_X9_behind 34 rfl) zk_X9_233 zv_X9_rowIs (c_X9_rowIs (d - 1) (by omega) b I L sh 0) rfl ⟨_, _, rfl⟩ rfl rfl (Nat.le_of_ble_eq_true rfl) (by omega) (n := 65) rfl ?_
              show PW zm_X9_behind d 65 [(0, .ref 54), (1, .int sh), (2, .int n), (3, .int one), (4, .int what)] [.int (f_X9_rowIs I sh 0)] SH (I, L, z_R b) 0 0 _
              refine p_if_ge (z_dec zd_X9_behind 35 rfl) (t := 75) (by decide) (n := 68) rfl (fun h65 => ?_) (fun h65 => ?_)
              · have hs := z_rwI h65
                refine p_aload_n (z_dec zd_X9_behind 41 rfl) rfl 0 rfl (n := 76) rfl ?_
                refine q_callV (As := []) (rest := []) (z_dec zd_X9_behind 42 rfl) zk_X9_206 zv_X9_begins (c_X9_begins (d - 1) (by omega) b I L np hG.1 hn10) rfl ⟨_, _, rfl⟩ rfl rfl (Nat.le_of_ble_eq_true rfl) (by omega) (n := 79) rfl ?_
                show PW zm_X9_behind d 79 [(0, .ref 54), (1, .int sh), (2, .int n), (3, .int one), (4, .int what)] [] SH ((m_X9_begins I np), L, z_R b) 0 0 _
                have hP79 : z_G np ((m_X9_begins I np)) := z_Gbg hG
                refine p_iconst (z_dec zd_X9_behind 43 rfl) (v := 0) (by decide) (n := 80) rfl ?_
                refine p_istore (z_dec zd_X9_behind 44 rfl) (lv2 := [(5, .int 0), (0, .ref 54), (1, .int sh), (2, .int n), (3, .int one), (4, .int what)]) (by decide) rfl (n := 82) rfl ?_
                refine p_iconst (z_dec zd_X9_behind 45 rfl) (v := 0) (by decide) (n := 83) rfl ?_
                refine p_istore (z_dec zd_X9_behind 46 rfl) (lv2 := [(6, .int 0), (5, .int 0), (0, .ref 54), (1, .int sh), (2, .int n), (3, .int one), (4, .int what)]) (by decide) rfl (n := 85) rfl ?_
                have hL85 : ∀ (r85 t85 : Nat) (v5 : Int32) (Iv : Nat → Nat → Int32), t85 + r85 = n.toNatClampNeg → z_G np Iv → PW zm_X9_behind d 85 [(6, .int (nI t85)), (5, .int v5), (0, .ref 54), (1, .int sh), (2, .int n), (3, .int one), (4, .int what)] [] SH (Iv, L, z_R b) 0 0 (z_ret (some (.int (gx_X9_behind_85 L np sh one what r85 t85 v5 Iv).1)) ((gx_X9_behind_85 L np sh one what r85 t85 v5 Iv).2, L, z_R b)) := by
                  intro r85
                  induction r85 with
                  | zero =>
                    intro t85 v5 Iv ht85 hlo
                    refine p_iload (z_dec zd_X9_behind 47 rfl) 0 rfl (n := 87) rfl ?_
                    refine p_iload_n (z_dec zd_X9_behind 48 rfl) rfl 4 rfl (n := 88) rfl ?_
                    refine p_icmp_ge (z_dec zd_X9_behind 49 rfl) (t := 116) (by decide) (n := 91) rfl (fun h88 => ?_) (fun h88 => ?_)
                    · refine p_iload (z_dec zd_X9_behind 63 rfl) 6 rfl (n := 118) rfl ?_
                      refine p_if_ne (z_dec zd_X9_behind 64 rfl) (t := 130) (by decide) (n := 121) rfl (fun h118 => ?_) (fun h118 => ?_)
                      · refine p_iload (z_dec zd_X9_behind 70 rfl) 6 rfl (n := 132) rfl ?_
                        refine p_iconst (z_dec zd_X9_behind 71 rfl) (v := 1) (by decide) (n := 133) rfl ?_
                        refine p_icmp_ne (z_dec zd_X9_behind 72 rfl) (t := 145) (by decide) (n := 136) rfl (fun h133 => ?_) (fun h133 => ?_)
                        · refine p_iload (z_dec zd_X9_behind 78 rfl) 6 rfl (n := 147) rfl ?_
                          refine p_iconst (z_dec zd_X9_behind 79 rfl) (v := 2) (by decide) (n := 148) rfl ?_
                          refine p_icmp_ne (z_dec zd_X9_behind 80 rfl) (t := 158) (by decide) (n := 151) rfl (fun h148 => ?_) (fun h148 => ?_)
                          · refine p_iload (z_dec zd_X9_behind 84 rfl) 1 rfl (n := 160) rfl ?_
                            exact p_iret (z_dec zd_X9_behind 85 rfl) rfl ⟨(by (conv => rhs; unfold gx_X9_behind_85); rw [if_neg h118, if_neg h133, if_neg h148]), rfl, (z_3 (by (conv => rhs; unfold gx_X9_behind_85); rw [if_neg h118, if_neg h133, if_neg h148]) rfl)⟩
                          · refine p_aload_n (z_dec zd_X9_behind 81 rfl) rfl 2 rfl (n := 152) rfl ?_
                            refine q_callV (As := []) (rest := []) (z_dec zd_X9_behind 82 rfl) zk_X9_213 zv_X9_judgesNow (c_X9_judgesNow (d - 1) (by omega) b Iv L np hlo.1 hn10) rfl ⟨_, _, rfl⟩ rfl rfl (Nat.le_of_ble_eq_true rfl) (by omega) (n := 155) rfl ?_
                            show PW zm_X9_behind d 155 [(6, .int (nI t85)), (5, .int v5), (0, .ref 54), (1, .int sh), (2, .int n), (3, .int one), (4, .int what)] [.int (f_X9_judgesNow Iv np)] SH (Iv, L, z_R b) 0 0 _
                            refine p_goto (z_dec zd_X9_behind 83 rfl) (t := 160) (by decide) ?_
                            exact p_iret (z_dec zd_X9_behind 85 rfl) rfl ⟨(by (conv => rhs; unfold gx_X9_behind_85); rw [if_neg h118, if_neg h133, if_pos h148]), rfl, (z_3 (by (conv => rhs; unfold gx_X9_behind_85); rw [if_neg h118, if_neg h133, if_pos h148]) rfl)⟩
                        · refine p_aload_n (z_dec zd_X9_behind 73 rfl) rfl 2 rfl (n := 137) rfl ?_
                          refine q_getR (z_dec zd_X9_behind 74 rfl) zf_X9_31 (i := 62) rfl rfl (n := 140) rfl ?_
                          refine p_iload_n (z_dec zd_X9_behind 75 rfl) rfl 5 rfl (n := 141) rfl ?_
                          refine q_iald (z_dec zd_X9_behind 76 rfl) rfl (by decide) (one.toNatClampNeg) (by rw [h54]; rfl) (by rw [h54]; decide) (v := (Iv 62 one.toNatClampNeg)) rfl (n := 142) rfl ?_
                          refine p_goto (z_dec zd_X9_behind 77 rfl) (t := 160) (by decide) ?_
                          exact p_iret (z_dec zd_X9_behind 85 rfl) rfl ⟨(by (conv => rhs; unfold gx_X9_behind_85); rw [if_neg h118, if_pos h133]), rfl, (z_3 (by (conv => rhs; unfold gx_X9_behind_85); rw [if_neg h118, if_pos h133]) rfl)⟩
                      · refine p_aload_n (z_dec zd_X9_behind 65 rfl) rfl 2 rfl (n := 122) rfl ?_
                        refine q_getR (z_dec zd_X9_behind 66 rfl) zf_X9_34 (i := 63) rfl rfl (n := 125) rfl ?_
                        refine p_iload_n (z_dec zd_X9_behind 67 rfl) rfl 5 rfl (n := 126) rfl ?_
                        refine q_iald (z_dec zd_X9_behind 68 rfl) rfl (by decide) (one.toNatClampNeg) (by rw [h54]; rfl) (by rw [h54]; decide) (v := (Iv 63 one.toNatClampNeg)) rfl (n := 127) rfl ?_
                        refine p_goto (z_dec zd_X9_behind 69 rfl) (t := 160) (by decide) ?_
                        exact p_iret (z_dec zd_X9_behind 85 rfl) rfl ⟨(by (conv => rhs; unfold gx_X9_behind_85); rw [if_pos h118]), rfl, (z_3 (by (conv => rhs; unfold gx_X9_behind_85); rw [if_pos h118]) rfl)⟩
                    · exact absurd ((by have := z_nge (a := n.toNatClampNeg) (b := t85) (by rw [← hn.1]; exact h88); exact this)) (by omega)
                  | succ r85 ih85 =>
                    intro t85 v5 Iv ht85 hlo
                    refine p_iload (z_dec zd_X9_behind 47 rfl) 0 rfl (n := 87) rfl ?_
                    refine p_iload_n (z_dec zd_X9_behind 48 rfl) rfl 4 rfl (n := 88) rfl ?_
                    refine p_icmp_ge (z_dec zd_X9_behind 49 rfl) (t := 116) (by decide) (n := 91) rfl (fun h88 => ?_) (fun h88 => ?_)
                    · exact absurd ((by have := z_ge (a := n.toNatClampNeg) (b := t85) (by rw [← hn.1]; exact h88); exact this)) (by omega)
                    · have hx85 : t85 < n.toNatClampNeg := by omega
                      refine p_iload (z_dec zd_X9_behind 50 rfl) 1 rfl (n := 93) rfl ?_
                      refine p_aload_n (z_dec zd_X9_behind 51 rfl) rfl 2 rfl (n := 94) rfl ?_
                      refine p_iload_n (z_dec zd_X9_behind 52 rfl) rfl 3 rfl (n := 95) rfl ?_
                      refine q_callV (As := [.int (nI sh.toNatClampNeg)]) (rest := [.int v5]) (z_dec zd_X9_behind 53 rfl) zk_X9_236 zv_X9_goesCard (c_X9_goesCard (d - 1) (by omega) b Iv L np hn10 hlo sh.toNatClampNeg hs.2) rfl ⟨_, _, rfl⟩ (by simp only [← hs.1]; rfl) rfl (Nat.le_of_ble_eq_true rfl) (by omega) (n := 98) rfl ?_
                      show PW zm_X9_behind d 98 [(6, .int (nI t85)), (5, .int v5), (0, .ref 54), (1, .int sh), (2, .int n), (3, .int one), (4, .int what)] [.int (f_X9_goesCard Iv L np sh.toNatClampNeg), .int v5] SH ((m_X9_goesCard Iv L np sh.toNatClampNeg), L, z_R b) 0 0 _
                      have hP98 : z_G np ((m_X9_goesCard Iv L np sh.toNatClampNeg)) := z_Ggc hlo
                      refine p_bipush (z_dec zd_X9_behind 54 rfl) (v := 16) (by decide) (n := 100) rfl ?_
                      refine p_irem (z_dec zd_X9_behind 55 rfl) (by decide) (n := 101) rfl ?_
                      refine p_iadd (z_dec zd_X9_behind 56 rfl) (n := 102) rfl ?_
                      refine p_istore (z_dec zd_X9_behind 57 rfl) (lv2 := [(5, .int (v5 + ((f_X9_goesCard Iv L np sh.toNatClampNeg) - (f_X9_goesCard Iv L np sh.toNatClampNeg) / 16 * 16))), (6, .int (nI t85)), (0, .ref 54), (1, .int sh), (2, .int n), (3, .int one), (4, .int what)]) (by decide) rfl (n := 104) rfl ?_
                      refine p_aload_n (z_dec zd_X9_behind 58 rfl) rfl 2 rfl (n := 105) rfl ?_
                      refine q_callV (As := []) (rest := []) (z_dec zd_X9_behind 59 rfl) zk_X9_241 zv_X9_endsDay (c_X9_endsDay (d - 1) (by omega) b (m_X9_goesCard Iv L np sh.toNatClampNeg) L np hP98.1 hn10) rfl ⟨_, _, rfl⟩ rfl rfl (Nat.le_of_ble_eq_true rfl) (by omega) (n := 108) rfl ?_
                      show PW zm_X9_behind d 108 [(5, .int (v5 + ((f_X9_goesCard Iv L np sh.toNatClampNeg) - (f_X9_goesCard Iv L np sh.toNatClampNeg) / 16 * 16))), (6, .int (nI t85)), (0, .ref 54), (1, .int sh), (2, .int n), (3, .int one), (4, .int what)] [.int (f_X9_endsDay (m_X9_goesCard Iv L np sh.toNatClampNeg) np)] SH ((m_X9_endsDay (m_X9_goesCard Iv L np sh.toNatClampNeg) np), L, z_R b) 0 0 _
                      have hP108 : z_G np ((m_X9_endsDay (m_X9_goesCard Iv L np sh.toNatClampNeg) np)) := z_Gen hP98
                      refine p_istore (z_dec zd_X9_behind 60 rfl) (lv2 := [(7, .int (f_X9_endsDay (m_X9_goesCard Iv L np sh.toNatClampNeg) np)), (5, .int (v5 + ((f_X9_goesCard Iv L np sh.toNatClampNeg) - (f_X9_goesCard Iv L np sh.toNatClampNeg) / 16 * 16))), (6, .int (nI t85)), (0, .ref 54), (1, .int sh), (2, .int n), (3, .int one), (4, .int what)]) (by decide) rfl (n := 110) rfl ?_
                      refine p_iinc (z_dec zd_X9_behind 61 rfl) 2 rfl (v := (nI (t85 + 1))) (nI_1 _) (lv2 := [(6, .int (nI (t85 + 1))), (7, .int (f_X9_endsDay (m_X9_goesCard Iv L np sh.toNatClampNeg) np)), (5, .int (v5 + ((f_X9_goesCard Iv L np sh.toNatClampNeg) - (f_X9_goesCard Iv L np sh.toNatClampNeg) / 16 * 16))), (0, .ref 54), (1, .int sh), (2, .int n), (3, .int one), (4, .int what)]) (by decide) rfl (n := 113) rfl ?_
                      refine p_goto (z_dec zd_X9_behind 62 rfl) (t := 85) (by decide) ?_
                      refine z_sub (lv' := [(6, .int (nI (t85 + 1))), (5, .int (v5 + ((f_X9_goesCard Iv L np sh.toNatClampNeg) - (f_X9_goesCard Iv L np sh.toNatClampNeg) / 16 * 16))), (0, .ref 54), (1, .int sh), (2, .int n), (3, .int one), (4, .int what)]) [0, 2, 3, 4, 5, 6, 7] rfl ?_
                      rw [show gx_X9_behind_85 L np sh one what (r85 + 1) t85 v5 Iv = gx_X9_behind_85 L np sh one what r85 (t85 + 1) (v5 + ((f_X9_goesCard Iv L np sh.toNatClampNeg) - (f_X9_goesCard Iv L np sh.toNatClampNeg) / 16 * 16)) (m_X9_endsDay (m_X9_goesCard Iv L np sh.toNatClampNeg) np) from by rfl]
                      exact ih85 (t85 + 1) (v5 + ((f_X9_goesCard Iv L np sh.toNatClampNeg) - (f_X9_goesCard Iv L np sh.toNatClampNeg) / 16 * 16)) (m_X9_endsDay (m_X9_goesCard Iv L np sh.toNatClampNeg) np) (by omega) hP108
                exact (by have q := (hL85 n.toNatClampNeg 0 0 (m_X9_begins I np) (by omega) hP79); (rw [show f_X9_behind I L np sh n one what = _ from by unfold f_X9_behind; rw [if_neg h7, if_neg h19, if_neg h32, if_pos h38, if_pos h54, if_pos h65]]); (rw [show m_X9_behind I L np sh n one what = _ from by unfold m_X9_behind; rw [if_neg h7, if_neg h19, if_neg h32, if_pos h38, if_pos h54, if_pos h65]]); exact q)
              · refine p_aload_n (z_dec zd_X9_behind 36 rfl) rfl 0 rfl (n := 69) rfl ?_
                refine p_iload_n (z_dec zd_X9_behind 37 rfl) rfl 1 rfl (n := 70) rfl ?_
                refine p_iconst (z_dec zd_X9_behind 38 rfl) (v := 0) (by decide) (n := 71) rfl ?_
                refine q_callV (As := [.int sh, .int 0]) (rest := []) (z_dec zd_X9_behind 39 rfl) zk_X9_233 zv_X9_rowIs (c_X9_rowIs (d - 1) (by omega) b I L sh 0) rfl ⟨_, _, rfl⟩ rfl rfl (Nat.le_of_ble_eq_true rfl) (by omega) (n := 74) rfl ?_
                show PW zm_X9_behind d 74 [(0, .ref 54), (1, .int sh), (2, .int n), (3, .int one), (4, .int what)] [.int (f_X9_rowIs I sh 0)] SH (I, L, z_R b) 0 0 _
                exact p_iret (z_dec zd_X9_behind 40 rfl) rfl ⟨(by unfold f_X9_behind; rw [if_neg h7, if_neg h19, if_neg h32, if_pos h38, if_pos h54, if_neg h65]), rfl, (z_3 (by unfold m_X9_behind; rw [if_neg h7, if_neg h19, if_neg h32, if_pos h38, if_pos h54, if_neg h65]) rfl)⟩
            · refine p_iconst (z_dec zd_X9_behind 29 rfl) (v := (-1)) (by decide) (n := 58) rfl ?_
              exact p_iret (z_dec zd_X9_behind 30 rfl) rfl ⟨(by unfold f_X9_behind; rw [if_neg h7, if_neg h19, if_neg h32, if_pos h38, if_neg h54]), rfl, (z_3 (by unfold m_X9_behind; rw [if_neg h7, if_neg h19, if_neg h32, if_pos h38, if_neg h54]) rfl)⟩
          · refine p_aload_n (z_dec zd_X9_behind 21 rfl) rfl 0 rfl (n := 42) rfl ?_
            refine p_iload_n (z_dec zd_X9_behind 22 rfl) rfl 3 rfl (n := 43) rfl ?_
            refine p_i2l (z_dec zd_X9_behind 23 rfl) (n := 44) rfl ?_
            refine q_callV (As := [.long (one.toInt64)]) (rest := []) (z_dec zd_X9_behind 24 rfl) zk_X9_121 zv_X9_isOne (c_X9_isOne (d - 1) (by omega) b I L np hG.1 hn10 (one.toInt64)) rfl ⟨_, _, rfl⟩ rfl rfl (Nat.le_of_ble_eq_true rfl) (by omega) (n := 47) rfl ?_
            show PW zm_X9_behind d 47 [(0, .ref 54), (1, .int sh), (2, .int n), (3, .int one), (4, .int what)] [.int (f_X9_isOne np (one.toInt64))] SH (I, L, z_R b) 0 0 _
            refine p_if_ne (z_dec zd_X9_behind 25 rfl) (t := 59) (by decide) (n := 50) rfl (fun h47 => ?_) (fun h47 => ?_)
            · have ho := z_one hn10 h47
              refine p_aload_n (z_dec zd_X9_behind 31 rfl) rfl 0 rfl (n := 60) rfl ?_
              refine p_iload_n (z_dec zd_X9_behind 32 rfl) rfl 1 rfl (n := 61) rfl ?_
              refine p_iconst (z_dec zd_X9_behind 33 rfl) (v := 0) (by decide) (n := 62) rfl ?_
              refine q_callV (As := [.int sh, .int 0]) (rest := []) (z_dec zd_X9_behind 34 rfl) zk_X9_233 zv_X9_rowIs (c_X9_rowIs (d - 1) (by omega) b I L sh 0) rfl ⟨_, _, rfl⟩ rfl rfl (Nat.le_of_ble_eq_true rfl) (by omega) (n := 65) rfl ?_
              show PW zm_X9_behind d 65 [(0, .ref 54), (1, .int sh), (2, .int n), (3, .int one), (4, .int what)] [.int (f_X9_rowIs I sh 0)] SH (I, L, z_R b) 0 0 _
              refine p_if_ge (z_dec zd_X9_behind 35 rfl) (t := 75) (by decide) (n := 68) rfl (fun h65 => ?_) (fun h65 => ?_)
              · have hs := z_rwI h65
                refine p_aload_n (z_dec zd_X9_behind 41 rfl) rfl 0 rfl (n := 76) rfl ?_
                refine q_callV (As := []) (rest := []) (z_dec zd_X9_behind 42 rfl) zk_X9_206 zv_X9_begins (c_X9_begins (d - 1) (by omega) b I L np hG.1 hn10) rfl ⟨_, _, rfl⟩ rfl rfl (Nat.le_of_ble_eq_true rfl) (by omega) (n := 79) rfl ?_
                show PW zm_X9_behind d 79 [(0, .ref 54), (1, .int sh), (2, .int n), (3, .int one), (4, .int what)] [] SH ((m_X9_begins I np), L, z_R b) 0 0 _
                have hP79 : z_G np ((m_X9_begins I np)) := z_Gbg hG
                refine p_iconst (z_dec zd_X9_behind 43 rfl) (v := 0) (by decide) (n := 80) rfl ?_
                refine p_istore (z_dec zd_X9_behind 44 rfl) (lv2 := [(5, .int 0), (0, .ref 54), (1, .int sh), (2, .int n), (3, .int one), (4, .int what)]) (by decide) rfl (n := 82) rfl ?_
                refine p_iconst (z_dec zd_X9_behind 45 rfl) (v := 0) (by decide) (n := 83) rfl ?_
                refine p_istore (z_dec zd_X9_behind 46 rfl) (lv2 := [(6, .int 0), (5, .int 0), (0, .ref 54), (1, .int sh), (2, .int n), (3, .int one), (4, .int what)]) (by decide) rfl (n := 85) rfl ?_
                have hL85 : ∀ (r85 t85 : Nat) (v5 : Int32) (Iv : Nat → Nat → Int32), t85 + r85 = n.toNatClampNeg → z_G np Iv → PW zm_X9_behind d 85 [(6, .int (nI t85)), (5, .int v5), (0, .ref 54), (1, .int sh), (2, .int n), (3, .int one), (4, .int what)] [] SH (Iv, L, z_R b) 0 0 (z_ret (some (.int (gx_X9_behind_85 L np sh one what r85 t85 v5 Iv).1)) ((gx_X9_behind_85 L np sh one what r85 t85 v5 Iv).2, L, z_R b)) := by
                  intro r85
                  induction r85 with
                  | zero =>
                    intro t85 v5 Iv ht85 hlo
                    refine p_iload (z_dec zd_X9_behind 47 rfl) 0 rfl (n := 87) rfl ?_
                    refine p_iload_n (z_dec zd_X9_behind 48 rfl) rfl 4 rfl (n := 88) rfl ?_
                    refine p_icmp_ge (z_dec zd_X9_behind 49 rfl) (t := 116) (by decide) (n := 91) rfl (fun h88 => ?_) (fun h88 => ?_)
                    · refine p_iload (z_dec zd_X9_behind 63 rfl) 6 rfl (n := 118) rfl ?_
                      refine p_if_ne (z_dec zd_X9_behind 64 rfl) (t := 130) (by decide) (n := 121) rfl (fun h118 => ?_) (fun h118 => ?_)
                      · refine p_iload (z_dec zd_X9_behind 70 rfl) 6 rfl (n := 132) rfl ?_
                        refine p_iconst (z_dec zd_X9_behind 71 rfl) (v := 1) (by decide) (n := 133) rfl ?_
                        refine p_icmp_ne (z_dec zd_X9_behind 72 rfl) (t := 145) (by decide) (n := 136) rfl (fun h133 => ?_) (fun h133 => ?_)
                        · refine p_iload (z_dec zd_X9_behind 78 rfl) 6 rfl (n := 147) rfl ?_
                          refine p_iconst (z_dec zd_X9_behind 79 rfl) (v := 2) (by decide) (n := 148) rfl ?_
                          refine p_icmp_ne (z_dec zd_X9_behind 80 rfl) (t := 158) (by decide) (n := 151) rfl (fun h148 => ?_) (fun h148 => ?_)
                          · refine p_iload (z_dec zd_X9_behind 84 rfl) 1 rfl (n := 160) rfl ?_
                            exact p_iret (z_dec zd_X9_behind 85 rfl) rfl ⟨(by (conv => rhs; unfold gx_X9_behind_85); rw [if_neg h118, if_neg h133, if_neg h148]), rfl, (z_3 (by (conv => rhs; unfold gx_X9_behind_85); rw [if_neg h118, if_neg h133, if_neg h148]) rfl)⟩
                          · refine p_aload_n (z_dec zd_X9_behind 81 rfl) rfl 2 rfl (n := 152) rfl ?_
                            refine q_callV (As := []) (rest := []) (z_dec zd_X9_behind 82 rfl) zk_X9_213 zv_X9_judgesNow (c_X9_judgesNow (d - 1) (by omega) b Iv L np hlo.1 hn10) rfl ⟨_, _, rfl⟩ rfl rfl (Nat.le_of_ble_eq_true rfl) (by omega) (n := 155) rfl ?_
                            show PW zm_X9_behind d 155 [(6, .int (nI t85)), (5, .int v5), (0, .ref 54), (1, .int sh), (2, .int n), (3, .int one), (4, .int what)] [.int (f_X9_judgesNow Iv np)] SH (Iv, L, z_R b) 0 0 _
                            refine p_goto (z_dec zd_X9_behind 83 rfl) (t := 160) (by decide) ?_
                            exact p_iret (z_dec zd_X9_behind 85 rfl) rfl ⟨(by (conv => rhs; unfold gx_X9_behind_85); rw [if_neg h118, if_neg h133, if_pos h148]), rfl, (z_3 (by (conv => rhs; unfold gx_X9_behind_85); rw [if_neg h118, if_neg h133, if_pos h148]) rfl)⟩
                        · refine p_aload_n (z_dec zd_X9_behind 73 rfl) rfl 2 rfl (n := 137) rfl ?_
                          refine q_getR (z_dec zd_X9_behind 74 rfl) zf_X9_31 (i := 62) rfl rfl (n := 140) rfl ?_
                          refine p_iload_n (z_dec zd_X9_behind 75 rfl) rfl 5 rfl (n := 141) rfl ?_
                          refine q_iald (z_dec zd_X9_behind 76 rfl) rfl (by decide) (one.toNatClampNeg) ho.1 (Nat.lt_of_lt_of_le ho.2 hn10) (v := (Iv 62 one.toNatClampNeg)) rfl (n := 142) rfl ?_
                          refine p_goto (z_dec zd_X9_behind 77 rfl) (t := 160) (by decide) ?_
                          exact p_iret (z_dec zd_X9_behind 85 rfl) rfl ⟨(by (conv => rhs; unfold gx_X9_behind_85); rw [if_neg h118, if_pos h133]), rfl, (z_3 (by (conv => rhs; unfold gx_X9_behind_85); rw [if_neg h118, if_pos h133]) rfl)⟩
                      · refine p_aload_n (z_dec zd_X9_behind 65 rfl) rfl 2 rfl (n := 122) rfl ?_
                        refine q_getR (z_dec zd_X9_behind 66 rfl) zf_X9_34 (i := 63) rfl rfl (n := 125) rfl ?_
                        refine p_iload_n (z_dec zd_X9_behind 67 rfl) rfl 5 rfl (n := 126) rfl ?_
                        refine q_iald (z_dec zd_X9_behind 68 rfl) rfl (by decide) (one.toNatClampNeg) ho.1 (Nat.lt_of_lt_of_le ho.2 hn10) (v := (Iv 63 one.toNatClampNeg)) rfl (n := 127) rfl ?_
                        refine p_goto (z_dec zd_X9_behind 69 rfl) (t := 160) (by decide) ?_
                        exact p_iret (z_dec zd_X9_behind 85 rfl) rfl ⟨(by (conv => rhs; unfold gx_X9_behind_85); rw [if_pos h118]), rfl, (z_3 (by (conv => rhs; unfold gx_X9_behind_85); rw [if_pos h118]) rfl)⟩
                    · exact absurd ((by have := z_nge (a := n.toNatClampNeg) (b := t85) (by rw [← hn.1]; exact h88); exact this)) (by omega)
                  | succ r85 ih85 =>
                    intro t85 v5 Iv ht85 hlo
                    refine p_iload (z_dec zd_X9_behind 47 rfl) 0 rfl (n := 87) rfl ?_
                    refine p_iload_n (z_dec zd_X9_behind 48 rfl) rfl 4 rfl (n := 88) rfl ?_
                    refine p_icmp_ge (z_dec zd_X9_behind 49 rfl) (t := 116) (by decide) (n := 91) rfl (fun h88 => ?_) (fun h88 => ?_)
                    · exact absurd ((by have := z_ge (a := n.toNatClampNeg) (b := t85) (by rw [← hn.1]; exact h88); exact this)) (by omega)
                    · have hx85 : t85 < n.toNatClampNeg := by omega
                      refine p_iload (z_dec zd_X9_behind 50 rfl) 1 rfl (n := 93) rfl ?_
                      refine p_aload_n (z_dec zd_X9_behind 51 rfl) rfl 2 rfl (n := 94) rfl ?_
                      refine p_iload_n (z_dec zd_X9_behind 52 rfl) rfl 3 rfl (n := 95) rfl ?_
                      refine q_callV (As := [.int (nI sh.toNatClampNeg)]) (rest := [.int v5]) (z_dec zd_X9_behind 53 rfl) zk_X9_236 zv_X9_goesCard (c_X9_goesCard (d - 1) (by omega) b Iv L np hn10 hlo sh.toNatClampNeg hs.2) rfl ⟨_, _, rfl⟩ (by simp only [← hs.1]; rfl) rfl (Nat.le_of_ble_eq_true rfl) (by omega) (n := 98) rfl ?_
                      show PW zm_X9_behind d 98 [(6, .int (nI t85)), (5, .int v5), (0, .ref 54), (1, .int sh), (2, .int n), (3, .int one), (4, .int what)] [.int (f_X9_goesCard Iv L np sh.toNatClampNeg), .int v5] SH ((m_X9_goesCard Iv L np sh.toNatClampNeg), L, z_R b) 0 0 _
                      have hP98 : z_G np ((m_X9_goesCard Iv L np sh.toNatClampNeg)) := z_Ggc hlo
                      refine p_bipush (z_dec zd_X9_behind 54 rfl) (v := 16) (by decide) (n := 100) rfl ?_
                      refine p_irem (z_dec zd_X9_behind 55 rfl) (by decide) (n := 101) rfl ?_
                      refine p_iadd (z_dec zd_X9_behind 56 rfl) (n := 102) rfl ?_
                      refine p_istore (z_dec zd_X9_behind 57 rfl) (lv2 := [(5, .int (v5 + ((f_X9_goesCard Iv L np sh.toNatClampNeg) - (f_X9_goesCard Iv L np sh.toNatClampNeg) / 16 * 16))), (6, .int (nI t85)), (0, .ref 54), (1, .int sh), (2, .int n), (3, .int one), (4, .int what)]) (by decide) rfl (n := 104) rfl ?_
                      refine p_aload_n (z_dec zd_X9_behind 58 rfl) rfl 2 rfl (n := 105) rfl ?_
                      refine q_callV (As := []) (rest := []) (z_dec zd_X9_behind 59 rfl) zk_X9_241 zv_X9_endsDay (c_X9_endsDay (d - 1) (by omega) b (m_X9_goesCard Iv L np sh.toNatClampNeg) L np hP98.1 hn10) rfl ⟨_, _, rfl⟩ rfl rfl (Nat.le_of_ble_eq_true rfl) (by omega) (n := 108) rfl ?_
                      show PW zm_X9_behind d 108 [(5, .int (v5 + ((f_X9_goesCard Iv L np sh.toNatClampNeg) - (f_X9_goesCard Iv L np sh.toNatClampNeg) / 16 * 16))), (6, .int (nI t85)), (0, .ref 54), (1, .int sh), (2, .int n), (3, .int one), (4, .int what)] [.int (f_X9_endsDay (m_X9_goesCard Iv L np sh.toNatClampNeg) np)] SH ((m_X9_endsDay (m_X9_goesCard Iv L np sh.toNatClampNeg) np), L, z_R b) 0 0 _
                      have hP108 : z_G np ((m_X9_endsDay (m_X9_goesCard Iv L np sh.toNatClampNeg) np)) := z_Gen hP98
                      refine p_istore (z_dec zd_X9_behind 60 rfl) (lv2 := [(7, .int (f_X9_endsDay (m_X9_goesCard Iv L np sh.toNatClampNeg) np)), (5, .int (v5 + ((f_X9_goesCard Iv L np sh.toNatClampNeg) - (f_X9_goesCard Iv L np sh.toNatClampNeg) / 16 * 16))), (6, .int (nI t85)), (0, .ref 54), (1, .int sh), (2, .int n), (3, .int one), (4, .int what)]) (by decide) rfl (n := 110) rfl ?_
                      refine p_iinc (z_dec zd_X9_behind 61 rfl) 2 rfl (v := (nI (t85 + 1))) (nI_1 _) (lv2 := [(6, .int (nI (t85 + 1))), (7, .int (f_X9_endsDay (m_X9_goesCard Iv L np sh.toNatClampNeg) np)), (5, .int (v5 + ((f_X9_goesCard Iv L np sh.toNatClampNeg) - (f_X9_goesCard Iv L np sh.toNatClampNeg) / 16 * 16))), (0, .ref 54), (1, .int sh), (2, .int n), (3, .int one), (4, .int what)]) (by decide) rfl (n := 113) rfl ?_
                      refine p_goto (z_dec zd_X9_behind 62 rfl) (t := 85) (by decide) ?_
                      refine z_sub (lv' := [(6, .int (nI (t85 + 1))), (5, .int (v5 + ((f_X9_goesCard Iv L np sh.toNatClampNeg) - (f_X9_goesCard Iv L np sh.toNatClampNeg) / 16 * 16))), (0, .ref 54), (1, .int sh), (2, .int n), (3, .int one), (4, .int what)]) [0, 2, 3, 4, 5, 6, 7] rfl ?_
                      rw [show gx_X9_behind_85 L np sh one what (r85 + 1) t85 v5 Iv = gx_X9_behind_85 L np sh one what r85 (t85 + 1) (v5 + ((f_X9_goesCard Iv L np sh.toNatClampNeg) - (f_X9_goesCard Iv L np sh.toNatClampNeg) / 16 * 16)) (m_X9_endsDay (m_X9_goesCard Iv L np sh.toNatClampNeg) np) from by rfl]
                      exact ih85 (t85 + 1) (v5 + ((f_X9_goesCard Iv L np sh.toNatClampNeg) - (f_X9_goesCard Iv L np sh.toNatClampNeg) / 16 * 16)) (m_X9_endsDay (m_X9_goesCard Iv L np sh.toNatClampNeg) np) (by omega) hP108
                exact (by have q := (hL85 n.toNatClampNeg 0 0 (m_X9_begins I np) (by omega) hP79); (rw [show f_X9_behind I L np sh n one what = _ from by unfold f_X9_behind; rw [if_neg h7, if_neg h19, if_neg h32, if_neg h38, if_neg h47, if_pos h65]]); (rw [show m_X9_behind I L np sh n one what = _ from by unfold m_X9_behind; rw [if_neg h7, if_neg h19, if_neg h32, if_neg h38, if_neg h47, if_pos h65]]); exact q)
              · refine p_aload_n (z_dec zd_X9_behind 36 rfl) rfl 0 rfl (n := 69) rfl ?_
                refine p_iload_n (z_dec zd_X9_behind 37 rfl) rfl 1 rfl (n := 70) rfl ?_
                refine p_iconst (z_dec zd_X9_behind 38 rfl) (v := 0) (by decide) (n := 71) rfl ?_
                refine q_callV (As := [.int sh, .int 0]) (rest := []) (z_dec zd_X9_behind 39 rfl) zk_X9_233 zv_X9_rowIs (c_X9_rowIs (d - 1) (by omega) b I L sh 0) rfl ⟨_, _, rfl⟩ rfl rfl (Nat.le_of_ble_eq_true rfl) (by omega) (n := 74) rfl ?_
                show PW zm_X9_behind d 74 [(0, .ref 54), (1, .int sh), (2, .int n), (3, .int one), (4, .int what)] [.int (f_X9_rowIs I sh 0)] SH (I, L, z_R b) 0 0 _
                exact p_iret (z_dec zd_X9_behind 40 rfl) rfl ⟨(by unfold f_X9_behind; rw [if_neg h7, if_neg h19, if_neg h32, if_neg h38, if_neg h47, if_neg h65]), rfl, (z_3 (by unfold m_X9_behind; rw [if_neg h7, if_neg h19, if_neg h32, if_neg h38, if_neg h47, if_neg h65]) rfl)⟩
            · refine p_goto (z_dec zd_X9_behind 26 rfl) (t := 57) (by decide) ?_
              refine p_iconst (z_dec zd_X9_behind 29 rfl) (v := (-1)) (by decide) (n := 58) rfl ?_
              exact p_iret (z_dec zd_X9_behind 30 rfl) rfl ⟨(by unfold f_X9_behind; rw [if_neg h7, if_neg h19, if_neg h32, if_neg h38, if_pos h47]), rfl, (z_3 (by unfold m_X9_behind; rw [if_neg h7, if_neg h19, if_neg h32, if_neg h38, if_pos h47]) rfl)⟩
  exact hentry
