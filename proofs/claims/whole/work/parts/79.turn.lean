/-- the players of Turns' yard, the law's length -/
def yq_T (np sz : Nat) (I : Nat → Nat → Int32) : Prop := I 79 0 = nI np ∧ I 13 4 = nI sz
theorem yq_To {np sz : Nat} {I : Nat → Nat → Int32} (h : yq_T np sz I) (b : Bool) (s k : Nat) (x y z : Int32) : yq_T np sz (m_X1_oddsOn b I s k x y z) := ⟨(z_ooO b I s k x y z 79 0 (by decide) (Or.inl (by decide))).trans h.1, (z_ooO b I s k x y z 13 4 (by decide) (Or.inr (by decide))).trans h.2⟩
theorem yq_bc0 (I : Nat → Nat → Int32) (one v : Int32) : m_X7_become I 79 one 1 v 79 0 = I 79 0 := by
  unfold m_X7_become
  rw [if_neg (by decide), if_neg (by decide)]
  by_cases q : f_X7_has I 79 one = 0
  · rw [if_pos q]
  · rw [if_neg q, if_neg (by decide), if_pos rfl, z_up_k _ _ (by decide)]
theorem yq_Tb {np sz : Nat} {I : Nat → Nat → Int32} (h : yq_T np sz I) (one v : Int32) : yq_T np sz (m_X7_become I 79 one 1 v) := ⟨(yq_bc0 I one v).trans h.1, (z_becO I one 1 v 4 (Or.inl (by decide))).trans h.2⟩
theorem yq_Tu {np sz : Nat} {I : Nat → Nat → Int32} (h : yq_T np sz I) {k : Nat} (h1 : k ≠ 79) (h2 : k ≠ 13) (j : Nat) (v : Int32) : yq_T np sz (z_up I k j v) := ⟨(z_up_k _ _ (fun q => h1 q.symm)).trans h.1, (z_up_k _ _ (fun q => h2 q.symm)).trans h.2⟩
theorem yq_100 {x : Int32} (h1 : ¬ x < 0) (h2 : x < 100) : x = nI x.toNatClampNeg ∧ x.toNatClampNeg < 100 := z_inN (N := 100) h1 (Int32.not_le.mpr h2) (by omega)
def gb_X6_begin_31 (I : Nat → Nat → Int32) (np : Nat) (ab : Int32) (i31 : Nat) (s : (Nat → Nat → Int32)) : (Nat → Nat → Int32) := (z_up s 32 i31 (-1))
def g_X6_begin_31 (I : Nat → Nat → Int32) (np : Nat) (ab : Int32) : Nat → (Nat → Nat → Int32)
  | 0 => (z_up (z_up (m_X7_copyAll_79 I np) 31 1 ab) 31 2 (f_X7_numberOf (z_up (m_X7_copyAll_79 I np) 31 1 ab) 79 (ab - ab / 10 * 10) 1))
  | i31 + 1 => gb_X6_begin_31 I np ab i31 (g_X6_begin_31 I np ab i31)
def m_X6_begin (I : Nat → Nat → Int32) (np : Nat) (ab : Int32) : Nat → Nat → Int32 := (g_X6_begin_31 I np ab 100)
set_option maxHeartbeats 1000000 in
set_option maxRecDepth 100000 in
theorem c_X6_begin (d : Nat) (hd : 3 ≤ d) (b : Bool) (I : Nat → Nat → Int32) (L : Nat → Nat → Int64) (np : Nat) (hn10 : np ≤ 10) (sz : Nat) (hs121 : sz ≤ 121) (hT : yq_A np sz I) (ab : Int32) : z_CT zm_X6_begin d [.ref 31, .int ab, .ref 1] SH (I, L, z_R b) 0 0 (z_ret (none) ((m_X6_begin I np ab), L, z_R b)) := by
  refine z_enter (by decide +kernel) (Nat.le_of_ble_eq_true rfl) ?_
  have hentry : PW zm_X6_begin d 0 [(0, .ref 31), (1, .int ab), (2, .ref 1)] [] SH (I, L, z_R b) 0 0 (z_ret (none) ((m_X6_begin I np ab), L, z_R b)) := by
    refine p_aload_n (z_dec zd_X6_begin 0 rfl) rfl 0 rfl (n := 1) rfl ?_
    refine q_getR (z_dec zd_X6_begin 1 rfl) zf_X6_12 (i := 79) rfl rfl (n := 4) rfl ?_
    refine p_aload_n (z_dec zd_X6_begin 2 rfl) rfl 2 rfl (n := 5) rfl ?_
    refine q_callV (As := [.ref 1]) (rest := []) (z_dec zd_X6_begin 3 rfl) zk_X6_29 zv_X7_copyAll (c_X7_copyAll_79 (d - 1) (by omega) b I L np hT.1 hn10) rfl ⟨_, _, rfl⟩ rfl rfl (Nat.le_of_ble_eq_true rfl) (by omega) (n := 8) rfl ?_
    show PW zm_X6_begin d 8 [(0, .ref 31), (1, .int ab), (2, .ref 1)] [] SH ((m_X7_copyAll_79 I np), L, z_R b) 0 0 _
    have hP8 : yq_T np sz ((m_X7_copyAll_79 I np)) := ⟨z_cp79 I np, (z_cpF79 I np 13 4 (by omega)).trans hT.2⟩
    refine p_aload_n (z_dec zd_X6_begin 4 rfl) rfl 0 rfl (n := 9) rfl ?_
    refine p_iload_n (z_dec zd_X6_begin 5 rfl) rfl 1 rfl (n := 10) rfl ?_
    refine q_putI (z_dec zd_X6_begin 6 rfl) zp_X6_18 (fun q => by cases q) rfl (n := 13) rfl ?_
    have hP13 : yq_T np sz ((z_up (m_X7_copyAll_79 I np) 31 1 ab)) := ⟨(z_up_k _ _ (by decide)).trans hP8.1, (z_up_k _ _ (by decide)).trans hP8.2⟩
    refine p_aload_n (z_dec zd_X6_begin 7 rfl) rfl 0 rfl (n := 14) rfl ?_
    refine p_aload_n (z_dec zd_X6_begin 8 rfl) rfl 0 rfl (n := 15) rfl ?_
    refine q_getR (z_dec zd_X6_begin 9 rfl) zf_X6_12 (i := 79) rfl rfl (n := 18) rfl ?_
    refine p_iload_n (z_dec zd_X6_begin 10 rfl) rfl 1 rfl (n := 19) rfl ?_
    refine p_bipush (z_dec zd_X6_begin 11 rfl) (v := 10) (by decide) (n := 21) rfl ?_
    refine p_irem (z_dec zd_X6_begin 12 rfl) (by decide) (n := 22) rfl ?_
    refine p_iconst (z_dec zd_X6_begin 13 rfl) (v := 1) (by decide) (n := 23) rfl ?_
    refine q_callV (As := [.int (ab - ab / 10 * 10), .int 1]) (rest := [.ref 31]) (z_dec zd_X6_begin 14 rfl) zk_X6_33 zv_X7_numberOf (c_X7_numberOf (d - 1) (by omega) b (z_up (m_X7_copyAll_79 I np) 31 1 ab) L 79 (z_Yd79 b) np hP13.1 hn10 (ab - ab / 10 * 10) 1) rfl ⟨_, _, rfl⟩ rfl rfl (Nat.le_of_ble_eq_true rfl) (by omega) (n := 26) rfl ?_
    show PW zm_X6_begin d 26 [(0, .ref 31), (1, .int ab), (2, .ref 1)] [.int (f_X7_numberOf (z_up (m_X7_copyAll_79 I np) 31 1 ab) 79 (ab - ab / 10 * 10) 1), .ref 31] SH ((z_up (m_X7_copyAll_79 I np) 31 1 ab), L, z_R b) 0 0 _
    refine q_putI (z_dec zd_X6_begin 15 rfl) zp_X6_22 (fun q => by cases q) rfl (n := 29) rfl ?_
    refine p_iconst (z_dec zd_X6_begin 16 rfl) (v := 0) (by decide) (n := 30) rfl ?_
    refine p_istore_n (z_dec zd_X6_begin 17 rfl) rfl (lv2 := [(3, .int 0), (0, .ref 31), (1, .int ab), (2, .ref 1)]) (by decide) rfl (n := 31) rfl ?_
    have hL31 : ∀ i31, i31 ≤ 100 → PW zm_X6_begin d 31 [(3, .int (nI i31)), (0, .ref 31), (1, .int ab), (2, .ref 1)] [] SH ((g_X6_begin_31 I np ab i31), L, z_R b) 0 0 (z_ret (none) ((m_X6_begin I np ab), L, z_R b)) := by
      refine z_down 100 (fun i31 hi31 ih31 => ?_)
      refine p_iload_n (z_dec zd_X6_begin 18 rfl) rfl 0 rfl (n := 32) rfl ?_
      refine p_aload_n (z_dec zd_X6_begin 19 rfl) rfl 1 rfl (n := 33) rfl ?_
      refine q_getR (z_dec zd_X6_begin 20 rfl) zf_X6_25 (i := 32) rfl rfl (n := 36) rfl ?_
      refine p_alen (t := 0) (by decide) (z_dec zd_X6_begin 21 rfl) rfl (v := 100) rfl (n := 37) rfl ?_
      refine p_icmp_ge (z_dec zd_X6_begin 22 rfl) (t := 53) (by decide) (n := 40) rfl (fun h37 => ?_) (fun h37 => ?_)
      · have hx31 : i31 = 100 := by have := z_ge (a := 100) h37; omega
        rw [hx31]
        exact p_vret (z_dec zd_X6_begin 30 rfl) rfl ⟨rfl, rfl, (z_3 (by unfold m_X6_begin; rfl) rfl)⟩
      · have hx31 : i31 < 100 := by have := z_nge (a := 100) h37; omega
        refine p_aload_n (z_dec zd_X6_begin 23 rfl) rfl 1 rfl (n := 41) rfl ?_
        refine q_getR (z_dec zd_X6_begin 24 rfl) zf_X6_25 (i := 32) rfl rfl (n := 44) rfl ?_
        refine p_iload_n (z_dec zd_X6_begin 25 rfl) rfl 0 rfl (n := 45) rfl ?_
        refine p_iconst (z_dec zd_X6_begin 26 rfl) (v := (-1)) (by decide) (n := 46) rfl ?_
        refine q_iast (z_dec zd_X6_begin 27 rfl) rfl (by decide) (i31) rfl (by omega) (n := 47) rfl ?_
        refine p_iinc (z_dec zd_X6_begin 28 rfl) 0 rfl (v := (nI (i31 + 1))) (nI_1 _) (lv2 := [(3, .int (nI (i31 + 1))), (0, .ref 31), (1, .int ab), (2, .ref 1)]) (by decide) rfl (n := 50) rfl ?_
        refine p_goto (z_dec zd_X6_begin 29 rfl) (t := 31) (by decide) ?_
        have eb : (g_X6_begin_31 I np ab) (i31 + 1) = (z_up (g_X6_begin_31 I np ab i31) 32 i31 (-1)) := by show gb_X6_begin_31 I np ab i31 ((g_X6_begin_31 I np ab) i31) = _; unfold gb_X6_begin_31; rfl
        refine z_lv (lv' := [(3, .int (nI (i31 + 1))), (0, .ref 31), (1, .int ab), (2, .ref 1)]) rfl rfl (by rw [eb]) (ih31 (by omega))
    refine z_lv (lv' := [(3, .int (nI 0)), (0, .ref 31), (1, .int ab), (2, .ref 1)]) rfl rfl rfl (hL31 0 (Nat.zero_le _))
  exact hentry
def f_X6_oddsAt (b : Bool) (I : Nat → Nat → Int32) (sz : Nat) (g : Int32) : Int32 := if g < 0 then 0 else if g < 100 then if (I 32 g.toNatClampNeg) = (-1) then (f_X1_oddsOn b (m_X7_become I 79 ((I 31 1) - (I 31 1) / 10 * 10) 1 g) sz 79 (((m_X7_become I 79 ((I 31 1) - (I 31 1) / 10 * 10) 1 g) 31 1) / 100) ((((m_X7_become I 79 ((I 31 1) - (I 31 1) / 10 * 10) 1 g) 31 1) / 10) - (((m_X7_become I 79 ((I 31 1) - (I 31 1) / 10 * 10) 1 g) 31 1) / 10) / 10 * 10) (((m_X7_become I 79 ((I 31 1) - (I 31 1) / 10 * 10) 1 g) 31 1) - ((m_X7_become I 79 ((I 31 1) - (I 31 1) / 10 * 10) 1 g) 31 1) / 10 * 10)) else (I 32 g.toNatClampNeg) else 0
def m_X6_oddsAt (b : Bool) (I : Nat → Nat → Int32) (sz : Nat) (g : Int32) : Nat → Nat → Int32 := if g < 0 then I else if g < 100 then if (I 32 g.toNatClampNeg) = (-1) then (z_up (m_X1_oddsOn b (m_X7_become I 79 ((I 31 1) - (I 31 1) / 10 * 10) 1 g) sz 79 (((m_X7_become I 79 ((I 31 1) - (I 31 1) / 10 * 10) 1 g) 31 1) / 100) ((((m_X7_become I 79 ((I 31 1) - (I 31 1) / 10 * 10) 1 g) 31 1) / 10) - (((m_X7_become I 79 ((I 31 1) - (I 31 1) / 10 * 10) 1 g) 31 1) / 10) / 10 * 10) (((m_X7_become I 79 ((I 31 1) - (I 31 1) / 10 * 10) 1 g) 31 1) - ((m_X7_become I 79 ((I 31 1) - (I 31 1) / 10 * 10) 1 g) 31 1) / 10 * 10)) 32 g.toNatClampNeg (f_X1_oddsOn b (m_X7_become I 79 ((I 31 1) - (I 31 1) / 10 * 10) 1 g) sz 79 (((m_X7_become I 79 ((I 31 1) - (I 31 1) / 10 * 10) 1 g) 31 1) / 100) ((((m_X7_become I 79 ((I 31 1) - (I 31 1) / 10 * 10) 1 g) 31 1) / 10) - (((m_X7_become I 79 ((I 31 1) - (I 31 1) / 10 * 10) 1 g) 31 1) / 10) / 10 * 10) (((m_X7_become I 79 ((I 31 1) - (I 31 1) / 10 * 10) 1 g) 31 1) - ((m_X7_become I 79 ((I 31 1) - (I 31 1) / 10 * 10) 1 g) 31 1) / 10 * 10))) else I else I
set_option maxHeartbeats 1000000 in
set_option maxRecDepth 100000 in
theorem c_X6_oddsAt (d : Nat) (hd : 4 ≤ d) (b : Bool) (I : Nat → Nat → Int32) (L : Nat → Nat → Int64) (np : Nat) (hn10 : np ≤ 10) (sz : Nat) (hs121 : sz ≤ 121) (hT : yq_T np sz I) (g : Int32) : z_CT zm_X6_oddsAt d [.ref 31, .int g, .ref 13] SH (I, L, z_R b) 0 0 (z_ret (some (.int (f_X6_oddsAt b I sz g))) ((m_X6_oddsAt b I sz g), L, z_R b)) := by
  refine z_enter (by decide +kernel) (Nat.le_of_ble_eq_true rfl) ?_
  have hentry : PW zm_X6_oddsAt d 0 [(0, .ref 31), (1, .int g), (2, .ref 13)] [] SH (I, L, z_R b) 0 0 (z_ret (some (.int (f_X6_oddsAt b I sz g))) ((m_X6_oddsAt b I sz g), L, z_R b)) := by
    refine p_iload_n (z_dec zd_X6_oddsAt 0 rfl) rfl 1 rfl (n := 1) rfl ?_
    refine p_if_lt (z_dec zd_X6_oddsAt 1 rfl) (t := 13) (by decide) (n := 4) rfl (fun h1 => ?_) (fun h1 => ?_)
    · refine p_iconst (z_dec zd_X6_oddsAt 7 rfl) (v := 0) (by decide) (n := 14) rfl ?_
      exact p_iret (z_dec zd_X6_oddsAt 8 rfl) rfl ⟨(by unfold f_X6_oddsAt; rw [if_pos h1]), rfl, (z_3 (by unfold m_X6_oddsAt; rw [if_pos h1]) rfl)⟩
    · refine p_iload_n (z_dec zd_X6_oddsAt 2 rfl) rfl 1 rfl (n := 5) rfl ?_
      refine p_aload_n (z_dec zd_X6_oddsAt 3 rfl) rfl 0 rfl (n := 6) rfl ?_
      refine q_getR (z_dec zd_X6_oddsAt 4 rfl) zf_X6_25 (i := 32) rfl rfl (n := 9) rfl ?_
      refine p_alen (t := 0) (by decide) (z_dec zd_X6_oddsAt 5 rfl) rfl (v := 100) rfl (n := 10) rfl ?_
      refine p_icmp_lt (z_dec zd_X6_oddsAt 6 rfl) (t := 15) (by decide) (n := 13) rfl (fun h10 => ?_) (fun h10 => ?_)
      · have hg := yq_100 h1 h10
        refine p_aload_n (z_dec zd_X6_oddsAt 9 rfl) rfl 0 rfl (n := 16) rfl ?_
        refine q_getR (z_dec zd_X6_oddsAt 10 rfl) zf_X6_25 (i := 32) rfl rfl (n := 19) rfl ?_
        refine p_iload_n (z_dec zd_X6_oddsAt 11 rfl) rfl 1 rfl (n := 20) rfl ?_
        refine q_iald (z_dec zd_X6_oddsAt 12 rfl) rfl (by decide) (g.toNatClampNeg) hg.1 hg.2 (v := (I 32 g.toNatClampNeg)) rfl (n := 21) rfl ?_
        refine p_iconst (z_dec zd_X6_oddsAt 13 rfl) (v := (-1)) (by decide) (n := 22) rfl ?_
        refine p_icmp_ne (z_dec zd_X6_oddsAt 14 rfl) (t := 79) (by decide) (n := 25) rfl (fun h22 => ?_) (fun h22 => ?_)
        · refine p_aload_n (z_dec zd_X6_oddsAt 46 rfl) rfl 0 rfl (n := 80) rfl ?_
          refine q_getR (z_dec zd_X6_oddsAt 47 rfl) zf_X6_25 (i := 32) rfl rfl (n := 83) rfl ?_
          refine p_iload_n (z_dec zd_X6_oddsAt 48 rfl) rfl 1 rfl (n := 84) rfl ?_
          refine q_iald (z_dec zd_X6_oddsAt 49 rfl) rfl (by decide) (g.toNatClampNeg) hg.1 hg.2 (v := (I 32 g.toNatClampNeg)) rfl (n := 85) rfl ?_
          exact p_iret (z_dec zd_X6_oddsAt 50 rfl) rfl ⟨(by unfold f_X6_oddsAt; rw [if_neg h1, if_pos h10, if_neg h22]), rfl, (z_3 (by unfold m_X6_oddsAt; rw [if_neg h1, if_pos h10, if_neg h22]) rfl)⟩
        · refine p_aload_n (z_dec zd_X6_oddsAt 15 rfl) rfl 0 rfl (n := 26) rfl ?_
          refine q_getR (z_dec zd_X6_oddsAt 16 rfl) zf_X6_12 (i := 79) rfl rfl (n := 29) rfl ?_
          refine p_aload_n (z_dec zd_X6_oddsAt 17 rfl) rfl 0 rfl (n := 30) rfl ?_
          refine q_getI (z_dec zd_X6_oddsAt 18 rfl) zf_X6_18 (by decide) rfl (v := (I 31 1)) rfl (n := 33) rfl ?_
          refine p_bipush (z_dec zd_X6_oddsAt 19 rfl) (v := 10) (by decide) (n := 35) rfl ?_
          refine p_irem (z_dec zd_X6_oddsAt 20 rfl) (by decide) (n := 36) rfl ?_
          refine p_iconst (z_dec zd_X6_oddsAt 21 rfl) (v := 1) (by decide) (n := 37) rfl ?_
          refine p_iload_n (z_dec zd_X6_oddsAt 22 rfl) rfl 1 rfl (n := 38) rfl ?_
          refine q_callV (As := [.int ((I 31 1) - (I 31 1) / 10 * 10), .int 1, .int g]) (rest := []) (z_dec zd_X6_oddsAt 23 rfl) zk_X6_59 zv_X7_become (c_X7_become (d - 1) (by omega) b I L 79 (z_Yd79 b) np hT.1 hn10 ((I 31 1) - (I 31 1) / 10 * 10) 1 g) rfl ⟨_, _, rfl⟩ rfl rfl (Nat.le_of_ble_eq_true rfl) (by omega) (n := 41) rfl ?_
          show PW zm_X6_oddsAt d 41 [(0, .ref 31), (1, .int g), (2, .ref 13)] [] SH ((m_X7_become I 79 ((I 31 1) - (I 31 1) / 10 * 10) 1 g), L, z_R b) 0 0 _
          have hP41 : yq_T np sz ((m_X7_become I 79 ((I 31 1) - (I 31 1) / 10 * 10) 1 g)) := yq_Tb hT _ _
          refine p_aload_n (z_dec zd_X6_oddsAt 24 rfl) rfl 0 rfl (n := 42) rfl ?_
          refine q_getR (z_dec zd_X6_oddsAt 25 rfl) zf_X6_25 (i := 32) rfl rfl (n := 45) rfl ?_
          refine p_iload_n (z_dec zd_X6_oddsAt 26 rfl) rfl 1 rfl (n := 46) rfl ?_
          refine p_aload_n (z_dec zd_X6_oddsAt 27 rfl) rfl 2 rfl (n := 47) rfl ?_
          refine p_aload_n (z_dec zd_X6_oddsAt 28 rfl) rfl 0 rfl (n := 48) rfl ?_
          refine q_getR (z_dec zd_X6_oddsAt 29 rfl) zf_X6_12 (i := 79) rfl rfl (n := 51) rfl ?_
          refine p_aload_n (z_dec zd_X6_oddsAt 30 rfl) rfl 0 rfl (n := 52) rfl ?_
          refine q_getI (z_dec zd_X6_oddsAt 31 rfl) zf_X6_18 (by decide) rfl (v := ((m_X7_become I 79 ((I 31 1) - (I 31 1) / 10 * 10) 1 g) 31 1)) rfl (n := 55) rfl ?_
          refine p_bipush (z_dec zd_X6_oddsAt 32 rfl) (v := 100) (by decide) (n := 57) rfl ?_
          refine p_idiv (z_dec zd_X6_oddsAt 33 rfl) (by decide) (n := 58) rfl ?_
          refine p_aload_n (z_dec zd_X6_oddsAt 34 rfl) rfl 0 rfl (n := 59) rfl ?_
          refine q_getI (z_dec zd_X6_oddsAt 35 rfl) zf_X6_18 (by decide) rfl (v := ((m_X7_become I 79 ((I 31 1) - (I 31 1) / 10 * 10) 1 g) 31 1)) rfl (n := 62) rfl ?_
          refine p_bipush (z_dec zd_X6_oddsAt 36 rfl) (v := 10) (by decide) (n := 64) rfl ?_
          refine p_idiv (z_dec zd_X6_oddsAt 37 rfl) (by decide) (n := 65) rfl ?_
          refine p_bipush (z_dec zd_X6_oddsAt 38 rfl) (v := 10) (by decide) (n := 67) rfl ?_
          refine p_irem (z_dec zd_X6_oddsAt 39 rfl) (by decide) (n := 68) rfl ?_
          refine p_aload_n (z_dec zd_X6_oddsAt 40 rfl) rfl 0 rfl (n := 69) rfl ?_
          refine q_getI (z_dec zd_X6_oddsAt 41 rfl) zf_X6_18 (by decide) rfl (v := ((m_X7_become I 79 ((I 31 1) - (I 31 1) / 10 * 10) 1 g) 31 1)) rfl (n := 72) rfl ?_
          refine p_bipush (z_dec zd_X6_oddsAt 42 rfl) (v := 10) (by decide) (n := 74) rfl ?_
          refine p_irem (z_dec zd_X6_oddsAt 43 rfl) (by decide) (n := 75) rfl ?_
          refine q_callV (As := [.ref 79, .int (((m_X7_become I 79 ((I 31 1) - (I 31 1) / 10 * 10) 1 g) 31 1) / 100), .int ((((m_X7_become I 79 ((I 31 1) - (I 31 1) / 10 * 10) 1 g) 31 1) / 10) - (((m_X7_become I 79 ((I 31 1) - (I 31 1) / 10 * 10) 1 g) 31 1) / 10) / 10 * 10), .int (((m_X7_become I 79 ((I 31 1) - (I 31 1) / 10 * 10) 1 g) 31 1) - ((m_X7_become I 79 ((I 31 1) - (I 31 1) / 10 * 10) 1 g) 31 1) / 10 * 10)]) (rest := [.int g, .ref 32]) (z_dec zd_X6_oddsAt 44 rfl) zk_X6_63 zv_X1_oddsOn (c_X1_oddsOn (d - 1) (by omega) b (m_X7_become I 79 ((I 31 1) - (I 31 1) / 10 * 10) 1 g) L sz hP41.2 hs121 79 (z_Yd79 b) (((m_X7_become I 79 ((I 31 1) - (I 31 1) / 10 * 10) 1 g) 31 1) / 100) ((((m_X7_become I 79 ((I 31 1) - (I 31 1) / 10 * 10) 1 g) 31 1) / 10) - (((m_X7_become I 79 ((I 31 1) - (I 31 1) / 10 * 10) 1 g) 31 1) / 10) / 10 * 10) (((m_X7_become I 79 ((I 31 1) - (I 31 1) / 10 * 10) 1 g) 31 1) - ((m_X7_become I 79 ((I 31 1) - (I 31 1) / 10 * 10) 1 g) 31 1) / 10 * 10) np hP41.1 hn10) rfl ⟨_, _, rfl⟩ rfl rfl (Nat.le_of_ble_eq_true rfl) (by omega) (n := 78) rfl ?_
          show PW zm_X6_oddsAt d 78 [(0, .ref 31), (1, .int g), (2, .ref 13)] [.int (f_X1_oddsOn b (m_X7_become I 79 ((I 31 1) - (I 31 1) / 10 * 10) 1 g) sz 79 (((m_X7_become I 79 ((I 31 1) - (I 31 1) / 10 * 10) 1 g) 31 1) / 100) ((((m_X7_become I 79 ((I 31 1) - (I 31 1) / 10 * 10) 1 g) 31 1) / 10) - (((m_X7_become I 79 ((I 31 1) - (I 31 1) / 10 * 10) 1 g) 31 1) / 10) / 10 * 10) (((m_X7_become I 79 ((I 31 1) - (I 31 1) / 10 * 10) 1 g) 31 1) - ((m_X7_become I 79 ((I 31 1) - (I 31 1) / 10 * 10) 1 g) 31 1) / 10 * 10)), .int g, .ref 32] SH ((m_X1_oddsOn b (m_X7_become I 79 ((I 31 1) - (I 31 1) / 10 * 10) 1 g) sz 79 (((m_X7_become I 79 ((I 31 1) - (I 31 1) / 10 * 10) 1 g) 31 1) / 100) ((((m_X7_become I 79 ((I 31 1) - (I 31 1) / 10 * 10) 1 g) 31 1) / 10) - (((m_X7_become I 79 ((I 31 1) - (I 31 1) / 10 * 10) 1 g) 31 1) / 10) / 10 * 10) (((m_X7_become I 79 ((I 31 1) - (I 31 1) / 10 * 10) 1 g) 31 1) - ((m_X7_become I 79 ((I 31 1) - (I 31 1) / 10 * 10) 1 g) 31 1) / 10 * 10)), L, z_R b) 0 0 _
          refine q_iast (z_dec zd_X6_oddsAt 45 rfl) rfl (by decide) (g.toNatClampNeg) hg.1 hg.2 (n := 79) rfl ?_
          refine p_aload_n (z_dec zd_X6_oddsAt 46 rfl) rfl 0 rfl (n := 80) rfl ?_
          refine q_getR (z_dec zd_X6_oddsAt 47 rfl) zf_X6_25 (i := 32) rfl rfl (n := 83) rfl ?_
          refine p_iload_n (z_dec zd_X6_oddsAt 48 rfl) rfl 1 rfl (n := 84) rfl ?_
          refine q_iald (z_dec zd_X6_oddsAt 49 rfl) rfl (by decide) (g.toNatClampNeg) hg.1 hg.2 (v := (f_X1_oddsOn b (m_X7_become I 79 ((I 31 1) - (I 31 1) / 10 * 10) 1 g) sz 79 (((m_X7_become I 79 ((I 31 1) - (I 31 1) / 10 * 10) 1 g) 31 1) / 100) ((((m_X7_become I 79 ((I 31 1) - (I 31 1) / 10 * 10) 1 g) 31 1) / 10) - (((m_X7_become I 79 ((I 31 1) - (I 31 1) / 10 * 10) 1 g) 31 1) / 10) / 10 * 10) (((m_X7_become I 79 ((I 31 1) - (I 31 1) / 10 * 10) 1 g) 31 1) - ((m_X7_become I 79 ((I 31 1) - (I 31 1) / 10 * 10) 1 g) 31 1) / 10 * 10))) (z_up_s _ _ _ _) (n := 85) rfl ?_
          exact p_iret (z_dec zd_X6_oddsAt 50 rfl) rfl ⟨(by unfold f_X6_oddsAt; rw [if_neg h1, if_pos h10, if_pos h22]), rfl, (z_3 (by unfold m_X6_oddsAt; rw [if_neg h1, if_pos h10, if_pos h22]) rfl)⟩
      · refine p_iconst (z_dec zd_X6_oddsAt 7 rfl) (v := 0) (by decide) (n := 14) rfl ?_
        exact p_iret (z_dec zd_X6_oddsAt 8 rfl) rfl ⟨(by unfold f_X6_oddsAt; rw [if_neg h1, if_neg h10]), rfl, (z_3 (by unfold m_X6_oddsAt; rw [if_neg h1, if_neg h10]) rfl)⟩
  exact hentry
theorem yq_Toa {np sz : Nat} {I : Nat → Nat → Int32} (h : yq_T np sz I) (b : Bool) (g : Int32) : yq_T np sz (m_X6_oddsAt b I sz g) := by
  unfold m_X6_oddsAt
  by_cases h1 : g < 0
  · rw [if_pos h1]; exact h
  · rw [if_neg h1]
    by_cases h2 : g < 100
    · rw [if_pos h2]
      by_cases h3 : I 32 g.toNatClampNeg = -1
      · rw [if_pos h3]; exact yq_Tu (yq_To (yq_Tb h _ _) b _ _ _ _ _) (by decide) (by decide) _ _
      · rw [if_neg h3]; exact h
    · rw [if_neg h2]; exact h
def gx_X6_best_32 (fr : Int32) (o : Int32) (FB : Int32 → Int32 → (Nat → Nat → Int32) → Int32 × (Nat → Nat → Int32)) : Nat → Nat → (Int32) → (Nat → Nat → Int32) → Int32 × (Nat → Nat → Int32)
  | 0, t32, v5, Iv => (v5, Iv)
  | r32 + 1, t32, v5, Iv => if o = 0 then gx_X6_best_32 fr o FB r32 (t32 + 1) (if (FB 1 (f_X6_moved fr (nI t32)) Iv).1 < v5 then (FB 1 (f_X6_moved fr (nI t32)) Iv).1 else v5) ((FB 1 (f_X6_moved fr (nI t32)) Iv).2) else gx_X6_best_32 fr o FB r32 (t32 + 1) (if v5 < (FB 0 (f_X6_moved fr (nI t32)) Iv).1 then (FB 0 (f_X6_moved fr (nI t32)) Iv).1 else v5) ((FB 0 (f_X6_moved fr (nI t32)) Iv).2)
def f_X6_best (b : Bool) (I : Nat → Nat → Int32) (sz : Nat) (fr : Int32) (m : Nat) (o : Int32) (FB : Int32 → Int32 → (Nat → Nat → Int32) → Int32 × (Nat → Nat → Int32)) : Int32 := if (nI m) ≤ 0 then (f_X6_oddsAt b I sz fr) else if (nI m) ≤ 5 then if o = 0 then (gx_X6_best_32 fr o FB 3 0 12 I).1 else (gx_X6_best_32 fr o FB 3 0 0 I).1 else (f_X6_oddsAt b I sz fr)
def m_X6_best (b : Bool) (I : Nat → Nat → Int32) (sz : Nat) (fr : Int32) (m : Nat) (o : Int32) (FB : Int32 → Int32 → (Nat → Nat → Int32) → Int32 × (Nat → Nat → Int32)) : Nat → Nat → Int32 := if (nI m) ≤ 0 then (m_X6_oddsAt b I sz fr) else if (nI m) ≤ 5 then if o = 0 then (gx_X6_best_32 fr o FB 3 0 12 I).2 else (gx_X6_best_32 fr o FB 3 0 0 I).2 else (m_X6_oddsAt b I sz fr)
set_option maxHeartbeats 1000000 in
set_option maxRecDepth 100000 in
theorem c_X6_best (d : Nat) (hd : 5 ≤ d) (b : Bool) (I : Nat → Nat → Int32) (L : Nat → Nat → Int64) (np : Nat) (hn10 : np ≤ 10) (sz : Nat) (hs121 : sz ≤ 121) (hT : yq_T np sz I) (fr : Int32) (m : Nat) (hm5 : m ≤ 5) (o : Int32) (ho : o = 0 ∨ o = 1) (FB : Int32 → Int32 → (Nat → Nat → Int32) → Int32 × (Nat → Nat → Int32)) (hFB : ∀ (o fr : Int32) (J : (Nat → Nat → Int32)), 0 < m → (o = 0 ∨ o = 1) → yq_T np sz J → z_CT zm_X6_best (d - 1) [.ref 31, .int fr, .int (nI (m - 1)), .int o, .ref 13] SH (J, L, z_R b) 0 0 (z_ret (some (.int (FB o fr J).1)) ((FB o fr J).2, L, z_R b))) (hTB : ∀ (o fr : Int32) (J : (Nat → Nat → Int32)), yq_T np sz J → yq_T np sz (FB o fr J).2) : z_CT zm_X6_best d [.ref 31, .int fr, .int (nI m), .int o, .ref 13] SH (I, L, z_R b) 0 0 (z_ret (some (.int (f_X6_best b I sz fr m o FB))) ((m_X6_best b I sz fr m o FB), L, z_R b)) := by
  refine z_enter (by decide +kernel) (Nat.le_of_ble_eq_true rfl) ?_
  have hentry : PW zm_X6_best d 0 [(0, .ref 31), (1, .int fr), (2, .int (nI m)), (3, .int o), (4, .ref 13)] [] SH (I, L, z_R b) 0 0 (z_ret (some (.int (f_X6_best b I sz fr m o FB))) ((m_X6_best b I sz fr m o FB), L, z_R b)) := by
    refine p_iload_n (z_dec zd_X6_best 0 rfl) rfl 2 rfl (n := 1) rfl ?_
    refine p_if_le (z_dec zd_X6_best 1 rfl) (t := 9) (by decide) (n := 4) rfl (fun h1 => ?_) (fun h1 => ?_)
    · refine p_aload_n (z_dec zd_X6_best 5 rfl) rfl 0 rfl (n := 10) rfl ?_
      refine p_iload_n (z_dec zd_X6_best 6 rfl) rfl 1 rfl (n := 11) rfl ?_
      refine p_aload (z_dec zd_X6_best 7 rfl) 4 rfl (n := 13) rfl ?_
      refine q_callV (As := [.int fr, .ref 13]) (rest := []) (z_dec zd_X6_best 8 rfl) zk_X6_47 zv_X6_oddsAt (c_X6_oddsAt (d - 1) (by omega) b I L np hn10 sz hs121 hT fr) rfl ⟨_, _, rfl⟩ rfl rfl (Nat.le_of_ble_eq_true rfl) (by omega) (n := 16) rfl ?_
      show PW zm_X6_best d 16 [(0, .ref 31), (1, .int fr), (2, .int (nI m)), (3, .int o), (4, .ref 13)] [.int (f_X6_oddsAt b I sz fr)] SH ((m_X6_oddsAt b I sz fr), L, z_R b) 0 0 _
      exact p_iret (z_dec zd_X6_best 9 rfl) rfl ⟨(by unfold f_X6_best; rw [if_pos h1]), rfl, (z_3 (by unfold m_X6_best; rw [if_pos h1]) rfl)⟩
    · have hm0 : 0 < m := z_nge (a := m) (b := 0) h1
      refine p_iload_n (z_dec zd_X6_best 2 rfl) rfl 2 rfl (n := 5) rfl ?_
      refine p_iconst (z_dec zd_X6_best 3 rfl) (v := 5) (by decide) (n := 6) rfl ?_
      refine p_icmp_le (z_dec zd_X6_best 4 rfl) (t := 17) (by decide) (n := 9) rfl (fun h6 => ?_) (fun h6 => ?_)
      · refine p_iload_n (z_dec zd_X6_best 10 rfl) rfl 3 rfl (n := 18) rfl ?_
        refine p_if_eq (z_dec zd_X6_best 11 rfl) (t := 25) (by decide) (n := 21) rfl (fun h18 => ?_) (fun h18 => ?_)
        · refine p_bipush (z_dec zd_X6_best 14 rfl) (v := 12) (by decide) (n := 27) rfl ?_
          refine p_istore (z_dec zd_X6_best 15 rfl) (lv2 := [(5, .int 12), (0, .ref 31), (1, .int fr), (2, .int (nI m)), (3, .int o), (4, .ref 13)]) (by decide) rfl (n := 29) rfl ?_
          refine p_iconst (z_dec zd_X6_best 16 rfl) (v := 0) (by decide) (n := 30) rfl ?_
          refine p_istore (z_dec zd_X6_best 17 rfl) (lv2 := [(6, .int 0), (5, .int 12), (0, .ref 31), (1, .int fr), (2, .int (nI m)), (3, .int o), (4, .ref 13)]) (by decide) rfl (n := 32) rfl ?_
          have hL32 : ∀ (r32 t32 : Nat) (v5 : Int32) (Iv : Nat → Nat → Int32), t32 + r32 = 3 → yq_T np sz Iv → PW zm_X6_best d 32 [(6, .int (nI t32)), (5, .int v5), (0, .ref 31), (1, .int fr), (2, .int (nI m)), (3, .int o), (4, .ref 13)] [] SH (Iv, L, z_R b) 0 0 (z_ret (some (.int (gx_X6_best_32 fr o FB r32 t32 v5 Iv).1)) ((gx_X6_best_32 fr o FB r32 t32 v5 Iv).2, L, z_R b)) := by
            intro r32
            induction r32 with
            | zero =>
              intro t32 v5 Iv ht32 hlo
              refine p_iload (z_dec zd_X6_best 18 rfl) 0 rfl (n := 34) rfl ?_
              refine p_iconst (z_dec zd_X6_best 19 rfl) (v := 3) (by decide) (n := 35) rfl ?_
              refine p_icmp_ge (z_dec zd_X6_best 20 rfl) (t := 93) (by decide) (n := 38) rfl (fun h35 => ?_) (fun h35 => ?_)
              · refine p_iload (z_dec zd_X6_best 48 rfl) 1 rfl (n := 95) rfl ?_
                exact p_iret (z_dec zd_X6_best 49 rfl) rfl ⟨rfl, rfl, (z_3 rfl rfl)⟩
              · exact absurd (z_nge (a := 3) h35) (by omega)
            | succ r32 ih32 =>
              intro t32 v5 Iv ht32 hlo
              refine p_iload (z_dec zd_X6_best 18 rfl) 0 rfl (n := 34) rfl ?_
              refine p_iconst (z_dec zd_X6_best 19 rfl) (v := 3) (by decide) (n := 35) rfl ?_
              refine p_icmp_ge (z_dec zd_X6_best 20 rfl) (t := 93) (by decide) (n := 38) rfl (fun h35 => ?_) (fun h35 => ?_)
              · exact absurd (z_ge (a := 3) h35) (by omega)
              · have hx32 : t32 < 3 := by omega
                refine p_aload_n (z_dec zd_X6_best 21 rfl) rfl 2 rfl (n := 39) rfl ?_
                refine p_iload_n (z_dec zd_X6_best 22 rfl) rfl 3 rfl (n := 40) rfl ?_
                refine p_iload (z_dec zd_X6_best 23 rfl) 0 rfl (n := 42) rfl ?_
                refine q_callS (As := [.int fr, .int (nI t32)]) (rest := [.ref 31]) (z_dec zd_X6_best 24 rfl) zk_X6_40 zs_X6_moved (c_X6_moved (d - 1) (by omega) b Iv L fr (nI t32)) rfl rfl (Nat.le_of_ble_eq_true rfl) (by omega) (n := 45) rfl ?_
                show PW zm_X6_best d 45 [(6, .int (nI t32)), (5, .int v5), (0, .ref 31), (1, .int fr), (2, .int (nI m)), (3, .int o), (4, .ref 13)] [.int (f_X6_moved fr (nI t32)), .ref 31] SH (Iv, L, z_R b) 0 0 _
                refine p_iload_n (z_dec zd_X6_best 25 rfl) rfl 4 rfl (n := 46) rfl ?_
                refine p_iconst (z_dec zd_X6_best 26 rfl) (v := 1) (by decide) (n := 47) rfl ?_
                refine p_isub (z_dec zd_X6_best 27 rfl) (n := 48) rfl ?_
                refine z_lv rfl (show _ = [.int (nI (m - 1)), .int (f_X6_moved fr (nI t32)), .ref 31] from (by rw [z_pred hm0])) rfl ?_
                refine p_iload_n (z_dec zd_X6_best 28 rfl) rfl 5 rfl (n := 49) rfl ?_
                refine p_if_ne (z_dec zd_X6_best 29 rfl) (t := 56) (by decide) (n := 52) rfl (fun h49 => ?_) (fun h49 => ?_)
                · refine p_iconst (z_dec zd_X6_best 32 rfl) (v := 0) (by decide) (n := 57) rfl ?_
                  refine p_aload (z_dec zd_X6_best 33 rfl) 6 rfl (n := 59) rfl ?_
                  refine q_callV (As := [.int (f_X6_moved fr (nI t32)), .int (nI (m - 1)), .int 0, .ref 13]) (rest := []) (z_dec zd_X6_best 34 rfl) zk_X6_43 zv_X6_best (hFB 0 (f_X6_moved fr (nI t32)) Iv hm0 (Or.inl rfl) hlo) rfl ⟨_, _, rfl⟩ rfl rfl (Nat.le_of_ble_eq_true rfl) (by omega) (n := 62) rfl ?_
                  show PW zm_X6_best d 62 [(6, .int (nI t32)), (5, .int v5), (0, .ref 31), (1, .int fr), (2, .int (nI m)), (3, .int o), (4, .ref 13)] [.int ((FB 0 (f_X6_moved fr (nI t32)) Iv).1)] SH ((FB 0 (f_X6_moved fr (nI t32)) Iv).2, L, z_R b) 0 0 _
                  have hP62 : yq_T np sz ((FB 0 (f_X6_moved fr (nI t32)) Iv).2) := hTB _ _ _ hlo
                  refine p_istore (z_dec zd_X6_best 35 rfl) (lv2 := [(7, .int ((FB 0 (f_X6_moved fr (nI t32)) Iv).1)), (6, .int (nI t32)), (5, .int v5), (0, .ref 31), (1, .int fr), (2, .int (nI m)), (3, .int o), (4, .ref 13)]) (by decide) rfl (n := 64) rfl ?_
                  refine p_iload_n (z_dec zd_X6_best 36 rfl) rfl 6 rfl (n := 65) rfl ?_
                  refine p_if_eq (z_dec zd_X6_best 37 rfl) (t := 78) (by decide) (n := 68) rfl (fun h65 => ?_) (fun h65 => ?_)
                  · exact absurd h65 h49
                  · refine p_iload (z_dec zd_X6_best 38 rfl) 2 rfl (n := 70) rfl ?_
                    refine p_iload (z_dec zd_X6_best 39 rfl) 0 rfl (n := 72) rfl ?_
                    refine p_mmax (z_dec zd_X6_best 40 rfl) zk_X6_51 (by omega) (Nat.le_of_ble_eq_true rfl) (n := 75) rfl ?_
                    refine p_goto (z_dec zd_X6_best 41 rfl) (t := 85) (by decide) ?_
                    refine p_istore (z_dec zd_X6_best 45 rfl) (lv2 := [(5, .int (if v5 < (FB 0 (f_X6_moved fr (nI t32)) Iv).1 then (FB 0 (f_X6_moved fr (nI t32)) Iv).1 else v5)), (7, .int ((FB 0 (f_X6_moved fr (nI t32)) Iv).1)), (6, .int (nI t32)), (0, .ref 31), (1, .int fr), (2, .int (nI m)), (3, .int o), (4, .ref 13)]) (by decide) rfl (n := 87) rfl ?_
                    refine p_iinc (z_dec zd_X6_best 46 rfl) 2 rfl (v := (nI (t32 + 1))) (nI_1 _) (lv2 := [(6, .int (nI (t32 + 1))), (5, .int (if v5 < (FB 0 (f_X6_moved fr (nI t32)) Iv).1 then (FB 0 (f_X6_moved fr (nI t32)) Iv).1 else v5)), (7, .int ((FB 0 (f_X6_moved fr (nI t32)) Iv).1)), (0, .ref 31), (1, .int fr), (2, .int (nI m)), (3, .int o), (4, .ref 13)]) (by decide) rfl (n := 90) rfl ?_
                    refine p_goto (z_dec zd_X6_best 47 rfl) (t := 32) (by decide) ?_
                    refine z_sub (lv' := [(6, .int (nI (t32 + 1))), (5, .int (if v5 < (FB 0 (f_X6_moved fr (nI t32)) Iv).1 then (FB 0 (f_X6_moved fr (nI t32)) Iv).1 else v5)), (0, .ref 31), (1, .int fr), (2, .int (nI m)), (3, .int o), (4, .ref 13)]) [0, 1, 3, 4, 5, 6, 7] rfl ?_
                    rw [show gx_X6_best_32 fr o FB (r32 + 1) t32 v5 Iv = gx_X6_best_32 fr o FB r32 (t32 + 1) (if v5 < (FB 0 (f_X6_moved fr (nI t32)) Iv).1 then (FB 0 (f_X6_moved fr (nI t32)) Iv).1 else v5) ((FB 0 (f_X6_moved fr (nI t32)) Iv).2) from by (conv => lhs; unfold gx_X6_best_32); rw [if_neg h49]]
                    exact ih32 (t32 + 1) (if v5 < (FB 0 (f_X6_moved fr (nI t32)) Iv).1 then (FB 0 (f_X6_moved fr (nI t32)) Iv).1 else v5) ((FB 0 (f_X6_moved fr (nI t32)) Iv).2) (by omega) hP62
                · refine p_iconst (z_dec zd_X6_best 30 rfl) (v := 1) (by decide) (n := 53) rfl ?_
                  refine p_goto (z_dec zd_X6_best 31 rfl) (t := 57) (by decide) ?_
                  refine p_aload (z_dec zd_X6_best 33 rfl) 6 rfl (n := 59) rfl ?_
                  refine q_callV (As := [.int (f_X6_moved fr (nI t32)), .int (nI (m - 1)), .int 1, .ref 13]) (rest := []) (z_dec zd_X6_best 34 rfl) zk_X6_43 zv_X6_best (hFB 1 (f_X6_moved fr (nI t32)) Iv hm0 (Or.inr rfl) hlo) rfl ⟨_, _, rfl⟩ rfl rfl (Nat.le_of_ble_eq_true rfl) (by omega) (n := 62) rfl ?_
                  show PW zm_X6_best d 62 [(6, .int (nI t32)), (5, .int v5), (0, .ref 31), (1, .int fr), (2, .int (nI m)), (3, .int o), (4, .ref 13)] [.int ((FB 1 (f_X6_moved fr (nI t32)) Iv).1)] SH ((FB 1 (f_X6_moved fr (nI t32)) Iv).2, L, z_R b) 0 0 _
                  have hP62 : yq_T np sz ((FB 1 (f_X6_moved fr (nI t32)) Iv).2) := hTB _ _ _ hlo
                  refine p_istore (z_dec zd_X6_best 35 rfl) (lv2 := [(7, .int ((FB 1 (f_X6_moved fr (nI t32)) Iv).1)), (6, .int (nI t32)), (5, .int v5), (0, .ref 31), (1, .int fr), (2, .int (nI m)), (3, .int o), (4, .ref 13)]) (by decide) rfl (n := 64) rfl ?_
                  refine p_iload_n (z_dec zd_X6_best 36 rfl) rfl 6 rfl (n := 65) rfl ?_
                  refine p_if_eq (z_dec zd_X6_best 37 rfl) (t := 78) (by decide) (n := 68) rfl (fun h65 => ?_) (fun h65 => ?_)
                  · refine p_iload (z_dec zd_X6_best 42 rfl) 2 rfl (n := 80) rfl ?_
                    refine p_iload (z_dec zd_X6_best 43 rfl) 0 rfl (n := 82) rfl ?_
                    refine p_mmin (z_dec zd_X6_best 44 rfl) zk_X6_56 (by omega) (Nat.le_of_ble_eq_true rfl) (n := 85) rfl ?_
                    refine p_istore (z_dec zd_X6_best 45 rfl) (lv2 := [(5, .int (if (FB 1 (f_X6_moved fr (nI t32)) Iv).1 < v5 then (FB 1 (f_X6_moved fr (nI t32)) Iv).1 else v5)), (7, .int ((FB 1 (f_X6_moved fr (nI t32)) Iv).1)), (6, .int (nI t32)), (0, .ref 31), (1, .int fr), (2, .int (nI m)), (3, .int o), (4, .ref 13)]) (by decide) rfl (n := 87) rfl ?_
                    refine p_iinc (z_dec zd_X6_best 46 rfl) 2 rfl (v := (nI (t32 + 1))) (nI_1 _) (lv2 := [(6, .int (nI (t32 + 1))), (5, .int (if (FB 1 (f_X6_moved fr (nI t32)) Iv).1 < v5 then (FB 1 (f_X6_moved fr (nI t32)) Iv).1 else v5)), (7, .int ((FB 1 (f_X6_moved fr (nI t32)) Iv).1)), (0, .ref 31), (1, .int fr), (2, .int (nI m)), (3, .int o), (4, .ref 13)]) (by decide) rfl (n := 90) rfl ?_
                    refine p_goto (z_dec zd_X6_best 47 rfl) (t := 32) (by decide) ?_
                    refine z_sub (lv' := [(6, .int (nI (t32 + 1))), (5, .int (if (FB 1 (f_X6_moved fr (nI t32)) Iv).1 < v5 then (FB 1 (f_X6_moved fr (nI t32)) Iv).1 else v5)), (0, .ref 31), (1, .int fr), (2, .int (nI m)), (3, .int o), (4, .ref 13)]) [0, 1, 3, 4, 5, 6, 7] rfl ?_
                    rw [show gx_X6_best_32 fr o FB (r32 + 1) t32 v5 Iv = gx_X6_best_32 fr o FB r32 (t32 + 1) (if (FB 1 (f_X6_moved fr (nI t32)) Iv).1 < v5 then (FB 1 (f_X6_moved fr (nI t32)) Iv).1 else v5) ((FB 1 (f_X6_moved fr (nI t32)) Iv).2) from by (conv => lhs; unfold gx_X6_best_32); rw [if_pos h49]]
                    exact ih32 (t32 + 1) (if (FB 1 (f_X6_moved fr (nI t32)) Iv).1 < v5 then (FB 1 (f_X6_moved fr (nI t32)) Iv).1 else v5) ((FB 1 (f_X6_moved fr (nI t32)) Iv).2) (by omega) hP62
                  · exact absurd h49 h65
          exact (by have q := (hL32 3 0 12 I (by omega) hT); (rw [show f_X6_best b I sz fr m o FB = _ from by unfold f_X6_best; rw [if_neg h1, if_pos h6, if_pos h18]]); (rw [show m_X6_best b I sz fr m o FB = _ from by unfold m_X6_best; rw [if_neg h1, if_pos h6, if_pos h18]]); exact q)
        · refine p_iconst (z_dec zd_X6_best 12 rfl) (v := 0) (by decide) (n := 22) rfl ?_
          refine p_goto (z_dec zd_X6_best 13 rfl) (t := 27) (by decide) ?_
          refine p_istore (z_dec zd_X6_best 15 rfl) (lv2 := [(5, .int 0), (0, .ref 31), (1, .int fr), (2, .int (nI m)), (3, .int o), (4, .ref 13)]) (by decide) rfl (n := 29) rfl ?_
          refine p_iconst (z_dec zd_X6_best 16 rfl) (v := 0) (by decide) (n := 30) rfl ?_
          refine p_istore (z_dec zd_X6_best 17 rfl) (lv2 := [(6, .int 0), (5, .int 0), (0, .ref 31), (1, .int fr), (2, .int (nI m)), (3, .int o), (4, .ref 13)]) (by decide) rfl (n := 32) rfl ?_
          have hL32 : ∀ (r32 t32 : Nat) (v5 : Int32) (Iv : Nat → Nat → Int32), t32 + r32 = 3 → yq_T np sz Iv → PW zm_X6_best d 32 [(6, .int (nI t32)), (5, .int v5), (0, .ref 31), (1, .int fr), (2, .int (nI m)), (3, .int o), (4, .ref 13)] [] SH (Iv, L, z_R b) 0 0 (z_ret (some (.int (gx_X6_best_32 fr o FB r32 t32 v5 Iv).1)) ((gx_X6_best_32 fr o FB r32 t32 v5 Iv).2, L, z_R b)) := by
            intro r32
            induction r32 with
            | zero =>
              intro t32 v5 Iv ht32 hlo
              refine p_iload (z_dec zd_X6_best 18 rfl) 0 rfl (n := 34) rfl ?_
              refine p_iconst (z_dec zd_X6_best 19 rfl) (v := 3) (by decide) (n := 35) rfl ?_
              refine p_icmp_ge (z_dec zd_X6_best 20 rfl) (t := 93) (by decide) (n := 38) rfl (fun h35 => ?_) (fun h35 => ?_)
              · refine p_iload (z_dec zd_X6_best 48 rfl) 1 rfl (n := 95) rfl ?_
                exact p_iret (z_dec zd_X6_best 49 rfl) rfl ⟨rfl, rfl, (z_3 rfl rfl)⟩
              · exact absurd (z_nge (a := 3) h35) (by omega)
            | succ r32 ih32 =>
              intro t32 v5 Iv ht32 hlo
              refine p_iload (z_dec zd_X6_best 18 rfl) 0 rfl (n := 34) rfl ?_
              refine p_iconst (z_dec zd_X6_best 19 rfl) (v := 3) (by decide) (n := 35) rfl ?_
              refine p_icmp_ge (z_dec zd_X6_best 20 rfl) (t := 93) (by decide) (n := 38) rfl (fun h35 => ?_) (fun h35 => ?_)
              · exact absurd (z_ge (a := 3) h35) (by omega)
              · have hx32 : t32 < 3 := by omega
                refine p_aload_n (z_dec zd_X6_best 21 rfl) rfl 2 rfl (n := 39) rfl ?_
                refine p_iload_n (z_dec zd_X6_best 22 rfl) rfl 3 rfl (n := 40) rfl ?_
                refine p_iload (z_dec zd_X6_best 23 rfl) 0 rfl (n := 42) rfl ?_
                refine q_callS (As := [.int fr, .int (nI t32)]) (rest := [.ref 31]) (z_dec zd_X6_best 24 rfl) zk_X6_40 zs_X6_moved (c_X6_moved (d - 1) (by omega) b Iv L fr (nI t32)) rfl rfl (Nat.le_of_ble_eq_true rfl) (by omega) (n := 45) rfl ?_
                show PW zm_X6_best d 45 [(6, .int (nI t32)), (5, .int v5), (0, .ref 31), (1, .int fr), (2, .int (nI m)), (3, .int o), (4, .ref 13)] [.int (f_X6_moved fr (nI t32)), .ref 31] SH (Iv, L, z_R b) 0 0 _
                refine p_iload_n (z_dec zd_X6_best 25 rfl) rfl 4 rfl (n := 46) rfl ?_
                refine p_iconst (z_dec zd_X6_best 26 rfl) (v := 1) (by decide) (n := 47) rfl ?_
                refine p_isub (z_dec zd_X6_best 27 rfl) (n := 48) rfl ?_
                refine z_lv rfl (show _ = [.int (nI (m - 1)), .int (f_X6_moved fr (nI t32)), .ref 31] from (by rw [z_pred hm0])) rfl ?_
                refine p_iload_n (z_dec zd_X6_best 28 rfl) rfl 5 rfl (n := 49) rfl ?_
                refine p_if_ne (z_dec zd_X6_best 29 rfl) (t := 56) (by decide) (n := 52) rfl (fun h49 => ?_) (fun h49 => ?_)
                · refine p_iconst (z_dec zd_X6_best 32 rfl) (v := 0) (by decide) (n := 57) rfl ?_
                  refine p_aload (z_dec zd_X6_best 33 rfl) 6 rfl (n := 59) rfl ?_
                  refine q_callV (As := [.int (f_X6_moved fr (nI t32)), .int (nI (m - 1)), .int 0, .ref 13]) (rest := []) (z_dec zd_X6_best 34 rfl) zk_X6_43 zv_X6_best (hFB 0 (f_X6_moved fr (nI t32)) Iv hm0 (Or.inl rfl) hlo) rfl ⟨_, _, rfl⟩ rfl rfl (Nat.le_of_ble_eq_true rfl) (by omega) (n := 62) rfl ?_
                  show PW zm_X6_best d 62 [(6, .int (nI t32)), (5, .int v5), (0, .ref 31), (1, .int fr), (2, .int (nI m)), (3, .int o), (4, .ref 13)] [.int ((FB 0 (f_X6_moved fr (nI t32)) Iv).1)] SH ((FB 0 (f_X6_moved fr (nI t32)) Iv).2, L, z_R b) 0 0 _
                  have hP62 : yq_T np sz ((FB 0 (f_X6_moved fr (nI t32)) Iv).2) := hTB _ _ _ hlo
                  refine p_istore (z_dec zd_X6_best 35 rfl) (lv2 := [(7, .int ((FB 0 (f_X6_moved fr (nI t32)) Iv).1)), (6, .int (nI t32)), (5, .int v5), (0, .ref 31), (1, .int fr), (2, .int (nI m)), (3, .int o), (4, .ref 13)]) (by decide) rfl (n := 64) rfl ?_
                  refine p_iload_n (z_dec zd_X6_best 36 rfl) rfl 6 rfl (n := 65) rfl ?_
                  refine p_if_eq (z_dec zd_X6_best 37 rfl) (t := 78) (by decide) (n := 68) rfl (fun h65 => ?_) (fun h65 => ?_)
                  · exact absurd h65 h49
                  · refine p_iload (z_dec zd_X6_best 38 rfl) 2 rfl (n := 70) rfl ?_
                    refine p_iload (z_dec zd_X6_best 39 rfl) 0 rfl (n := 72) rfl ?_
                    refine p_mmax (z_dec zd_X6_best 40 rfl) zk_X6_51 (by omega) (Nat.le_of_ble_eq_true rfl) (n := 75) rfl ?_
                    refine p_goto (z_dec zd_X6_best 41 rfl) (t := 85) (by decide) ?_
                    refine p_istore (z_dec zd_X6_best 45 rfl) (lv2 := [(5, .int (if v5 < (FB 0 (f_X6_moved fr (nI t32)) Iv).1 then (FB 0 (f_X6_moved fr (nI t32)) Iv).1 else v5)), (7, .int ((FB 0 (f_X6_moved fr (nI t32)) Iv).1)), (6, .int (nI t32)), (0, .ref 31), (1, .int fr), (2, .int (nI m)), (3, .int o), (4, .ref 13)]) (by decide) rfl (n := 87) rfl ?_
                    refine p_iinc (z_dec zd_X6_best 46 rfl) 2 rfl (v := (nI (t32 + 1))) (nI_1 _) (lv2 := [(6, .int (nI (t32 + 1))), (5, .int (if v5 < (FB 0 (f_X6_moved fr (nI t32)) Iv).1 then (FB 0 (f_X6_moved fr (nI t32)) Iv).1 else v5)), (7, .int ((FB 0 (f_X6_moved fr (nI t32)) Iv).1)), (0, .ref 31), (1, .int fr), (2, .int (nI m)), (3, .int o), (4, .ref 13)]) (by decide) rfl (n := 90) rfl ?_
                    refine p_goto (z_dec zd_X6_best 47 rfl) (t := 32) (by decide) ?_
                    refine z_sub (lv' := [(6, .int (nI (t32 + 1))), (5, .int (if v5 < (FB 0 (f_X6_moved fr (nI t32)) Iv).1 then (FB 0 (f_X6_moved fr (nI t32)) Iv).1 else v5)), (0, .ref 31), (1, .int fr), (2, .int (nI m)), (3, .int o), (4, .ref 13)]) [0, 1, 3, 4, 5, 6, 7] rfl ?_
                    rw [show gx_X6_best_32 fr o FB (r32 + 1) t32 v5 Iv = gx_X6_best_32 fr o FB r32 (t32 + 1) (if v5 < (FB 0 (f_X6_moved fr (nI t32)) Iv).1 then (FB 0 (f_X6_moved fr (nI t32)) Iv).1 else v5) ((FB 0 (f_X6_moved fr (nI t32)) Iv).2) from by (conv => lhs; unfold gx_X6_best_32); rw [if_neg h49]]
                    exact ih32 (t32 + 1) (if v5 < (FB 0 (f_X6_moved fr (nI t32)) Iv).1 then (FB 0 (f_X6_moved fr (nI t32)) Iv).1 else v5) ((FB 0 (f_X6_moved fr (nI t32)) Iv).2) (by omega) hP62
                · refine p_iconst (z_dec zd_X6_best 30 rfl) (v := 1) (by decide) (n := 53) rfl ?_
                  refine p_goto (z_dec zd_X6_best 31 rfl) (t := 57) (by decide) ?_
                  refine p_aload (z_dec zd_X6_best 33 rfl) 6 rfl (n := 59) rfl ?_
                  refine q_callV (As := [.int (f_X6_moved fr (nI t32)), .int (nI (m - 1)), .int 1, .ref 13]) (rest := []) (z_dec zd_X6_best 34 rfl) zk_X6_43 zv_X6_best (hFB 1 (f_X6_moved fr (nI t32)) Iv hm0 (Or.inr rfl) hlo) rfl ⟨_, _, rfl⟩ rfl rfl (Nat.le_of_ble_eq_true rfl) (by omega) (n := 62) rfl ?_
                  show PW zm_X6_best d 62 [(6, .int (nI t32)), (5, .int v5), (0, .ref 31), (1, .int fr), (2, .int (nI m)), (3, .int o), (4, .ref 13)] [.int ((FB 1 (f_X6_moved fr (nI t32)) Iv).1)] SH ((FB 1 (f_X6_moved fr (nI t32)) Iv).2, L, z_R b) 0 0 _
                  have hP62 : yq_T np sz ((FB 1 (f_X6_moved fr (nI t32)) Iv).2) := hTB _ _ _ hlo
                  refine p_istore (z_dec zd_X6_best 35 rfl) (lv2 := [(7, .int ((FB 1 (f_X6_moved fr (nI t32)) Iv).1)), (6, .int (nI t32)), (5, .int v5), (0, .ref 31), (1, .int fr), (2, .int (nI m)), (3, .int o), (4, .ref 13)]) (by decide) rfl (n := 64) rfl ?_
                  refine p_iload_n (z_dec zd_X6_best 36 rfl) rfl 6 rfl (n := 65) rfl ?_
                  refine p_if_eq (z_dec zd_X6_best 37 rfl) (t := 78) (by decide) (n := 68) rfl (fun h65 => ?_) (fun h65 => ?_)
                  · refine p_iload (z_dec zd_X6_best 42 rfl) 2 rfl (n := 80) rfl ?_
                    refine p_iload (z_dec zd_X6_best 43 rfl) 0 rfl (n := 82) rfl ?_
                    refine p_mmin (z_dec zd_X6_best 44 rfl) zk_X6_56 (by omega) (Nat.le_of_ble_eq_true rfl) (n := 85) rfl ?_
                    refine p_istore (z_dec zd_X6_best 45 rfl) (lv2 := [(5, .int (if (FB 1 (f_X6_moved fr (nI t32)) Iv).1 < v5 then (FB 1 (f_X6_moved fr (nI t32)) Iv).1 else v5)), (7, .int ((FB 1 (f_X6_moved fr (nI t32)) Iv).1)), (6, .int (nI t32)), (0, .ref 31), (1, .int fr), (2, .int (nI m)), (3, .int o), (4, .ref 13)]) (by decide) rfl (n := 87) rfl ?_
                    refine p_iinc (z_dec zd_X6_best 46 rfl) 2 rfl (v := (nI (t32 + 1))) (nI_1 _) (lv2 := [(6, .int (nI (t32 + 1))), (5, .int (if (FB 1 (f_X6_moved fr (nI t32)) Iv).1 < v5 then (FB 1 (f_X6_moved fr (nI t32)) Iv).1 else v5)), (7, .int ((FB 1 (f_X6_moved fr (nI t32)) Iv).1)), (0, .ref 31), (1, .int fr), (2, .int (nI m)), (3, .int o), (4, .ref 13)]) (by decide) rfl (n := 90) rfl ?_
                    refine p_goto (z_dec zd_X6_best 47 rfl) (t := 32) (by decide) ?_
                    refine z_sub (lv' := [(6, .int (nI (t32 + 1))), (5, .int (if (FB 1 (f_X6_moved fr (nI t32)) Iv).1 < v5 then (FB 1 (f_X6_moved fr (nI t32)) Iv).1 else v5)), (0, .ref 31), (1, .int fr), (2, .int (nI m)), (3, .int o), (4, .ref 13)]) [0, 1, 3, 4, 5, 6, 7] rfl ?_
                    rw [show gx_X6_best_32 fr o FB (r32 + 1) t32 v5 Iv = gx_X6_best_32 fr o FB r32 (t32 + 1) (if (FB 1 (f_X6_moved fr (nI t32)) Iv).1 < v5 then (FB 1 (f_X6_moved fr (nI t32)) Iv).1 else v5) ((FB 1 (f_X6_moved fr (nI t32)) Iv).2) from by (conv => lhs; unfold gx_X6_best_32); rw [if_pos h49]]
                    exact ih32 (t32 + 1) (if (FB 1 (f_X6_moved fr (nI t32)) Iv).1 < v5 then (FB 1 (f_X6_moved fr (nI t32)) Iv).1 else v5) ((FB 1 (f_X6_moved fr (nI t32)) Iv).2) (by omega) hP62
                  · exact absurd h49 h65
          exact (by have q := (hL32 3 0 0 I (by omega) hT); (rw [show f_X6_best b I sz fr m o FB = _ from by unfold f_X6_best; rw [if_neg h1, if_pos h6, if_neg h18]]); (rw [show m_X6_best b I sz fr m o FB = _ from by unfold m_X6_best; rw [if_neg h1, if_pos h6, if_neg h18]]); exact q)
      · refine p_aload_n (z_dec zd_X6_best 5 rfl) rfl 0 rfl (n := 10) rfl ?_
        refine p_iload_n (z_dec zd_X6_best 6 rfl) rfl 1 rfl (n := 11) rfl ?_
        refine p_aload (z_dec zd_X6_best 7 rfl) 4 rfl (n := 13) rfl ?_
        refine q_callV (As := [.int fr, .ref 13]) (rest := []) (z_dec zd_X6_best 8 rfl) zk_X6_47 zv_X6_oddsAt (c_X6_oddsAt (d - 1) (by omega) b I L np hn10 sz hs121 hT fr) rfl ⟨_, _, rfl⟩ rfl rfl (Nat.le_of_ble_eq_true rfl) (by omega) (n := 16) rfl ?_
        show PW zm_X6_best d 16 [(0, .ref 31), (1, .int fr), (2, .int (nI m)), (3, .int o), (4, .ref 13)] [.int (f_X6_oddsAt b I sz fr)] SH ((m_X6_oddsAt b I sz fr), L, z_R b) 0 0 _
        exact p_iret (z_dec zd_X6_best 9 rfl) rfl ⟨(by unfold f_X6_best; rw [if_neg h1, if_neg h6]), rfl, (z_3 (by unfold m_X6_best; rw [if_neg h1, if_neg h6]) rfl)⟩
  exact hentry
