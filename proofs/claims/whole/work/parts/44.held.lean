theorem z_ro_k {α : Type} (f : Nat → Nat → α) {k a : Nat} (g : Nat → α) (j : Nat) (h : a ≠ k) : z_ro f k g a j = f a j := by simp [z_ro, h]
theorem z_lbF (I : Nat → Nat → Int32) (nq a j : Nat) (h0 : a ≠ 19 ∨ (j ≠ 5 ∧ j ≠ 6)) (h1 : a ≠ 21) (h2 : a ≠ 22) (h3 : a ≠ 23) (h4 : a ≠ 24) : m_X7_layBack_19_1 I nq a j = I a j := by
  unfold m_X7_layBack_19_1
  rcases h0 with h0 | ⟨h5, h6⟩
  · rw [z_up_k _ _ h0, z_up_k _ _ h0, z_ro_k _ _ _ h4, z_ro_k _ _ _ h3, z_ro_k _ _ _ h2, z_ro_k _ _ _ h1]
  · by_cases h0 : a = 19
    · subst h0; rw [z_up_j _ _ h6, z_up_j _ _ h5, z_ro_k _ _ _ h4, z_ro_k _ _ _ h3, z_ro_k _ _ _ h2, z_ro_k _ _ _ h1]
    · rw [z_up_k _ _ h0, z_up_k _ _ h0, z_ro_k _ _ _ h4, z_ro_k _ _ _ h3, z_ro_k _ _ _ h2, z_ro_k _ _ _ h1]
theorem z_cpF (I : Nat → Nat → Int32) (np a j : Nat) (h : a < 19 ∨ 24 < a) : m_X7_copyAll_19 I np a j = I a j := by
  unfold m_X7_copyAll_19
  rw [z_lbF _ _ _ _ (Or.inl (by omega)) (by omega) (by omega) (by omega) (by omega), z_ro_k _ _ _ (by omega), z_up_k _ _ (by omega)]
theorem z_cp0 (I : Nat → Nat → Int32) (np : Nat) : m_X7_copyAll_19 I np 19 0 = nI np := by
  unfold m_X7_copyAll_19
  rw [z_lbF _ _ _ _ (Or.inr ⟨by decide, by decide⟩) (by decide) (by decide) (by decide) (by decide), z_ro_k _ _ _ (by decide), z_up_s]
theorem z_cpF79 (I : Nat → Nat → Int32) (np a j : Nat) (h : a < 79 ∨ 84 < a) : m_X7_copyAll_79 I np a j = I a j := by
  unfold m_X7_copyAll_79 m_X7_layBack_79_1
  rw [z_up_k _ _ (by omega), z_up_k _ _ (by omega), z_ro_k _ _ _ (by omega), z_ro_k _ _ _ (by omega), z_ro_k _ _ _ (by omega), z_ro_k _ _ _ (by omega), z_ro_k _ _ _ (by omega), z_up_k _ _ (by omega)]
theorem z_cp79 (I : Nat → Nat → Int32) (np : Nat) : m_X7_copyAll_79 I np 79 0 = nI np := by
  unfold m_X7_copyAll_79 m_X7_layBack_79_1
  rw [z_up_j _ _ (by decide), z_up_j _ _ (by decide), z_ro_k _ _ _ (by decide), z_ro_k _ _ _ (by decide), z_ro_k _ _ _ (by decide), z_ro_k _ _ _ (by decide), z_ro_k _ _ _ (by decide), z_up_s]
theorem z_bgG (I : Nat → Nat → Int32) (np a j : Nat) (h : a ≠ 25) : ∀ i, g_X3_begin_20 I np i a j = g_X3_begin_20 I np 0 a j
  | 0 => rfl
  | i + 1 => by
    show gb_X3_begin_20 I np i (g_X3_begin_20 I np i) a j = _
    unfold gb_X3_begin_20
    rw [z_up_k _ _ h]
    exact z_bgG I np a j h i
theorem z_bgF (I : Nat → Nat → Int32) (np a j : Nat) (h1 : a ≠ 25) (h2 : a ≠ 18) : m_X3_begin I np a j = m_X7_copyAll_19 I np a j := by
  unfold m_X3_begin
  rw [z_bgG I np a j h1 10]
  show z_up (z_up (m_X7_copyAll_19 I np) 18 2 0) 18 3 0 a j = _
  rw [z_up_k _ _ h2, z_up_k _ _ h2]
theorem z_H_bg {np sz k len : Nat} (hk : 42 ≤ k) {I : Nat → Nat → Int32} (h1 : I 13 4 = nI sz) (h2 : I k 2 = nI len) : z_H np sz k len (m_X3_begin I np) := ⟨(z_bgF I np 19 0 (by decide) (by decide)).trans (z_cp0 I np), ((z_bgF I np 13 4 (by decide) (by decide)).trans (z_cpF I np 13 4 (Or.inl (by decide)))).trans h1, ((z_bgF I np k 2 (by omega) (by omega)).trans (z_cpF I np k 2 (Or.inr (by omega)))).trans h2⟩
def f_X8_held (b : Bool) (I : Nat → Nat → Int32) (L : Nat → Nat → Int64) (np : Nat) (sz : Nat) (sh : Int32) : Int32 := if (f_X8_bytesRefusal I sh) = 0 then ((m_X3_holdCard b (m_X3_begin I np) L (42 + 2 * sh.toNatClampNeg) sz (I (42 + 2 * sh.toNatClampNeg) 2).toNatClampNeg 0) 18 2) else (f_X8_bytesRefusal I sh)
def m_X8_held (b : Bool) (I : Nat → Nat → Int32) (L : Nat → Nat → Int64) (np : Nat) (sz : Nat) (sh : Int32) : Nat → Nat → Int32 := if (f_X8_bytesRefusal I sh) = 0 then (m_X3_holdCard b (m_X3_begin I np) L (42 + 2 * sh.toNatClampNeg) sz (I (42 + 2 * sh.toNatClampNeg) 2).toNatClampNeg 0) else I
set_option maxHeartbeats 2000000 in
set_option maxRecDepth 100000 in
theorem c_X8_held (d : Nat) (hd : 5 ≤ d) (b : Bool) (I : Nat → Nat → Int32) (L : Nat → Nat → Int64) (np : Nat) (hnp : I 1 0 = nI np) (hn10 : np ≤ 10) (sz : Nat) (hsz : I 13 4 = nI sz) (hs121 : sz ≤ 121) (hsl : ∀ j, j < 6 → I (42 + 2 * j) 2 = nI (I (42 + 2 * j) 2).toNatClampNeg ∧ (I (42 + 2 * j) 2).toNatClampNeg ≤ 60) (sh : Int32) : z_CT zm_X8_held d [.ref 0, .int sh] SH (I, L, z_R b) 0 0 (z_ret (some (.int (f_X8_held b I L np sz sh))) ((m_X8_held b I L np sz sh), L, z_R b)) := by
  refine z_enter (by decide +kernel) (Nat.le_of_ble_eq_true rfl) ?_
  have hentry : PW zm_X8_held d 0 [(0, .ref 0), (1, .int sh)] [] SH (I, L, z_R b) 0 0 (z_ret (some (.int (f_X8_held b I L np sz sh))) ((m_X8_held b I L np sz sh), L, z_R b)) := by
    refine p_aload_n (z_dec zd_X8_held 0 rfl) rfl 0 rfl (n := 1) rfl ?_
    refine p_iload_n (z_dec zd_X8_held 1 rfl) rfl 1 rfl (n := 2) rfl ?_
    refine q_callV (As := [.int sh]) (rest := []) (z_dec zd_X8_held 2 rfl) zk_X8_142 zv_X8_bytesRefusal (c_X8_bytesRefusal (d - 1) (by omega) b I L sh) rfl ⟨_, _, rfl⟩ rfl rfl (Nat.le_of_ble_eq_true rfl) (by omega) (n := 5) rfl ?_
    show PW zm_X8_held d 5 [(0, .ref 0), (1, .int sh)] [.int (f_X8_bytesRefusal I sh)] SH (I, L, z_R b) 0 0 _
    refine p_istore_n (z_dec zd_X8_held 3 rfl) rfl (lv2 := [(2, .int (f_X8_bytesRefusal I sh)), (0, .ref 0), (1, .int sh)]) (by decide) rfl (n := 6) rfl ?_
    refine p_iload_n (z_dec zd_X8_held 4 rfl) rfl 0 rfl (n := 7) rfl ?_
    refine p_if_eq (z_dec zd_X8_held 5 rfl) (t := 12) (by decide) (n := 10) rfl (fun h7 => ?_) (fun h7 => ?_)
    · have hj_sh := z_shc (z_byr h7)
      refine p_aload_n (z_dec zd_X8_held 8 rfl) rfl 1 rfl (n := 13) rfl ?_
      refine q_getR (z_dec zd_X8_held 9 rfl) zf_X8_33 (i := 18) rfl rfl (n := 16) rfl ?_
      refine p_aload_n (z_dec zd_X8_held 10 rfl) rfl 1 rfl (n := 17) rfl ?_
      refine q_getR (z_dec zd_X8_held 11 rfl) zf_X8_10 (i := 1) rfl rfl (n := 20) rfl ?_
      refine q_callV (As := [.ref 1]) (rest := []) (z_dec zd_X8_held 12 rfl) zk_X8_146 zv_X3_begin (c_X3_begin (d - 1) (by omega) b I L np hnp hn10) rfl ⟨_, _, rfl⟩ rfl rfl (Nat.le_of_ble_eq_true rfl) (by omega) (n := 23) rfl ?_
      show PW zm_X8_held d 23 [(2, .int (f_X8_bytesRefusal I sh)), (0, .ref 0), (1, .int sh)] [] SH ((m_X3_begin I np), L, z_R b) 0 0 _
      have hP23 : z_H np sz (42 + 2 * sh.toNatClampNeg) (I (42 + 2 * sh.toNatClampNeg) 2).toNatClampNeg ((m_X3_begin I np)) := z_H_bg (by omega) hsz (hsl _ hj_sh.2).1
      refine p_aload_n (z_dec zd_X8_held 13 rfl) rfl 1 rfl (n := 24) rfl ?_
      refine q_getR (z_dec zd_X8_held 14 rfl) zf_X8_33 (i := 18) rfl rfl (n := 27) rfl ?_
      refine p_aload_n (z_dec zd_X8_held 15 rfl) rfl 1 rfl (n := 28) rfl ?_
      refine q_getR (z_dec zd_X8_held 16 rfl) zf_X8_67 (i := 41) rfl rfl (n := 31) rfl ?_
      refine p_iload_n (z_dec zd_X8_held 17 rfl) rfl 2 rfl (n := 32) rfl ?_
      refine q_aald (z_dec zd_X8_held 18 rfl) rfl (by decide) (sh.toNatClampNeg) hj_sh.1 hj_sh.2 (a := (42 + 2 * sh.toNatClampNeg)) (if_pos hj_sh.2) (n := 33) rfl ?_
      refine p_aload_n (z_dec zd_X8_held 19 rfl) rfl 1 rfl (n := 34) rfl ?_
      refine q_getR (z_dec zd_X8_held 20 rfl) zf_X8_26 (i := 13) rfl rfl (n := 37) rfl ?_
      refine p_iconst (z_dec zd_X8_held 21 rfl) (v := 0) (by decide) (n := 38) rfl ?_
      refine q_callV (As := [.ref (42 + 2 * sh.toNatClampNeg), .ref 13, .int 0]) (rest := []) (z_dec zd_X8_held 22 rfl) zk_X8_150 zv_X3_holdCard (c_X3_holdCard (d - 1) (by omega) b (m_X3_begin I np) L (42 + 2 * sh.toNatClampNeg) (z_SfOf b _ hj_sh.2) (by omega) np hn10 sz hs121 (I (42 + 2 * sh.toNatClampNeg) 2).toNatClampNeg (hsl _ hj_sh.2).2 hP23 0) rfl ⟨_, _, rfl⟩ rfl rfl (Nat.le_of_ble_eq_true rfl) (by omega) (n := 41) rfl ?_
      show PW zm_X8_held d 41 [(2, .int (f_X8_bytesRefusal I sh)), (0, .ref 0), (1, .int sh)] [] SH ((m_X3_holdCard b (m_X3_begin I np) L (42 + 2 * sh.toNatClampNeg) sz (I (42 + 2 * sh.toNatClampNeg) 2).toNatClampNeg 0), L, z_R b) 0 0 _
      refine p_aload_n (z_dec zd_X8_held 23 rfl) rfl 1 rfl (n := 42) rfl ?_
      refine q_getR (z_dec zd_X8_held 24 rfl) zf_X8_33 (i := 18) rfl rfl (n := 45) rfl ?_
      refine q_getI (z_dec zd_X8_held 25 rfl) zf_X8_154 (by decide) rfl (v := ((m_X3_holdCard b (m_X3_begin I np) L (42 + 2 * sh.toNatClampNeg) sz (I (42 + 2 * sh.toNatClampNeg) 2).toNatClampNeg 0) 18 2)) rfl (n := 48) rfl ?_
      exact p_iret (z_dec zd_X8_held 26 rfl) rfl ⟨(by unfold f_X8_held; rw [if_pos h7]), rfl, (z_3 (by unfold m_X8_held; rw [if_pos h7]) rfl)⟩
    · refine p_iload_n (z_dec zd_X8_held 6 rfl) rfl 0 rfl (n := 11) rfl ?_
      exact p_iret (z_dec zd_X8_held 7 rfl) rfl ⟨(by unfold f_X8_held; rw [if_neg h7]), rfl, (z_3 (by unfold m_X8_held; rw [if_neg h7]) rfl)⟩
  exact hentry
def f_X8_loses (b : Bool) (I : Nat → Nat → Int32) (L : Nat → Nat → Int64) (np : Nat) (sz : Nat) (sh : Int32) : Int32 := if (f_X8_bytesRefusal I sh) = 0 then ((m_X3_holdCard b (m_X3_begin I np) L (42 + 2 * sh.toNatClampNeg) sz (I (42 + 2 * sh.toNatClampNeg) 2).toNatClampNeg 0) 18 3) else (f_X8_bytesRefusal I sh)
def m_X8_loses (b : Bool) (I : Nat → Nat → Int32) (L : Nat → Nat → Int64) (np : Nat) (sz : Nat) (sh : Int32) : Nat → Nat → Int32 := if (f_X8_bytesRefusal I sh) = 0 then (m_X3_holdCard b (m_X3_begin I np) L (42 + 2 * sh.toNatClampNeg) sz (I (42 + 2 * sh.toNatClampNeg) 2).toNatClampNeg 0) else I
set_option maxHeartbeats 2000000 in
set_option maxRecDepth 100000 in
theorem c_X8_loses (d : Nat) (hd : 5 ≤ d) (b : Bool) (I : Nat → Nat → Int32) (L : Nat → Nat → Int64) (np : Nat) (hnp : I 1 0 = nI np) (hn10 : np ≤ 10) (sz : Nat) (hsz : I 13 4 = nI sz) (hs121 : sz ≤ 121) (hsl : ∀ j, j < 6 → I (42 + 2 * j) 2 = nI (I (42 + 2 * j) 2).toNatClampNeg ∧ (I (42 + 2 * j) 2).toNatClampNeg ≤ 60) (sh : Int32) : z_CT zm_X8_loses d [.ref 0, .int sh] SH (I, L, z_R b) 0 0 (z_ret (some (.int (f_X8_loses b I L np sz sh))) ((m_X8_loses b I L np sz sh), L, z_R b)) := by
  refine z_enter (by decide +kernel) (Nat.le_of_ble_eq_true rfl) ?_
  have hentry : PW zm_X8_loses d 0 [(0, .ref 0), (1, .int sh)] [] SH (I, L, z_R b) 0 0 (z_ret (some (.int (f_X8_loses b I L np sz sh))) ((m_X8_loses b I L np sz sh), L, z_R b)) := by
    refine p_aload_n (z_dec zd_X8_loses 0 rfl) rfl 0 rfl (n := 1) rfl ?_
    refine p_iload_n (z_dec zd_X8_loses 1 rfl) rfl 1 rfl (n := 2) rfl ?_
    refine q_callV (As := [.int sh]) (rest := []) (z_dec zd_X8_loses 2 rfl) zk_X8_142 zv_X8_bytesRefusal (c_X8_bytesRefusal (d - 1) (by omega) b I L sh) rfl ⟨_, _, rfl⟩ rfl rfl (Nat.le_of_ble_eq_true rfl) (by omega) (n := 5) rfl ?_
    show PW zm_X8_loses d 5 [(0, .ref 0), (1, .int sh)] [.int (f_X8_bytesRefusal I sh)] SH (I, L, z_R b) 0 0 _
    refine p_istore_n (z_dec zd_X8_loses 3 rfl) rfl (lv2 := [(2, .int (f_X8_bytesRefusal I sh)), (0, .ref 0), (1, .int sh)]) (by decide) rfl (n := 6) rfl ?_
    refine p_iload_n (z_dec zd_X8_loses 4 rfl) rfl 0 rfl (n := 7) rfl ?_
    refine p_if_eq (z_dec zd_X8_loses 5 rfl) (t := 12) (by decide) (n := 10) rfl (fun h7 => ?_) (fun h7 => ?_)
    · have hj_sh := z_shc (z_byr h7)
      refine p_aload_n (z_dec zd_X8_loses 8 rfl) rfl 1 rfl (n := 13) rfl ?_
      refine q_getR (z_dec zd_X8_loses 9 rfl) zf_X8_33 (i := 18) rfl rfl (n := 16) rfl ?_
      refine p_aload_n (z_dec zd_X8_loses 10 rfl) rfl 1 rfl (n := 17) rfl ?_
      refine q_getR (z_dec zd_X8_loses 11 rfl) zf_X8_10 (i := 1) rfl rfl (n := 20) rfl ?_
      refine q_callV (As := [.ref 1]) (rest := []) (z_dec zd_X8_loses 12 rfl) zk_X8_146 zv_X3_begin (c_X3_begin (d - 1) (by omega) b I L np hnp hn10) rfl ⟨_, _, rfl⟩ rfl rfl (Nat.le_of_ble_eq_true rfl) (by omega) (n := 23) rfl ?_
      show PW zm_X8_loses d 23 [(2, .int (f_X8_bytesRefusal I sh)), (0, .ref 0), (1, .int sh)] [] SH ((m_X3_begin I np), L, z_R b) 0 0 _
      have hP23 : z_H np sz (42 + 2 * sh.toNatClampNeg) (I (42 + 2 * sh.toNatClampNeg) 2).toNatClampNeg ((m_X3_begin I np)) := z_H_bg (by omega) hsz (hsl _ hj_sh.2).1
      refine p_aload_n (z_dec zd_X8_loses 13 rfl) rfl 1 rfl (n := 24) rfl ?_
      refine q_getR (z_dec zd_X8_loses 14 rfl) zf_X8_33 (i := 18) rfl rfl (n := 27) rfl ?_
      refine p_aload_n (z_dec zd_X8_loses 15 rfl) rfl 1 rfl (n := 28) rfl ?_
      refine q_getR (z_dec zd_X8_loses 16 rfl) zf_X8_67 (i := 41) rfl rfl (n := 31) rfl ?_
      refine p_iload_n (z_dec zd_X8_loses 17 rfl) rfl 2 rfl (n := 32) rfl ?_
      refine q_aald (z_dec zd_X8_loses 18 rfl) rfl (by decide) (sh.toNatClampNeg) hj_sh.1 hj_sh.2 (a := (42 + 2 * sh.toNatClampNeg)) (if_pos hj_sh.2) (n := 33) rfl ?_
      refine p_aload_n (z_dec zd_X8_loses 19 rfl) rfl 1 rfl (n := 34) rfl ?_
      refine q_getR (z_dec zd_X8_loses 20 rfl) zf_X8_26 (i := 13) rfl rfl (n := 37) rfl ?_
      refine p_iconst (z_dec zd_X8_loses 21 rfl) (v := 0) (by decide) (n := 38) rfl ?_
      refine q_callV (As := [.ref (42 + 2 * sh.toNatClampNeg), .ref 13, .int 0]) (rest := []) (z_dec zd_X8_loses 22 rfl) zk_X8_150 zv_X3_holdCard (c_X3_holdCard (d - 1) (by omega) b (m_X3_begin I np) L (42 + 2 * sh.toNatClampNeg) (z_SfOf b _ hj_sh.2) (by omega) np hn10 sz hs121 (I (42 + 2 * sh.toNatClampNeg) 2).toNatClampNeg (hsl _ hj_sh.2).2 hP23 0) rfl ⟨_, _, rfl⟩ rfl rfl (Nat.le_of_ble_eq_true rfl) (by omega) (n := 41) rfl ?_
      show PW zm_X8_loses d 41 [(2, .int (f_X8_bytesRefusal I sh)), (0, .ref 0), (1, .int sh)] [] SH ((m_X3_holdCard b (m_X3_begin I np) L (42 + 2 * sh.toNatClampNeg) sz (I (42 + 2 * sh.toNatClampNeg) 2).toNatClampNeg 0), L, z_R b) 0 0 _
      refine p_aload_n (z_dec zd_X8_loses 23 rfl) rfl 1 rfl (n := 42) rfl ?_
      refine q_getR (z_dec zd_X8_loses 24 rfl) zf_X8_33 (i := 18) rfl rfl (n := 45) rfl ?_
      refine q_getI (z_dec zd_X8_loses 25 rfl) zf_X8_157 (by decide) rfl (v := ((m_X3_holdCard b (m_X3_begin I np) L (42 + 2 * sh.toNatClampNeg) sz (I (42 + 2 * sh.toNatClampNeg) 2).toNatClampNeg 0) 18 3)) rfl (n := 48) rfl ?_
      exact p_iret (z_dec zd_X8_loses 26 rfl) rfl ⟨(by unfold f_X8_loses; rw [if_pos h7]), rfl, (z_3 (by unfold m_X8_loses; rw [if_pos h7]) rfl)⟩
    · refine p_iload_n (z_dec zd_X8_loses 6 rfl) rfl 0 rfl (n := 11) rfl ?_
      exact p_iret (z_dec zd_X8_loses 7 rfl) rfl ⟨(by unfold f_X8_loses; rw [if_neg h7]), rfl, (z_3 (by unfold m_X8_loses; rw [if_neg h7]) rfl)⟩
  exact hentry
