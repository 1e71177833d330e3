def m_X4_holdStool (I : Nat → Nat → Int32) (k : Nat) (body : Int32) : Nat → Nat → Int32 := if 0 ≤ body then (z_up (z_up (z_up I k 0 5) k 1 body) k 2 0) else (z_up (z_up (z_up I k 0 (-1)) k 1 body) k 2 0)
set_option maxHeartbeats 4000000 in
set_option maxRecDepth 100000 in
theorem c_X4_holdStool (d : Nat) (hd : 0 ≤ d) (b : Bool) (I : Nat → Nat → Int32) (L : Nat → Nat → Int64) (k : Nat) (hs : z_Sf b k) (body : Int32) : z_CT zm_X4_holdStool d [.ref k, .int body] SH (I, L, z_R b) 0 0 (z_ret (none) ((m_X4_holdStool I k body), L, z_R b)) := by
  refine z_enter (by decide +kernel) (Nat.le_of_ble_eq_true rfl) ?_
  have hentry : PW zm_X4_holdStool d 0 [(0, .ref k), (1, .int body)] [] SH (I, L, z_R b) 0 0 (z_ret (none) ((m_X4_holdStool I k body), L, z_R b)) := by
    refine p_aload_n (z_dec zd_X4_holdStool 0 rfl) rfl 0 rfl (n := 1) rfl ?_
    refine p_iload_n (z_dec zd_X4_holdStool 1 rfl) rfl 1 rfl (n := 2) rfl ?_
    refine p_if_ge (z_dec zd_X4_holdStool 2 rfl) (t := 9) (by decide) (n := 5) rfl (fun h2 => ?_) (fun h2 => ?_)
    · refine p_iconst (z_dec zd_X4_holdStool 5 rfl) (v := 5) (by decide) (n := 10) rfl ?_
      refine q_putI (z_dec zd_X4_holdStool 6 rfl) zp_X4_9 (fun q => by cases q) hs.1 (n := 13) rfl ?_
      refine p_aload_n (z_dec zd_X4_holdStool 7 rfl) rfl 0 rfl (n := 14) rfl ?_
      refine p_iload_n (z_dec zd_X4_holdStool 8 rfl) rfl 1 rfl (n := 15) rfl ?_
      refine q_putI (z_dec zd_X4_holdStool 9 rfl) zp_X4_15 (fun q => by cases q) hs.1 (n := 18) rfl ?_
      refine p_aload_n (z_dec zd_X4_holdStool 10 rfl) rfl 0 rfl (n := 19) rfl ?_
      refine p_iconst (z_dec zd_X4_holdStool 11 rfl) (v := 0) (by decide) (n := 20) rfl ?_
      refine q_putI (z_dec zd_X4_holdStool 12 rfl) zp_X4_18 (fun q => by cases q) hs.1 (n := 23) rfl ?_
      exact p_vret (z_dec zd_X4_holdStool 13 rfl) rfl ⟨rfl, rfl, (z_3 (by unfold m_X4_holdStool; rw [if_pos h2]) rfl)⟩
    · refine p_iconst (z_dec zd_X4_holdStool 3 rfl) (v := (-1)) (by decide) (n := 6) rfl ?_
      refine p_goto (z_dec zd_X4_holdStool 4 rfl) (t := 10) (by decide) ?_
      refine q_putI (z_dec zd_X4_holdStool 6 rfl) zp_X4_9 (fun q => by cases q) hs.1 (n := 13) rfl ?_
      refine p_aload_n (z_dec zd_X4_holdStool 7 rfl) rfl 0 rfl (n := 14) rfl ?_
      refine p_iload_n (z_dec zd_X4_holdStool 8 rfl) rfl 1 rfl (n := 15) rfl ?_
      refine q_putI (z_dec zd_X4_holdStool 9 rfl) zp_X4_15 (fun q => by cases q) hs.1 (n := 18) rfl ?_
      refine p_aload_n (z_dec zd_X4_holdStool 10 rfl) rfl 0 rfl (n := 19) rfl ?_
      refine p_iconst (z_dec zd_X4_holdStool 11 rfl) (v := 0) (by decide) (n := 20) rfl ?_
      refine q_putI (z_dec zd_X4_holdStool 12 rfl) zp_X4_18 (fun q => by cases q) hs.1 (n := 23) rfl ?_
      exact p_vret (z_dec zd_X4_holdStool 13 rfl) rfl ⟨rfl, rfl, (z_3 (by unfold m_X4_holdStool; rw [if_neg h2]) rfl)⟩
  exact hentry
def f_X4_holdsRow (I : Nat → Nat → Int32) (k : Nat) : Int32 := if (I k 0) < 0 then 0 else if 4 < (I k 0) then 0 else 1
set_option maxHeartbeats 4000000 in
set_option maxRecDepth 100000 in
theorem c_X4_holdsRow (d : Nat) (hd : 0 ≤ d) (b : Bool) (I : Nat → Nat → Int32) (L : Nat → Nat → Int64) (k : Nat) (hs : z_Sf b k) : z_CT zm_X4_holdsRow d [.ref k] SH (I, L, z_R b) 0 0 (z_ret (some (.int (f_X4_holdsRow I k))) (I, L, z_R b)) := by
  refine z_enter (by decide +kernel) (Nat.le_of_ble_eq_true rfl) ?_
  have hentry : PW zm_X4_holdsRow d 0 [(0, .ref k)] [] SH (I, L, z_R b) 0 0 (z_ret (some (.int (f_X4_holdsRow I k))) (I, L, z_R b)) := by
    refine p_aload_n (z_dec zd_X4_holdsRow 0 rfl) rfl 0 rfl (n := 1) rfl ?_
    refine q_getI (z_dec zd_X4_holdsRow 1 rfl) zf_X4_9 (by decide) hs.1 (v := (I k 0)) rfl (n := 4) rfl ?_
    refine p_if_lt (z_dec zd_X4_holdsRow 2 rfl) (t := 19) (by decide) (n := 7) rfl (fun h4 => ?_) (fun h4 => ?_)
    · refine p_iconst (z_dec zd_X4_holdsRow 9 rfl) (v := 0) (by decide) (n := 20) rfl ?_
      exact p_zret (z_dec zd_X4_holdsRow 10 rfl) rfl (Or.inl rfl) ⟨(by unfold f_X4_holdsRow; rw [if_pos h4]), rfl, rfl⟩
    · refine p_aload_n (z_dec zd_X4_holdsRow 3 rfl) rfl 0 rfl (n := 8) rfl ?_
      refine q_getI (z_dec zd_X4_holdsRow 4 rfl) zf_X4_9 (by decide) hs.1 (v := (I k 0)) rfl (n := 11) rfl ?_
      refine p_iconst (z_dec zd_X4_holdsRow 5 rfl) (v := 4) (by decide) (n := 12) rfl ?_
      refine p_icmp_gt (z_dec zd_X4_holdsRow 6 rfl) (t := 19) (by decide) (n := 15) rfl (fun h12 => ?_) (fun h12 => ?_)
      · refine p_iconst (z_dec zd_X4_holdsRow 9 rfl) (v := 0) (by decide) (n := 20) rfl ?_
        exact p_zret (z_dec zd_X4_holdsRow 10 rfl) rfl (Or.inl rfl) ⟨(by unfold f_X4_holdsRow; rw [if_neg h4, if_pos h12]), rfl, rfl⟩
      · refine p_iconst (z_dec zd_X4_holdsRow 7 rfl) (v := 1) (by decide) (n := 16) rfl ?_
        refine p_goto (z_dec zd_X4_holdsRow 8 rfl) (t := 20) (by decide) ?_
        exact p_zret (z_dec zd_X4_holdsRow 10 rfl) rfl (Or.inr rfl) ⟨(by unfold f_X4_holdsRow; rw [if_neg h4, if_neg h12]), rfl, rfl⟩
  exact hentry
theorem fb_X4_holdsRow (I : Nat → Nat → Int32) (k : Nat) : f_X4_holdsRow I k = 0 ∨ f_X4_holdsRow I k = 1 := by
  unfold f_X4_holdsRow
  (repeat' split) <;> first | exact Or.inl rfl | exact Or.inr rfl
def f_X4_hasPlaces (I : Nat → Nat → Int32) (k : Nat) (i : Int32) (n : Int32) : Int32 := if i < 0 then 0 else if n < 0 then 0 else if ((I k 2) - n) < i then 0 else 1
set_option maxHeartbeats 4000000 in
set_option maxRecDepth 100000 in
theorem c_X4_hasPlaces (d : Nat) (hd : 0 ≤ d) (b : Bool) (I : Nat → Nat → Int32) (L : Nat → Nat → Int64) (k : Nat) (hs : z_Sf b k) (i : Int32) (n : Int32) : z_CT zm_X4_hasPlaces d [.ref k, .int i, .int n] SH (I, L, z_R b) 0 0 (z_ret (some (.int (f_X4_hasPlaces I k i n))) (I, L, z_R b)) := by
  refine z_enter (by decide +kernel) (Nat.le_of_ble_eq_true rfl) ?_
  have hentry : PW zm_X4_hasPlaces d 0 [(0, .ref k), (1, .int i), (2, .int n)] [] SH (I, L, z_R b) 0 0 (z_ret (some (.int (f_X4_hasPlaces I k i n))) (I, L, z_R b)) := by
    refine p_iload_n (z_dec zd_X4_hasPlaces 0 rfl) rfl 1 rfl (n := 1) rfl ?_
    refine p_if_lt (z_dec zd_X4_hasPlaces 1 rfl) (t := 22) (by decide) (n := 4) rfl (fun h1 => ?_) (fun h1 => ?_)
    · refine p_iconst (z_dec zd_X4_hasPlaces 12 rfl) (v := 0) (by decide) (n := 23) rfl ?_
      exact p_zret (z_dec zd_X4_hasPlaces 13 rfl) rfl (Or.inl rfl) ⟨(by unfold f_X4_hasPlaces; rw [if_pos h1]), rfl, rfl⟩
    · refine p_iload_n (z_dec zd_X4_hasPlaces 2 rfl) rfl 2 rfl (n := 5) rfl ?_
      refine p_if_lt (z_dec zd_X4_hasPlaces 3 rfl) (t := 22) (by decide) (n := 8) rfl (fun h5 => ?_) (fun h5 => ?_)
      · refine p_iconst (z_dec zd_X4_hasPlaces 12 rfl) (v := 0) (by decide) (n := 23) rfl ?_
        exact p_zret (z_dec zd_X4_hasPlaces 13 rfl) rfl (Or.inl rfl) ⟨(by unfold f_X4_hasPlaces; rw [if_neg h1, if_pos h5]), rfl, rfl⟩
      · refine p_iload_n (z_dec zd_X4_hasPlaces 4 rfl) rfl 1 rfl (n := 9) rfl ?_
        refine p_aload_n (z_dec zd_X4_hasPlaces 5 rfl) rfl 0 rfl (n := 10) rfl ?_
        refine q_getI (z_dec zd_X4_hasPlaces 6 rfl) zf_X4_18 (by decide) hs.1 (v := (I k 2)) rfl (n := 13) rfl ?_
        refine p_iload_n (z_dec zd_X4_hasPlaces 7 rfl) rfl 2 rfl (n := 14) rfl ?_
        refine p_isub (z_dec zd_X4_hasPlaces 8 rfl) (n := 15) rfl ?_
        refine p_icmp_gt (z_dec zd_X4_hasPlaces 9 rfl) (t := 22) (by decide) (n := 18) rfl (fun h15 => ?_) (fun h15 => ?_)
        · refine p_iconst (z_dec zd_X4_hasPlaces 12 rfl) (v := 0) (by decide) (n := 23) rfl ?_
          exact p_zret (z_dec zd_X4_hasPlaces 13 rfl) rfl (Or.inl rfl) ⟨(by unfold f_X4_hasPlaces; rw [if_neg h1, if_neg h5, if_pos h15]), rfl, rfl⟩
        · refine p_iconst (z_dec zd_X4_hasPlaces 10 rfl) (v := 1) (by decide) (n := 19) rfl ?_
          refine p_goto (z_dec zd_X4_hasPlaces 11 rfl) (t := 23) (by decide) ?_
          exact p_zret (z_dec zd_X4_hasPlaces 13 rfl) rfl (Or.inr rfl) ⟨(by unfold f_X4_hasPlaces; rw [if_neg h1, if_neg h5, if_neg h15]), rfl, rfl⟩
  exact hentry
theorem fb_X4_hasPlaces (I : Nat → Nat → Int32) (k : Nat) (i : Int32) (n : Int32) : f_X4_hasPlaces I k i n = 0 ∨ f_X4_hasPlaces I k i n = 1 := by
  unfold f_X4_hasPlaces
  (repeat' split) <;> first | exact Or.inl rfl | exact Or.inr rfl
theorem z_plc {I : Nat → Nat → Int32} {k len : Nat} {i : Int32} (hlen : I k 2 = nI len) (hl60 : len ≤ 60) (h : ¬ f_X4_hasPlaces I k i 1 = 0) : i = nI i.toNatClampNeg ∧ i.toNatClampNeg < len := by
  unfold f_X4_hasPlaces at h
  rw [hlen] at h
  by_cases h1 : i < 0
  · rw [if_pos h1] at h; exact absurd rfl h
  · rw [if_neg h1, if_neg (by decide)] at h
    by_cases h2 : nI len - 1 < i
    · rw [if_pos h2] at h; exact absurd rfl h
    · obtain ⟨j, hj, rfl⟩ := nI_of h1
      rw [nI_clamp hj]
      refine ⟨rfl, ?_⟩
      rcases Nat.lt_or_ge j len with q | q
      · exact q
      · exfalso
        apply h2
        rcases Nat.eq_zero_or_pos len with e | e
        · subst e
          rw [Int32.lt_iff_toInt_lt, nI_toInt hj]
          show (-1 : Int) < _
          omega
        · rw [z_pred e]
          exact nI_lt (by omega) hj
def f_X4_valueAt (I : Nat → Nat → Int32) (L : Nat → Nat → Int64) (k : Nat) (i : Int32) : Int64 := if (f_X4_hasPlaces I k i 1) = 0 then 0 else (L (k + 1) i.toNatClampNeg)
set_option maxHeartbeats 4000000 in
set_option maxRecDepth 100000 in
theorem c_X4_valueAt (d : Nat) (hd : 1 ≤ d) (b : Bool) (I : Nat → Nat → Int32) (L : Nat → Nat → Int64) (k : Nat) (hs : z_Sf b k) (len : Nat) (hlen : I k 2 = nI len) (hl60 : len ≤ 60) (i : Int32) : z_CT zm_X4_valueAt d [.ref k, .int i] SH (I, L, z_R b) 0 0 (z_ret (some (.long (f_X4_valueAt I L k i))) (I, L, z_R b)) := by
  refine z_enter (by decide +kernel) (Nat.le_of_ble_eq_true rfl) ?_
  have hentry : PW zm_X4_valueAt d 0 [(0, .ref k), (1, .int i)] [] SH (I, L, z_R b) 0 0 (z_ret (some (.long (f_X4_valueAt I L k i))) (I, L, z_R b)) := by
    refine p_aload_n (z_dec zd_X4_valueAt 0 rfl) rfl 0 rfl (n := 1) rfl ?_
    refine p_iload_n (z_dec zd_X4_valueAt 1 rfl) rfl 1 rfl (n := 2) rfl ?_
    refine p_iconst (z_dec zd_X4_valueAt 2 rfl) (v := 1) (by decide) (n := 3) rfl ?_
    refine q_callV (As := [.int i, .int 1]) (rest := []) (z_dec zd_X4_valueAt 3 rfl) zk_X4_25 zv_X4_hasPlaces (c_X4_hasPlaces (d - 1) (by omega) b I L k hs i 1) hs.1 ⟨_, _, rfl⟩ rfl rfl (Nat.le_of_ble_eq_true rfl) (by omega) (n := 6) rfl ?_
    show PW zm_X4_valueAt d 6 [(0, .ref k), (1, .int i)] [.int (f_X4_hasPlaces I k i 1)] SH (I, L, z_R b) 0 0 _
    refine p_if_eq (z_dec zd_X4_valueAt 4 rfl) (t := 18) (by decide) (n := 9) rfl (fun h6 => ?_) (fun h6 => ?_)
    · refine p_lconst (z_dec zd_X4_valueAt 10 rfl) (v := 0) (by decide) (n := 19) rfl ?_
      exact p_lret (z_dec zd_X4_valueAt 11 rfl) rfl ⟨(by unfold f_X4_valueAt; rw [if_pos h6]), rfl, rfl⟩
    · have hj := z_plc hlen hl60 h6
      refine p_aload_n (z_dec zd_X4_valueAt 5 rfl) rfl 0 rfl (n := 10) rfl ?_
      refine q_getR (z_dec zd_X4_valueAt 6 rfl) zf_X4_21 (i := (k + 1)) hs.2.2 hs.1 (n := 13) rfl ?_
      refine p_iload_n (z_dec zd_X4_valueAt 7 rfl) rfl 1 rfl (n := 14) rfl ?_
      refine q_lald (z_dec zd_X4_valueAt 8 rfl) hs.2.1 (by decide) (i.toNatClampNeg) hj.1 (Nat.lt_of_lt_of_le hj.2 hl60) (v := (L (k + 1) i.toNatClampNeg)) rfl (n := 15) rfl ?_
      refine p_goto (z_dec zd_X4_valueAt 9 rfl) (t := 19) (by decide) ?_
      exact p_lret (z_dec zd_X4_valueAt 11 rfl) rfl ⟨(by unfold f_X4_valueAt; rw [if_neg h6]), rfl, rfl⟩
  exact hentry
def f_X4_cut (I : Nat → Nat → Int32) (k : Nat) (v : Int64) : Int64 := if (I k 0) = 0 then (((v.toInt32).toInt8.toInt32).toInt64) else if (I k 0) = 1 then (((v.toInt32).toInt16.toInt32).toInt64) else if (I k 0) = 2 then ((v.toInt32).toInt64) else if (I k 0) = 3 then v else if (lg_cmp v 0) = 0 then 0 else 1
set_option maxHeartbeats 4000000 in
set_option maxRecDepth 100000 in
theorem c_X4_cut (d : Nat) (hd : 0 ≤ d) (b : Bool) (I : Nat → Nat → Int32) (L : Nat → Nat → Int64) (k : Nat) (hs : z_Sf b k) (v : Int64) : z_CT zm_X4_cut d [.ref k, .long v] SH (I, L, z_R b) 0 0 (z_ret (some (.long (f_X4_cut I k v))) (I, L, z_R b)) := by
  refine z_enter (by decide +kernel) (Nat.le_of_ble_eq_true rfl) ?_
  have hentry : PW zm_X4_cut d 0 [(0, .ref k), (1, .long v)] [] SH (I, L, z_R b) 0 0 (z_ret (some (.long (f_X4_cut I k v))) (I, L, z_R b)) := by
    refine p_aload_n (z_dec zd_X4_cut 0 rfl) rfl 0 rfl (n := 1) rfl ?_
    refine q_getI (z_dec zd_X4_cut 1 rfl) zf_X4_9 (by decide) hs.1 (v := (I k 0)) rfl (n := 4) rfl ?_
    by_cases hs4_0 : (I k 0) = 0
    · refine p_tableIn (z_dec zd_X4_cut 2 rfl) (off := 32) (t := 36) (by rw [hs4_0]; decide) (by rw [hs4_0]; decide) (by rw [hs4_0]; rfl) (by decide) ?_
      refine p_lload_n (z_dec zd_X4_cut 3 rfl) rfl 1 rfl (n := 37) rfl ?_
      refine p_l2i (z_dec zd_X4_cut 4 rfl) (n := 38) rfl ?_
      refine p_i2b (z_dec zd_X4_cut 5 rfl) (n := 39) rfl ?_
      refine p_i2l (z_dec zd_X4_cut 6 rfl) (n := 40) rfl ?_
      exact p_lret (z_dec zd_X4_cut 7 rfl) rfl ⟨(by unfold f_X4_cut; rw [if_pos hs4_0]), rfl, rfl⟩
    by_cases hs4_1 : (I k 0) = 1
    · refine p_tableIn (z_dec zd_X4_cut 2 rfl) (off := 37) (t := 41) (by rw [hs4_1]; decide) (by rw [hs4_1]; decide) (by rw [hs4_1]; rfl) (by decide) ?_
      refine p_lload_n (z_dec zd_X4_cut 8 rfl) rfl 1 rfl (n := 42) rfl ?_
      refine p_l2i (z_dec zd_X4_cut 9 rfl) (n := 43) rfl ?_
      refine p_i2s (z_dec zd_X4_cut 10 rfl) (n := 44) rfl ?_
      refine p_i2l (z_dec zd_X4_cut 11 rfl) (n := 45) rfl ?_
      exact p_lret (z_dec zd_X4_cut 12 rfl) rfl ⟨(by unfold f_X4_cut; rw [if_neg hs4_0, if_pos hs4_1]), rfl, rfl⟩
    by_cases hs4_2 : (I k 0) = 2
    · refine p_tableIn (z_dec zd_X4_cut 2 rfl) (off := 42) (t := 46) (by rw [hs4_2]; decide) (by rw [hs4_2]; decide) (by rw [hs4_2]; rfl) (by decide) ?_
      refine p_lload_n (z_dec zd_X4_cut 13 rfl) rfl 1 rfl (n := 47) rfl ?_
      refine p_l2i (z_dec zd_X4_cut 14 rfl) (n := 48) rfl ?_
      refine p_i2l (z_dec zd_X4_cut 15 rfl) (n := 49) rfl ?_
      exact p_lret (z_dec zd_X4_cut 16 rfl) rfl ⟨(by unfold f_X4_cut; rw [if_neg hs4_0, if_neg hs4_1, if_pos hs4_2]), rfl, rfl⟩
    by_cases hs4_3 : (I k 0) = 3
    · refine p_tableIn (z_dec zd_X4_cut 2 rfl) (off := 46) (t := 50) (by rw [hs4_3]; decide) (by rw [hs4_3]; decide) (by rw [hs4_3]; rfl) (by decide) ?_
      refine p_lload_n (z_dec zd_X4_cut 17 rfl) rfl 1 rfl (n := 51) rfl ?_
      exact p_lret (z_dec zd_X4_cut 18 rfl) rfl ⟨(by unfold f_X4_cut; rw [if_neg hs4_0, if_neg hs4_1, if_neg hs4_2, if_pos hs4_3]), rfl, rfl⟩
    have hs4_0n : ¬ (I k 0).toInt = 0 := lv_neT hs4_0 rfl
    have hs4_1n : ¬ (I k 0).toInt = 1 := lv_neT hs4_1 rfl
    have hs4_2n : ¬ (I k 0).toInt = 2 := lv_neT hs4_2 rfl
    have hs4_3n : ¬ (I k 0).toInt = 3 := lv_neT hs4_3 rfl
    refine p_tableOut (z_dec zd_X4_cut 2 rfl) (t := 52) (by omega) (by decide) ?_
    refine p_lload_n (z_dec zd_X4_cut 19 rfl) rfl 1 rfl (n := 53) rfl ?_
    refine p_lconst (z_dec zd_X4_cut 20 rfl) (v := 0) (by decide) (n := 54) rfl ?_
    refine p_lcmp (z_dec zd_X4_cut 21 rfl) (n := 55) rfl ?_
    refine p_if_eq (z_dec zd_X4_cut 22 rfl) (t := 62) (by decide) (n := 58) rfl (fun h55 => ?_) (fun h55 => ?_)
    · refine p_lconst (z_dec zd_X4_cut 25 rfl) (v := 0) (by decide) (n := 63) rfl ?_
      exact p_lret (z_dec zd_X4_cut 26 rfl) rfl ⟨(by unfold f_X4_cut; rw [if_neg hs4_0, if_neg hs4_1, if_neg hs4_2, if_neg hs4_3, if_pos h55]), rfl, rfl⟩
    · refine p_lconst (z_dec zd_X4_cut 23 rfl) (v := 1) (by decide) (n := 59) rfl ?_
      refine p_goto (z_dec zd_X4_cut 24 rfl) (t := 63) (by decide) ?_
      exact p_lret (z_dec zd_X4_cut 26 rfl) rfl ⟨(by unfold f_X4_cut; rw [if_neg hs4_0, if_neg hs4_1, if_neg hs4_2, if_neg hs4_3, if_neg h55]), rfl, rfl⟩
  exact hentry
def n_X4_setAt (I : Nat → Nat → Int32) (L : Nat → Nat → Int64) (k : Nat) (i : Int32) (v : Int64) : Nat → Nat → Int64 := if (f_X4_hasPlaces I k i 1) = 0 then L else (z_up L (k + 1) i.toNatClampNeg (f_X4_cut I k v))
set_option maxHeartbeats 4000000 in
set_option maxRecDepth 100000 in
theorem c_X4_setAt (d : Nat) (hd : 1 ≤ d) (b : Bool) (I : Nat → Nat → Int32) (L : Nat → Nat → Int64) (k : Nat) (hs : z_Sf b k) (len : Nat) (hlen : I k 2 = nI len) (hl60 : len ≤ 60) (i : Int32) (v : Int64) : z_CT zm_X4_setAt d [.ref k, .int i, .long v] SH (I, L, z_R b) 0 0 (z_ret (none) (I, (n_X4_setAt I L k i v), z_R b)) := by
  refine z_enter (by decide +kernel) (Nat.le_of_ble_eq_true rfl) ?_
  have hentry : PW zm_X4_setAt d 0 [(0, .ref k), (1, .int i), (2, .long v)] [] SH (I, L, z_R b) 0 0 (z_ret (none) (I, (n_X4_setAt I L k i v), z_R b)) := by
    refine p_aload_n (z_dec zd_X4_setAt 0 rfl) rfl 0 rfl (n := 1) rfl ?_
    refine p_iload_n (z_dec zd_X4_setAt 1 rfl) rfl 1 rfl (n := 2) rfl ?_
    refine p_iconst (z_dec zd_X4_setAt 2 rfl) (v := 1) (by decide) (n := 3) rfl ?_
    refine q_callV (As := [.int i, .int 1]) (rest := []) (z_dec zd_X4_setAt 3 rfl) zk_X4_25 zv_X4_hasPlaces (c_X4_hasPlaces (d - 1) (by omega) b I L k hs i 1) hs.1 ⟨_, _, rfl⟩ rfl rfl (Nat.le_of_ble_eq_true rfl) (by omega) (n := 6) rfl ?_
    show PW zm_X4_setAt d 6 [(0, .ref k), (1, .int i), (2, .long v)] [.int (f_X4_hasPlaces I k i 1)] SH (I, L, z_R b) 0 0 _
    refine p_if_eq (z_dec zd_X4_setAt 4 rfl) (t := 20) (by decide) (n := 9) rfl (fun h6 => ?_) (fun h6 => ?_)
    · exact p_vret (z_dec zd_X4_setAt 12 rfl) rfl ⟨rfl, rfl, (z_3 rfl (by unfold n_X4_setAt; rw [if_pos h6]))⟩
    · have hj := z_plc hlen hl60 h6
      refine p_aload_n (z_dec zd_X4_setAt 5 rfl) rfl 0 rfl (n := 10) rfl ?_
      refine q_getR (z_dec zd_X4_setAt 6 rfl) zf_X4_21 (i := (k + 1)) hs.2.2 hs.1 (n := 13) rfl ?_
      refine p_iload_n (z_dec zd_X4_setAt 7 rfl) rfl 1 rfl (n := 14) rfl ?_
      refine p_aload_n (z_dec zd_X4_setAt 8 rfl) rfl 0 rfl (n := 15) rfl ?_
      refine p_lload_n (z_dec zd_X4_setAt 9 rfl) rfl 2 rfl (n := 16) rfl ?_
      refine q_callV (As := [.long v]) (rest := [.int i, .ref (k + 1)]) (z_dec zd_X4_setAt 10 rfl) zk_X4_29 zv_X4_cut (c_X4_cut (d - 1) (by omega) b I L k hs v) hs.1 ⟨_, _, rfl⟩ rfl rfl (Nat.le_of_ble_eq_true rfl) (by omega) (n := 19) rfl ?_
      show PW zm_X4_setAt d 19 [(0, .ref k), (1, .int i), (2, .long v)] [.long (f_X4_cut I k v), .int i, .ref (k + 1)] SH (I, L, z_R b) 0 0 _
      refine q_last (z_dec zd_X4_setAt 11 rfl) hs.2.1 (by decide) (i.toNatClampNeg) hj.1 (Nat.lt_of_lt_of_le hj.2 hl60) (n := 20) rfl ?_
      exact p_vret (z_dec zd_X4_setAt 12 rfl) rfl ⟨rfl, rfl, (z_3 rfl (by unfold n_X4_setAt; rw [if_neg h6]))⟩
  exact hentry
def gb_X4_holdRow_17 (L : Nat → Nat → Int64) (k : Nat) (i17 : Nat) (s : (Nat → Nat → Int64)) : (Nat → Nat → Int64) := (z_up s (k + 1) i17 0)
def g_X4_holdRow_17 (L : Nat → Nat → Int64) (k : Nat) : Nat → (Nat → Nat → Int64)
  | 0 => L
  | i17 + 1 => gb_X4_holdRow_17 L k i17 (g_X4_holdRow_17 L k i17)
def m_X4_holdRow (I : Nat → Nat → Int32) (L : Nat → Nat → Int64) (k : Nat) (sort : Int32) (n : Int32) : Nat → Nat → Int32 := (z_up (z_up (z_up I k 0 sort) k 1 (-1)) k 2 n)
def n_X4_holdRow (I : Nat → Nat → Int32) (L : Nat → Nat → Int64) (k : Nat) (sort : Int32) (n : Int32) : Nat → Nat → Int64 := (g_X4_holdRow_17 L k 60)
set_option maxHeartbeats 4000000 in
set_option maxRecDepth 100000 in
theorem c_X4_holdRow (d : Nat) (hd : 0 ≤ d) (b : Bool) (I : Nat → Nat → Int32) (L : Nat → Nat → Int64) (k : Nat) (hs : z_Sf b k) (sort : Int32) (n : Int32) : z_CT zm_X4_holdRow d [.ref k, .int sort, .int n] SH (I, L, z_R b) 0 0 (z_ret (none) ((m_X4_holdRow I L k sort n), (n_X4_holdRow I L k sort n), z_R b)) := by
  refine z_enter (by decide +kernel) (Nat.le_of_ble_eq_true rfl) ?_
  have hentry : PW zm_X4_holdRow d 0 [(0, .ref k), (1, .int sort), (2, .int n)] [] SH (I, L, z_R b) 0 0 (z_ret (none) ((m_X4_holdRow I L k sort n), (n_X4_holdRow I L k sort n), z_R b)) := by
    refine p_aload_n (z_dec zd_X4_holdRow 0 rfl) rfl 0 rfl (n := 1) rfl ?_
    refine p_iload_n (z_dec zd_X4_holdRow 1 rfl) rfl 1 rfl (n := 2) rfl ?_
    refine q_putI (z_dec zd_X4_holdRow 2 rfl) zp_X4_9 (fun q => by cases q) hs.1 (n := 5) rfl ?_
    refine p_aload_n (z_dec zd_X4_holdRow 3 rfl) rfl 0 rfl (n := 6) rfl ?_
    refine p_iconst (z_dec zd_X4_holdRow 4 rfl) (v := (-1)) (by decide) (n := 7) rfl ?_
    refine q_putI (z_dec zd_X4_holdRow 5 rfl) zp_X4_15 (fun q => by cases q) hs.1 (n := 10) rfl ?_
    refine p_aload_n (z_dec zd_X4_holdRow 6 rfl) rfl 0 rfl (n := 11) rfl ?_
    refine p_iload_n (z_dec zd_X4_holdRow 7 rfl) rfl 2 rfl (n := 12) rfl ?_
    refine q_putI (z_dec zd_X4_holdRow 8 rfl) zp_X4_18 (fun q => by cases q) hs.1 (n := 15) rfl ?_
    refine p_iconst (z_dec zd_X4_holdRow 9 rfl) (v := 0) (by decide) (n := 16) rfl ?_
    refine p_istore_n (z_dec zd_X4_holdRow 10 rfl) rfl (lv2 := [(3, .int 0), (0, .ref k), (1, .int sort), (2, .int n)]) (by decide) rfl (n := 17) rfl ?_
    have hL17 : ∀ i17, i17 ≤ 60 → PW zm_X4_holdRow d 17 [(3, .int (nI i17)), (0, .ref k), (1, .int sort), (2, .int n)] [] SH ((z_up (z_up (z_up I k 0 sort) k 1 (-1)) k 2 n), (g_X4_holdRow_17 L k i17), z_R b) 0 0 (z_ret (none) ((m_X4_holdRow I L k sort n), (n_X4_holdRow I L k sort n), z_R b)) := by
      refine z_down 60 (fun i17 hi17 ih17 => ?_)
      refine p_iload_n (z_dec zd_X4_holdRow 11 rfl) rfl 0 rfl (n := 18) rfl ?_
      refine p_bipush (z_dec zd_X4_holdRow 12 rfl) (v := 60) (by decide) (n := 20) rfl ?_
      refine p_icmp_ge (z_dec zd_X4_holdRow 13 rfl) (t := 36) (by decide) (n := 23) rfl (fun h20 => ?_) (fun h20 => ?_)
      · have hx17 : i17 = 60 := by have := z_ge (a := 60) h20; omega
        rw [hx17]
        exact p_vret (z_dec zd_X4_holdRow 21 rfl) rfl ⟨rfl, rfl, (z_3 (by unfold m_X4_holdRow; rfl) (by unfold n_X4_holdRow; rfl))⟩
      · have hx17 : i17 < 60 := by have := z_nge (a := 60) h20; omega
        refine p_aload_n (z_dec zd_X4_holdRow 14 rfl) rfl 1 rfl (n := 24) rfl ?_
        refine q_getR (z_dec zd_X4_holdRow 15 rfl) zf_X4_21 (i := (k + 1)) hs.2.2 hs.1 (n := 27) rfl ?_
        refine p_iload_n (z_dec zd_X4_holdRow 16 rfl) rfl 0 rfl (n := 28) rfl ?_
        refine p_lconst (z_dec zd_X4_holdRow 17 rfl) (v := 0) (by decide) (n := 29) rfl ?_
        refine q_last (z_dec zd_X4_holdRow 18 rfl) hs.2.1 (by decide) (i17) rfl (by omega) (n := 30) rfl ?_
        refine p_iinc (z_dec zd_X4_holdRow 19 rfl) 0 rfl (v := (nI (i17 + 1))) (nI_1 _) (lv2 := [(3, .int (nI (i17 + 1))), (0, .ref k), (1, .int sort), (2, .int n)]) (by decide) rfl (n := 33) rfl ?_
        refine p_goto (z_dec zd_X4_holdRow 20 rfl) (t := 17) (by decide) ?_
        have eb : (g_X4_holdRow_17 L k) (i17 + 1) = (z_up (g_X4_holdRow_17 L k i17) (k + 1) i17 0) := by show gb_X4_holdRow_17 L k i17 ((g_X4_holdRow_17 L k) i17) = _; unfold gb_X4_holdRow_17; rfl
        refine z_lv (lv' := [(3, .int (nI (i17 + 1))), (0, .ref k), (1, .int sort), (2, .int n)]) rfl rfl (by rw [eb]) (ih17 (by omega))
    refine z_lv (lv' := [(3, .int (nI 0)), (0, .ref k), (1, .int sort), (2, .int n)]) rfl rfl rfl (hL17 0 (Nat.zero_le _))
  exact hentry
