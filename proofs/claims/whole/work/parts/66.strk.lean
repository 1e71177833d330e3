/-- two products of t factors, each at most 12 -/
def z_nn (t : Nat) (x y : Int64) : Prop := ∃ a c : Nat, x = lN a ∧ a ≤ 12 ^ t ∧ y = lN c ∧ c ≤ 12 ^ t
theorem z_nn0 : z_nn 0 1 1 := ⟨1, 1, rfl, Nat.le_refl _, rfl, Nat.le_refl _⟩
theorem z_nnS {t : Nat} {x y u w : Int64} (h : z_nn t x y) (hu : ∃ p : Nat, p ≤ 12 ∧ u = lN p) (hw : ∃ p : Nat, p ≤ 12 ∧ w = lN p) : z_nn (t + 1) (x * u) (y * w) := by
  obtain ⟨a, c, rfl, h1, rfl, h2⟩ := h
  obtain ⟨p, hp, rfl⟩ := hu
  obtain ⟨q, hq, rfl⟩ := hw
  exact ⟨a * p, c * q, lN_mul a p, by rw [Nat.pow_succ]; exact Nat.mul_le_mul h1 hp, lN_mul c q, by rw [Nat.pow_succ]; exact Nat.mul_le_mul h2 hq⟩
theorem z_nnN {t : Nat} {x y : Int64} (h : z_nn t x y) (ht : t ≤ 8) : 0 ≤ x ∧ 0 ≤ y ∧ 0 ≤ x + y := by
  obtain ⟨a, c, rfl, h1, rfl, h2⟩ := h
  have h12 : 12 ^ t ≤ 12 ^ 8 := Nat.pow_le_pow_right (by decide) ht
  have e12 : (12 : Nat) ^ 8 = 429981696 := rfl
  rw [lN_add]
  exact ⟨(pk_lLE (a := 0) (by decide) (by omega)).mpr (Nat.zero_le _), (pk_lLE (a := 0) (by decide) (by omega)).mpr (Nat.zero_le _), (pk_lLE (a := 0) (by decide) (by omega)).mpr (Nat.zero_le _)⟩
theorem z_in12 {x : Int32} (h0 : 0 ≤ x) (h : x ≤ 12) : ∃ p : Nat, p ≤ 12 ∧ x = nI p := by
  obtain ⟨j, hj, rfl⟩ := nI_of (Int32.not_lt.mpr h0)
  exact ⟨j, (nI_leI (a := j) (b := 12) hj (by omega)).mp h, rfl⟩
theorem z_cl12 (X : Int32) : ∃ p : Nat, p ≤ 12 ∧ (if 0 ≤ X then if X ≤ 12 then X else 12 else 0) = nI p := by
  by_cases h1 : 0 ≤ X
  · rw [if_pos h1]
    by_cases h2 : X ≤ 12
    · rw [if_pos h2]; exact z_in12 h1 h2
    · rw [if_neg h2]; exact ⟨12, by decide, rfl⟩
  · rw [if_neg h1]; exact ⟨0, by decide, rfl⟩
theorem z_oo12 (I : Nat → Nat → Int32) (x y z : Nat) : ∃ p : Nat, p ≤ 12 ∧ f_X9_oddsOf I x y z = nI p := by
  unfold f_X9_oddsOf
  by_cases h : I 54 10 < 0
  · rw [if_pos h]; exact z_cl12 _
  · rw [if_neg h]; exact z_cl12 _
theorem z_12a (I : Nat → Nat → Int32) (x y z : Nat) : ∃ p : Nat, p ≤ 12 ∧ (f_X9_oddsOf I x y z).toInt64 = lN p := by
  obtain ⟨p, hp, e⟩ := z_oo12 I x y z
  exact ⟨p, hp, by rw [e, nI_l (by omega)]⟩
theorem z_12b (I : Nat → Nat → Int32) (x y z : Nat) : ∃ p : Nat, p ≤ 12 ∧ (12 - f_X9_oddsOf I x y z).toInt64 = lN p := by
  obtain ⟨p, hp, e⟩ := z_oo12 I x y z
  refine ⟨12 - p, by omega, ?_⟩
  rw [e, show (12 : Int32) - nI p = nI (12 - p) from pk_sub (a := 12) hp, nI_l (by omega)]
def gx_X9_streak_68 (I : Nat → Nat → Int32) (np : Nat) (abu : Int32) (part : Int32) : Nat → Nat → (Int64) → (Int64) → Int64
  | 0, t68, v5, v7 => (f_X9_partOf v5 v7 part)
  | r68 + 1, t68, v5, v7 => gx_X9_streak_68 I np abu part r68 (t68 + 1) (v5 * ((12 - (f_X9_oddsOf (m_X9_begins I np) ((abu / 100).toNatClampNeg) (((abu / 10) - (abu / 10) / 10 * 10).toNatClampNeg) ((abu - abu / 10 * 10).toNatClampNeg))).toInt64)) (v7 * 12)
def f_X9_streak (I : Nat → Nat → Int32) (np : Nat) (abu : Int32) (k : Int32) (part : Int32) : Int64 := if (f_X9_isAbu np abu) = 0 then (-9223372036854775808) else if (f_X9_within (k.toInt64) 0 6) = 0 then (-9223372036854775808) else if (f_X9_within (part.toInt64) 0 1) = 0 then (-9223372036854775808) else (gx_X9_streak_68 I np abu part k.toNatClampNeg 0 1 1)
def m_X9_streak (I : Nat → Nat → Int32) (np : Nat) (abu : Int32) (k : Int32) (part : Int32) : Nat → Nat → Int32 := if (f_X9_isAbu np abu) = 0 then I else if (f_X9_within (k.toInt64) 0 6) = 0 then I else if (f_X9_within (part.toInt64) 0 1) = 0 then I else (m_X9_oddsOf (m_X9_begins I np) ((abu / 100).toNatClampNeg) (((abu / 10) - (abu / 10) / 10 * 10).toNatClampNeg) ((abu - abu / 10 * 10).toNatClampNeg))
set_option maxHeartbeats 1000000 in
set_option maxRecDepth 100000 in
theorem c_X9_streak (d : Nat) (hd : 57 ≤ d) (b : Bool) (I : Nat → Nat → Int32) (L : Nat → Nat → Int64) (np : Nat) (hn10 : np ≤ 10) (hG : z_G np I) (abu : Int32) (k : Int32) (part : Int32) : z_CT zm_X9_streak d [.ref 54, .int abu, .int k, .int part] SH (I, L, z_R b) 0 0 (z_ret (some (.long (f_X9_streak I np abu k part))) ((m_X9_streak I np abu k part), L, z_R b)) := by
  refine z_enter (by decide +kernel) (Nat.le_of_ble_eq_true rfl) ?_
  have hentry : PW zm_X9_streak d 0 [(0, .ref 54), (1, .int abu), (2, .int k), (3, .int part)] [] SH (I, L, z_R b) 0 0 (z_ret (some (.long (f_X9_streak I np abu k part))) ((m_X9_streak I np abu k part), L, z_R b)) := by
    refine p_aload_n (z_dec zd_X9_streak 0 rfl) rfl 0 rfl (n := 1) rfl ?_
    refine p_iload_n (z_dec zd_X9_streak 1 rfl) rfl 1 rfl (n := 2) rfl ?_
    refine q_callV (As := [.int abu]) (rest := []) (z_dec zd_X9_streak 2 rfl) zk_X9_203 zv_X9_isAbu (c_X9_isAbu (d - 1) (by omega) b I L np hG.1 hn10 abu) rfl ⟨_, _, rfl⟩ rfl rfl (Nat.le_of_ble_eq_true rfl) (by omega) (n := 5) rfl ?_
    show PW zm_X9_streak d 5 [(0, .ref 54), (1, .int abu), (2, .int k), (3, .int part)] [.int (f_X9_isAbu np abu)] SH (I, L, z_R b) 0 0 _
    refine p_if_eq (z_dec zd_X9_streak 3 rfl) (t := 30) (by decide) (n := 8) rfl (fun h5 => ?_) (fun h5 => ?_)
    · refine p_ldc2 (z_dec zd_X9_streak 16 rfl) zq_X9_260 (n := 33) rfl ?_
      exact p_lret (z_dec zd_X9_streak 17 rfl) rfl ⟨(by unfold f_X9_streak; rw [if_pos h5]), rfl, (z_3 (by unfold m_X9_streak; rw [if_pos h5]) rfl)⟩
    · have hu := z_abuR hn10 h5
      refine p_iload_n (z_dec zd_X9_streak 4 rfl) rfl 2 rfl (n := 9) rfl ?_
      refine p_i2l (z_dec zd_X9_streak 5 rfl) (n := 10) rfl ?_
      refine p_lconst (z_dec zd_X9_streak 6 rfl) (v := 0) (by decide) (n := 11) rfl ?_
      refine p_ldc2 (z_dec zd_X9_streak 7 rfl) zq_X9_268 (n := 14) rfl ?_
      refine q_callS (As := [.long (k.toInt64), .long 0, .long 6]) (rest := []) (z_dec zd_X9_streak 8 rfl) zk_X9_96 zs_X9_within (c_X9_within (d - 1) (by omega) b I L (k.toInt64) 0 6) rfl rfl (Nat.le_of_ble_eq_true rfl) (by omega) (n := 17) rfl ?_
      show PW zm_X9_streak d 17 [(0, .ref 54), (1, .int abu), (2, .int k), (3, .int part)] [.int (f_X9_within (k.toInt64) 0 6)] SH (I, L, z_R b) 0 0 _
      refine p_if_eq (z_dec zd_X9_streak 9 rfl) (t := 30) (by decide) (n := 20) rfl (fun h17 => ?_) (fun h17 => ?_)
      · refine p_ldc2 (z_dec zd_X9_streak 16 rfl) zq_X9_260 (n := 33) rfl ?_
        exact p_lret (z_dec zd_X9_streak 17 rfl) rfl ⟨(by unfold f_X9_streak; rw [if_neg h5, if_pos h17]), rfl, (z_3 (by unfold m_X9_streak; rw [if_neg h5, if_pos h17]) rfl)⟩
      · have hk := z_with (N := 6) rfl h17
        refine p_iload_n (z_dec zd_X9_streak 10 rfl) rfl 3 rfl (n := 21) rfl ?_
        refine p_i2l (z_dec zd_X9_streak 11 rfl) (n := 22) rfl ?_
        refine p_lconst (z_dec zd_X9_streak 12 rfl) (v := 0) (by decide) (n := 23) rfl ?_
        refine p_lconst (z_dec zd_X9_streak 13 rfl) (v := 1) (by decide) (n := 24) rfl ?_
        refine q_callS (As := [.long (part.toInt64), .long 0, .long 1]) (rest := []) (z_dec zd_X9_streak 14 rfl) zk_X9_96 zs_X9_within (c_X9_within (d - 1) (by omega) b I L (part.toInt64) 0 1) rfl rfl (Nat.le_of_ble_eq_true rfl) (by omega) (n := 27) rfl ?_
        show PW zm_X9_streak d 27 [(0, .ref 54), (1, .int abu), (2, .int k), (3, .int part)] [.int (f_X9_within (part.toInt64) 0 1)] SH (I, L, z_R b) 0 0 _
        refine p_if_ne (z_dec zd_X9_streak 15 rfl) (t := 34) (by decide) (n := 30) rfl (fun h27 => ?_) (fun h27 => ?_)
        · refine p_aload_n (z_dec zd_X9_streak 18 rfl) rfl 0 rfl (n := 35) rfl ?_
          refine q_callV (As := []) (rest := []) (z_dec zd_X9_streak 19 rfl) zk_X9_206 zv_X9_begins (c_X9_begins (d - 1) (by omega) b I L np hG.1 hn10) rfl ⟨_, _, rfl⟩ rfl rfl (Nat.le_of_ble_eq_true rfl) (by omega) (n := 38) rfl ?_
          show PW zm_X9_streak d 38 [(0, .ref 54), (1, .int abu), (2, .int k), (3, .int part)] [] SH ((m_X9_begins I np), L, z_R b) 0 0 _
          have hP38 : z_G np ((m_X9_begins I np)) := z_Gbg hG
          refine p_aload_n (z_dec zd_X9_streak 20 rfl) rfl 0 rfl (n := 39) rfl ?_
          refine p_iload_n (z_dec zd_X9_streak 21 rfl) rfl 1 rfl (n := 40) rfl ?_
          refine p_bipush (z_dec zd_X9_streak 22 rfl) (v := 100) (by decide) (n := 42) rfl ?_
          refine p_idiv (z_dec zd_X9_streak 23 rfl) (by decide) (n := 43) rfl ?_
          refine p_iload_n (z_dec zd_X9_streak 24 rfl) rfl 1 rfl (n := 44) rfl ?_
          refine p_bipush (z_dec zd_X9_streak 25 rfl) (v := 10) (by decide) (n := 46) rfl ?_
          refine p_idiv (z_dec zd_X9_streak 26 rfl) (by decide) (n := 47) rfl ?_
          refine p_bipush (z_dec zd_X9_streak 27 rfl) (v := 10) (by decide) (n := 49) rfl ?_
          refine p_irem (z_dec zd_X9_streak 28 rfl) (by decide) (n := 50) rfl ?_
          refine p_iload_n (z_dec zd_X9_streak 29 rfl) rfl 1 rfl (n := 51) rfl ?_
          refine p_bipush (z_dec zd_X9_streak 30 rfl) (v := 10) (by decide) (n := 53) rfl ?_
          refine p_irem (z_dec zd_X9_streak 31 rfl) (by decide) (n := 54) rfl ?_
          refine q_callV (As := [.int (nI ((abu / 100).toNatClampNeg)), .int (nI (((abu / 10) - (abu / 10) / 10 * 10).toNatClampNeg)), .int (nI ((abu - abu / 10 * 10).toNatClampNeg))]) (rest := []) (z_dec zd_X9_streak 32 rfl) zk_X9_209 zv_X9_oddsOf (c_X9_oddsOf (d - 1) (by omega) b (m_X9_begins I np) L ((abu / 100).toNatClampNeg) (Nat.lt_of_lt_of_le hu.1.2 hn10) (((abu / 10) - (abu / 10) / 10 * 10).toNatClampNeg) (Nat.lt_of_lt_of_le hu.2.1.2 hn10) ((abu - abu / 10 * 10).toNatClampNeg) (Nat.lt_of_lt_of_le hu.2.2.2 hn10) hP38.2) rfl ⟨_, _, rfl⟩ (by simp only [← hu.1.1, ← hu.2.1.1, ← hu.2.2.1]; rfl) rfl (Nat.le_of_ble_eq_true rfl) (by omega) (n := 57) rfl ?_
          show PW zm_X9_streak d 57 [(0, .ref 54), (1, .int abu), (2, .int k), (3, .int part)] [.int (f_X9_oddsOf (m_X9_begins I np) ((abu / 100).toNatClampNeg) (((abu / 10) - (abu / 10) / 10 * 10).toNatClampNeg) ((abu - abu / 10 * 10).toNatClampNeg))] SH ((m_X9_oddsOf (m_X9_begins I np) ((abu / 100).toNatClampNeg) (((abu / 10) - (abu / 10) / 10 * 10).toNatClampNeg) ((abu - abu / 10 * 10).toNatClampNeg)), L, z_R b) 0 0 _
          have hP57 : z_G np ((m_X9_oddsOf (m_X9_begins I np) ((abu / 100).toNatClampNeg) (((abu / 10) - (abu / 10) / 10 * 10).toNatClampNeg) ((abu - abu / 10 * 10).toNatClampNeg))) := z_Goo hP38 _ _ _
          refine p_istore (z_dec zd_X9_streak 33 rfl) (lv2 := [(4, .int (f_X9_oddsOf (m_X9_begins I np) ((abu / 100).toNatClampNeg) (((abu / 10) - (abu / 10) / 10 * 10).toNatClampNeg) ((abu - abu / 10 * 10).toNatClampNeg))), (0, .ref 54), (1, .int abu), (2, .int k), (3, .int part)]) (by decide) rfl (n := 59) rfl ?_
          refine p_lconst (z_dec zd_X9_streak 34 rfl) (v := 1) (by decide) (n := 60) rfl ?_
          refine p_lstore (z_dec zd_X9_streak 35 rfl) (lv2 := [(5, .long 1), (4, .int (f_X9_oddsOf (m_X9_begins I np) ((abu / 100).toNatClampNeg) (((abu / 10) - (abu / 10) / 10 * 10).toNatClampNeg) ((abu - abu / 10 * 10).toNatClampNeg))), (0, .ref 54), (1, .int abu), (2, .int k), (3, .int part)]) (by decide) rfl (n := 62) rfl ?_
          refine p_lconst (z_dec zd_X9_streak 36 rfl) (v := 1) (by decide) (n := 63) rfl ?_
          refine p_lstore (z_dec zd_X9_streak 37 rfl) (lv2 := [(7, .long 1), (5, .long 1), (4, .int (f_X9_oddsOf (m_X9_begins I np) ((abu / 100).toNatClampNeg) (((abu / 10) - (abu / 10) / 10 * 10).toNatClampNeg) ((abu - abu / 10 * 10).toNatClampNeg))), (0, .ref 54), (1, .int abu), (2, .int k), (3, .int part)]) (by decide) rfl (n := 65) rfl ?_
          refine p_iconst (z_dec zd_X9_streak 38 rfl) (v := 0) (by decide) (n := 66) rfl ?_
          refine p_istore (z_dec zd_X9_streak 39 rfl) (lv2 := [(9, .int 0), (7, .long 1), (5, .long 1), (4, .int (f_X9_oddsOf (m_X9_begins I np) ((abu / 100).toNatClampNeg) (((abu / 10) - (abu / 10) / 10 * 10).toNatClampNeg) ((abu - abu / 10 * 10).toNatClampNeg))), (0, .ref 54), (1, .int abu), (2, .int k), (3, .int part)]) (by decide) rfl (n := 68) rfl ?_
          have hL68 : ∀ (r68 t68 : Nat) (v5 : Int64) (v7 : Int64), t68 + r68 = k.toNatClampNeg → z_nn t68 v5 v7 → PW zm_X9_streak d 68 [(9, .int (nI t68)), (7, .long v7), (5, .long v5), (4, .int (f_X9_oddsOf (m_X9_begins I np) ((abu / 100).toNatClampNeg) (((abu / 10) - (abu / 10) / 10 * 10).toNatClampNeg) ((abu - abu / 10 * 10).toNatClampNeg))), (0, .ref 54), (1, .int abu), (2, .int k), (3, .int part)] [] SH ((m_X9_oddsOf (m_X9_begins I np) ((abu / 100).toNatClampNeg) (((abu / 10) - (abu / 10) / 10 * 10).toNatClampNeg) ((abu - abu / 10 * 10).toNatClampNeg)), L, z_R b) 0 0 (z_ret (some (.long (gx_X9_streak_68 I np abu part r68 t68 v5 v7))) ((m_X9_oddsOf (m_X9_begins I np) ((abu / 100).toNatClampNeg) (((abu / 10) - (abu / 10) / 10 * 10).toNatClampNeg) ((abu - abu / 10 * 10).toNatClampNeg)), L, z_R b)) := by
            intro r68
            induction r68 with
            | zero =>
              intro t68 v5 v7 ht68 hlo
              refine p_iload (z_dec zd_X9_streak 40 rfl) 0 rfl (n := 70) rfl ?_
              refine p_iload_n (z_dec zd_X9_streak 41 rfl) rfl 6 rfl (n := 71) rfl ?_
              refine p_icmp_ge (z_dec zd_X9_streak 42 rfl) (t := 99) (by decide) (n := 74) rfl (fun h71 => ?_) (fun h71 => ?_)
              · refine p_lload (z_dec zd_X9_streak 56 rfl) 2 rfl (n := 101) rfl ?_
                refine p_lload (z_dec zd_X9_streak 57 rfl) 1 rfl (n := 103) rfl ?_
                refine p_iload_n (z_dec zd_X9_streak 58 rfl) rfl 7 rfl (n := 104) rfl ?_
                refine q_callS (As := [.long v5, .long v7, .int part]) (rest := []) (z_dec zd_X9_streak 59 rfl) zk_X9_264 zs_X9_partOf (c_X9_partOf (d - 1) (by omega) b (m_X9_oddsOf (m_X9_begins I np) ((abu / 100).toNatClampNeg) (((abu / 10) - (abu / 10) / 10 * 10).toNatClampNeg) ((abu - abu / 10 * 10).toNatClampNeg)) L v5 v7 part ((z_nnN hlo (by omega)).1) ((z_nnN hlo (by omega)).2.1)) rfl rfl (Nat.le_of_ble_eq_true rfl) (by omega) (n := 107) rfl ?_
                show PW zm_X9_streak d 107 [(9, .int (nI t68)), (7, .long v7), (5, .long v5), (4, .int (f_X9_oddsOf (m_X9_begins I np) ((abu / 100).toNatClampNeg) (((abu / 10) - (abu / 10) / 10 * 10).toNatClampNeg) ((abu - abu / 10 * 10).toNatClampNeg))), (0, .ref 54), (1, .int abu), (2, .int k), (3, .int part)] [.long (f_X9_partOf v5 v7 part)] SH ((m_X9_oddsOf (m_X9_begins I np) ((abu / 100).toNatClampNeg) (((abu / 10) - (abu / 10) / 10 * 10).toNatClampNeg) ((abu - abu / 10 * 10).toNatClampNeg)), L, z_R b) 0 0 _
                exact p_lret (z_dec zd_X9_streak 60 rfl) rfl ⟨rfl, rfl, rfl⟩
              · exact absurd ((by have := z_nge (a := k.toNatClampNeg) (b := t68) (by rw [← hk.1]; exact h71); exact this)) (by omega)
            | succ r68 ih68 =>
              intro t68 v5 v7 ht68 hlo
              refine p_iload (z_dec zd_X9_streak 40 rfl) 0 rfl (n := 70) rfl ?_
              refine p_iload_n (z_dec zd_X9_streak 41 rfl) rfl 6 rfl (n := 71) rfl ?_
              refine p_icmp_ge (z_dec zd_X9_streak 42 rfl) (t := 99) (by decide) (n := 74) rfl (fun h71 => ?_) (fun h71 => ?_)
              · exact absurd ((by have := z_ge (a := k.toNatClampNeg) (b := t68) (by rw [← hk.1]; exact h71); exact this)) (by omega)
              · have hx68 : t68 < k.toNatClampNeg := by omega
                refine p_lload (z_dec zd_X9_streak 43 rfl) 2 rfl (n := 76) rfl ?_
                refine p_bipush (z_dec zd_X9_streak 44 rfl) (v := 12) (by decide) (n := 78) rfl ?_
                refine p_iload (z_dec zd_X9_streak 45 rfl) 3 rfl (n := 80) rfl ?_
                refine p_isub (z_dec zd_X9_streak 46 rfl) (n := 81) rfl ?_
                refine p_i2l (z_dec zd_X9_streak 47 rfl) (n := 82) rfl ?_
                refine p_lmul (z_dec zd_X9_streak 48 rfl) (n := 83) rfl ?_
                refine p_lstore (z_dec zd_X9_streak 49 rfl) (lv2 := [(5, .long (v5 * ((12 - (f_X9_oddsOf (m_X9_begins I np) ((abu / 100).toNatClampNeg) (((abu / 10) - (abu / 10) / 10 * 10).toNatClampNeg) ((abu - abu / 10 * 10).toNatClampNeg))).toInt64))), (9, .int (nI t68)), (7, .long v7), (4, .int (f_X9_oddsOf (m_X9_begins I np) ((abu / 100).toNatClampNeg) (((abu / 10) - (abu / 10) / 10 * 10).toNatClampNeg) ((abu - abu / 10 * 10).toNatClampNeg))), (0, .ref 54), (1, .int abu), (2, .int k), (3, .int part)]) (by decide) rfl (n := 85) rfl ?_
                refine p_lload (z_dec zd_X9_streak 50 rfl) 2 rfl (n := 87) rfl ?_
                refine p_ldc2 (z_dec zd_X9_streak 51 rfl) zq_X9_270 (n := 90) rfl ?_
                refine p_lmul (z_dec zd_X9_streak 52 rfl) (n := 91) rfl ?_
                refine p_lstore (z_dec zd_X9_streak 53 rfl) (lv2 := [(7, .long (v7 * 12)), (5, .long (v5 * ((12 - (f_X9_oddsOf (m_X9_begins I np) ((abu / 100).toNatClampNeg) (((abu / 10) - (abu / 10) / 10 * 10).toNatClampNeg) ((abu - abu / 10 * 10).toNatClampNeg))).toInt64))), (9, .int (nI t68)), (4, .int (f_X9_oddsOf (m_X9_begins I np) ((abu / 100).toNatClampNeg) (((abu / 10) - (abu / 10) / 10 * 10).toNatClampNeg) ((abu - abu / 10 * 10).toNatClampNeg))), (0, .ref 54), (1, .int abu), (2, .int k), (3, .int part)]) (by decide) rfl (n := 93) rfl ?_
                refine p_iinc (z_dec zd_X9_streak 54 rfl) 2 rfl (v := (nI (t68 + 1))) (nI_1 _) (lv2 := [(9, .int (nI (t68 + 1))), (7, .long (v7 * 12)), (5, .long (v5 * ((12 - (f_X9_oddsOf (m_X9_begins I np) ((abu / 100).toNatClampNeg) (((abu / 10) - (abu / 10) / 10 * 10).toNatClampNeg) ((abu - abu / 10 * 10).toNatClampNeg))).toInt64))), (4, .int (f_X9_oddsOf (m_X9_begins I np) ((abu / 100).toNatClampNeg) (((abu / 10) - (abu / 10) / 10 * 10).toNatClampNeg) ((abu - abu / 10 * 10).toNatClampNeg))), (0, .ref 54), (1, .int abu), (2, .int k), (3, .int part)]) (by decide) rfl (n := 96) rfl ?_
                refine p_goto (z_dec zd_X9_streak 55 rfl) (t := 68) (by decide) ?_
                rw [show gx_X9_streak_68 I np abu part (r68 + 1) t68 v5 v7 = gx_X9_streak_68 I np abu part r68 (t68 + 1) (v5 * ((12 - (f_X9_oddsOf (m_X9_begins I np) ((abu / 100).toNatClampNeg) (((abu / 10) - (abu / 10) / 10 * 10).toNatClampNeg) ((abu - abu / 10 * 10).toNatClampNeg))).toInt64)) (v7 * 12) from by rfl]
                exact ih68 (t68 + 1) (v5 * ((12 - (f_X9_oddsOf (m_X9_begins I np) ((abu / 100).toNatClampNeg) (((abu / 10) - (abu / 10) / 10 * 10).toNatClampNeg) ((abu - abu / 10 * 10).toNatClampNeg))).toInt64)) (v7 * 12) (by omega) (z_nnS hlo (z_12b _ _ _ _) ⟨12, Nat.le_refl _, rfl⟩)
          exact (by have q := (hL68 k.toNatClampNeg 0 1 1 (by omega) z_nn0); (rw [show f_X9_streak I np abu k part = _ from by unfold f_X9_streak; rw [if_neg h5, if_neg h17, if_neg h27]]); (rw [show m_X9_streak I np abu k part = _ from by unfold m_X9_streak; rw [if_neg h5, if_neg h17, if_neg h27]]); exact q)
        · refine p_ldc2 (z_dec zd_X9_streak 16 rfl) zq_X9_260 (n := 33) rfl ?_
          exact p_lret (z_dec zd_X9_streak 17 rfl) rfl ⟨(by unfold f_X9_streak; rw [if_neg h5, if_neg h17, if_pos h27]), rfl, (z_3 (by unfold m_X9_streak; rw [if_neg h5, if_neg h17, if_pos h27]) rfl)⟩
  exact hentry
