def gx_X9_thrownBy_65 (I : Nat → Nat → Int32) (L : Nat → Nat → Int64) (np : Nat) (sh : Int32) (abu : Int32) (part : Int32) : Nat → Nat → (Int64) → (Int64) → Int64
  | 0, t65, v5, v7 => (f_X9_partOf v5 (v5 + v7) part)
  | r65 + 1, t65, v5, v7 => if ((m_X9_oddsOf (m_X9_begins I np) ((abu / 100).toNatClampNeg) (((abu / 10) - (abu / 10) / 10 * 10).toNatClampNeg) ((abu - abu / 10 * 10).toNatClampNeg)) 76 sh.toNatClampNeg) ≤ (nI t65) then (f_X9_partOf v5 (v5 + v7) part) else if (f_X9_within (L 77 ((60 * sh.toNatClampNeg) + t65)) 0 1) = 0 then (f_X9_partOf v5 (v5 + v7) part) else if (lg_cmp (L 77 ((60 * sh.toNatClampNeg) + t65)) 1) = 0 then gx_X9_thrownBy_65 I L np sh abu part r65 (t65 + 1) (v5 * 1) (v7 * ((f_X9_oddsOf (m_X9_begins I np) ((abu / 100).toNatClampNeg) (((abu / 10) - (abu / 10) / 10 * 10).toNatClampNeg) ((abu - abu / 10 * 10).toNatClampNeg)).toInt64)) else gx_X9_thrownBy_65 I L np sh abu part r65 (t65 + 1) (v5 * 11) (v7 * ((12 - (f_X9_oddsOf (m_X9_begins I np) ((abu / 100).toNatClampNeg) (((abu / 10) - (abu / 10) / 10 * 10).toNatClampNeg) ((abu - abu / 10 * 10).toNatClampNeg))).toInt64))
def f_X9_thrownBy (I : Nat → Nat → Int32) (L : Nat → Nat → Int64) (np : Nat) (sh : Int32) (abu : Int32) (part : Int32) : Int64 := if (f_X9_rowIs I sh 0) < 0 then (-9223372036854775808) else if (f_X9_isAbu np abu) = 0 then (-9223372036854775808) else if (f_X9_within (part.toInt64) 0 1) = 0 then (-9223372036854775808) else (gx_X9_thrownBy_65 I L np sh abu part 8 0 1 1)
def m_X9_thrownBy (I : Nat → Nat → Int32) (L : Nat → Nat → Int64) (np : Nat) (sh : Int32) (abu : Int32) (part : Int32) : Nat → Nat → Int32 := if (f_X9_rowIs I sh 0) < 0 then I else if (f_X9_isAbu np abu) = 0 then I else if (f_X9_within (part.toInt64) 0 1) = 0 then I else (m_X9_oddsOf (m_X9_begins I np) ((abu / 100).toNatClampNeg) (((abu / 10) - (abu / 10) / 10 * 10).toNatClampNeg) ((abu - abu / 10 * 10).toNatClampNeg))
set_option maxHeartbeats 1000000 in
set_option maxRecDepth 100000 in
theorem c_X9_thrownBy (d : Nat) (hd : 57 ≤ d) (b : Bool) (I : Nat → Nat → Int32) (L : Nat → Nat → Int64) (np : Nat) (hn10 : np ≤ 10) (hG : z_G np I) (sh : Int32) (abu : Int32) (part : Int32) : z_CT zm_X9_thrownBy d [.ref 54, .int sh, .int abu, .int part] SH (I, L, z_R b) 0 0 (z_ret (some (.long (f_X9_thrownBy I L np sh abu part))) ((m_X9_thrownBy I L np sh abu part), L, z_R b)) := by
  refine z_enter (by decide +kernel) (Nat.le_of_ble_eq_true rfl) ?_
  have hentry : PW zm_X9_thrownBy d 0 [(0, .ref 54), (1, .int sh), (2, .int abu), (3, .int part)] [] SH (I, L, z_R b) 0 0 (z_ret (some (.long (f_X9_thrownBy I L np sh abu part))) ((m_X9_thrownBy I L np sh abu part), L, z_R b)) := by
    refine p_aload_n (z_dec zd_X9_thrownBy 0 rfl) rfl 0 rfl (n := 1) rfl ?_
    refine p_iload_n (z_dec zd_X9_thrownBy 1 rfl) rfl 1 rfl (n := 2) rfl ?_
    refine p_iconst (z_dec zd_X9_thrownBy 2 rfl) (v := 0) (by decide) (n := 3) rfl ?_
    refine q_callV (As := [.int sh, .int 0]) (rest := []) (z_dec zd_X9_thrownBy 3 rfl) zk_X9_233 zv_X9_rowIs (c_X9_rowIs (d - 1) (by omega) b I L sh 0) rfl ⟨_, _, rfl⟩ rfl rfl (Nat.le_of_ble_eq_true rfl) (by omega) (n := 6) rfl ?_
    show PW zm_X9_thrownBy d 6 [(0, .ref 54), (1, .int sh), (2, .int abu), (3, .int part)] [.int (f_X9_rowIs I sh 0)] SH (I, L, z_R b) 0 0 _
    refine p_if_lt (z_dec zd_X9_thrownBy 4 rfl) (t := 27) (by decide) (n := 9) rfl (fun h6 => ?_) (fun h6 => ?_)
    · refine p_ldc2 (z_dec zd_X9_thrownBy 15 rfl) zq_X9_260 (n := 30) rfl ?_
      exact p_lret (z_dec zd_X9_thrownBy 16 rfl) rfl ⟨(by unfold f_X9_thrownBy; rw [if_pos h6]), rfl, (z_3 (by unfold m_X9_thrownBy; rw [if_pos h6]) rfl)⟩
    · have hs := z_rwI2 h6
      refine p_aload_n (z_dec zd_X9_thrownBy 5 rfl) rfl 0 rfl (n := 10) rfl ?_
      refine p_iload_n (z_dec zd_X9_thrownBy 6 rfl) rfl 2 rfl (n := 11) rfl ?_
      refine q_callV (As := [.int abu]) (rest := []) (z_dec zd_X9_thrownBy 7 rfl) zk_X9_203 zv_X9_isAbu (c_X9_isAbu (d - 1) (by omega) b I L np hG.1 hn10 abu) rfl ⟨_, _, rfl⟩ rfl rfl (Nat.le_of_ble_eq_true rfl) (by omega) (n := 14) rfl ?_
      show PW zm_X9_thrownBy d 14 [(0, .ref 54), (1, .int sh), (2, .int abu), (3, .int part)] [.int (f_X9_isAbu np abu)] SH (I, L, z_R b) 0 0 _
      refine p_if_eq (z_dec zd_X9_thrownBy 8 rfl) (t := 27) (by decide) (n := 17) rfl (fun h14 => ?_) (fun h14 => ?_)
      · refine p_ldc2 (z_dec zd_X9_thrownBy 15 rfl) zq_X9_260 (n := 30) rfl ?_
        exact p_lret (z_dec zd_X9_thrownBy 16 rfl) rfl ⟨(by unfold f_X9_thrownBy; rw [if_neg h6, if_pos h14]), rfl, (z_3 (by unfold m_X9_thrownBy; rw [if_neg h6, if_pos h14]) rfl)⟩
      · have hu := z_abuR hn10 h14
        refine p_iload_n (z_dec zd_X9_thrownBy 9 rfl) rfl 3 rfl (n := 18) rfl ?_
        refine p_i2l (z_dec zd_X9_thrownBy 10 rfl) (n := 19) rfl ?_
        refine p_lconst (z_dec zd_X9_thrownBy 11 rfl) (v := 0) (by decide) (n := 20) rfl ?_
        refine p_lconst (z_dec zd_X9_thrownBy 12 rfl) (v := 1) (by decide) (n := 21) rfl ?_
        refine q_callS (As := [.long (part.toInt64), .long 0, .long 1]) (rest := []) (z_dec zd_X9_thrownBy 13 rfl) zk_X9_96 zs_X9_within (c_X9_within (d - 1) (by omega) b I L (part.toInt64) 0 1) rfl rfl (Nat.le_of_ble_eq_true rfl) (by omega) (n := 24) rfl ?_
        show PW zm_X9_thrownBy d 24 [(0, .ref 54), (1, .int sh), (2, .int abu), (3, .int part)] [.int (f_X9_within (part.toInt64) 0 1)] SH (I, L, z_R b) 0 0 _
        refine p_if_ne (z_dec zd_X9_thrownBy 14 rfl) (t := 31) (by decide) (n := 27) rfl (fun h24 => ?_) (fun h24 => ?_)
        · refine p_aload_n (z_dec zd_X9_thrownBy 17 rfl) rfl 0 rfl (n := 32) rfl ?_
          refine q_callV (As := []) (rest := []) (z_dec zd_X9_thrownBy 18 rfl) zk_X9_206 zv_X9_begins (c_X9_begins (d - 1) (by omega) b I L np hG.1 hn10) rfl ⟨_, _, rfl⟩ rfl rfl (Nat.le_of_ble_eq_true rfl) (by omega) (n := 35) rfl ?_
          show PW zm_X9_thrownBy d 35 [(0, .ref 54), (1, .int sh), (2, .int abu), (3, .int part)] [] SH ((m_X9_begins I np), L, z_R b) 0 0 _
          have hP35 : z_G np ((m_X9_begins I np)) := z_Gbg hG
          refine p_aload_n (z_dec zd_X9_thrownBy 19 rfl) rfl 0 rfl (n := 36) rfl ?_
          refine p_iload_n (z_dec zd_X9_thrownBy 20 rfl) rfl 2 rfl (n := 37) rfl ?_
          refine p_bipush (z_dec zd_X9_thrownBy 21 rfl) (v := 100) (by decide) (n := 39) rfl ?_
          refine p_idiv (z_dec zd_X9_thrownBy 22 rfl) (by decide) (n := 40) rfl ?_
          refine p_iload_n (z_dec zd_X9_thrownBy 23 rfl) rfl 2 rfl (n := 41) rfl ?_
          refine p_bipush (z_dec zd_X9_thrownBy 24 rfl) (v := 10) (by decide) (n := 43) rfl ?_
          refine p_idiv (z_dec zd_X9_thrownBy 25 rfl) (by decide) (n := 44) rfl ?_
          refine p_bipush (z_dec zd_X9_thrownBy 26 rfl) (v := 10) (by decide) (n := 46) rfl ?_
          refine p_irem (z_dec zd_X9_thrownBy 27 rfl) (by decide) (n := 47) rfl ?_
          refine p_iload_n (z_dec zd_X9_thrownBy 28 rfl) rfl 2 rfl (n := 48) rfl ?_
          refine p_bipush (z_dec zd_X9_thrownBy 29 rfl) (v := 10) (by decide) (n := 50) rfl ?_
          refine p_irem (z_dec zd_X9_thrownBy 30 rfl) (by decide) (n := 51) rfl ?_
          refine q_callV (As := [.int (nI ((abu / 100).toNatClampNeg)), .int (nI (((abu / 10) - (abu / 10) / 10 * 10).toNatClampNeg)), .int (nI ((abu - abu / 10 * 10).toNatClampNeg))]) (rest := []) (z_dec zd_X9_thrownBy 31 rfl) zk_X9_209 zv_X9_oddsOf (c_X9_oddsOf (d - 1) (by omega) b (m_X9_begins I np) L ((abu / 100).toNatClampNeg) (Nat.lt_of_lt_of_le hu.1.2 hn10) (((abu / 10) - (abu / 10) / 10 * 10).toNatClampNeg) (Nat.lt_of_lt_of_le hu.2.1.2 hn10) ((abu - abu / 10 * 10).toNatClampNeg) (Nat.lt_of_lt_of_le hu.2.2.2 hn10) hP35.2) rfl ⟨_, _, rfl⟩ (by simp only [← hu.1.1, ← hu.2.1.1, ← hu.2.2.1]; rfl) rfl (Nat.le_of_ble_eq_true rfl) (by omega) (n := 54) rfl ?_
          show PW zm_X9_thrownBy d 54 [(0, .ref 54), (1, .int sh), (2, .int abu), (3, .int part)] [.int (f_X9_oddsOf (m_X9_begins I np) ((abu / 100).toNatClampNeg) (((abu / 10) - (abu / 10) / 10 * 10).toNatClampNeg) ((abu - abu / 10 * 10).toNatClampNeg))] SH ((m_X9_oddsOf (m_X9_begins I np) ((abu / 100).toNatClampNeg) (((abu / 10) - (abu / 10) / 10 * 10).toNatClampNeg) ((abu - abu / 10 * 10).toNatClampNeg)), L, z_R b) 0 0 _
          have hP54 : z_G np ((m_X9_oddsOf (m_X9_begins I np) ((abu / 100).toNatClampNeg) (((abu / 10) - (abu / 10) / 10 * 10).toNatClampNeg) ((abu - abu / 10 * 10).toNatClampNeg))) := z_Goo hP35 _ _ _
          refine p_istore (z_dec zd_X9_thrownBy 32 rfl) (lv2 := [(4, .int (f_X9_oddsOf (m_X9_begins I np) ((abu / 100).toNatClampNeg) (((abu / 10) - (abu / 10) / 10 * 10).toNatClampNeg) ((abu - abu / 10 * 10).toNatClampNeg))), (0, .ref 54), (1, .int sh), (2, .int abu), (3, .int part)]) (by decide) rfl (n := 56) rfl ?_
          refine p_lconst (z_dec zd_X9_thrownBy 33 rfl) (v := 1) (by decide) (n := 57) rfl ?_
          refine p_lstore (z_dec zd_X9_thrownBy 34 rfl) (lv2 := [(5, .long 1), (4, .int (f_X9_oddsOf (m_X9_begins I np) ((abu / 100).toNatClampNeg) (((abu / 10) - (abu / 10) / 10 * 10).toNatClampNeg) ((abu - abu / 10 * 10).toNatClampNeg))), (0, .ref 54), (1, .int sh), (2, .int abu), (3, .int part)]) (by decide) rfl (n := 59) rfl ?_
          refine p_lconst (z_dec zd_X9_thrownBy 35 rfl) (v := 1) (by decide) (n := 60) rfl ?_
          refine p_lstore (z_dec zd_X9_thrownBy 36 rfl) (lv2 := [(7, .long 1), (5, .long 1), (4, .int (f_X9_oddsOf (m_X9_begins I np) ((abu / 100).toNatClampNeg) (((abu / 10) - (abu / 10) / 10 * 10).toNatClampNeg) ((abu - abu / 10 * 10).toNatClampNeg))), (0, .ref 54), (1, .int sh), (2, .int abu), (3, .int part)]) (by decide) rfl (n := 62) rfl ?_
          refine p_iconst (z_dec zd_X9_thrownBy 37 rfl) (v := 0) (by decide) (n := 63) rfl ?_
          refine p_istore (z_dec zd_X9_thrownBy 38 rfl) (lv2 := [(9, .int 0), (7, .long 1), (5, .long 1), (4, .int (f_X9_oddsOf (m_X9_begins I np) ((abu / 100).toNatClampNeg) (((abu / 10) - (abu / 10) / 10 * 10).toNatClampNeg) ((abu - abu / 10 * 10).toNatClampNeg))), (0, .ref 54), (1, .int sh), (2, .int abu), (3, .int part)]) (by decide) rfl (n := 65) rfl ?_
          have hL65 : ∀ (r65 t65 : Nat) (v5 : Int64) (v7 : Int64), t65 + r65 = 8 → z_nn t65 v5 v7 → PW zm_X9_thrownBy d 65 [(9, .int (nI t65)), (7, .long v7), (5, .long v5), (4, .int (f_X9_oddsOf (m_X9_begins I np) ((abu / 100).toNatClampNeg) (((abu / 10) - (abu / 10) / 10 * 10).toNatClampNeg) ((abu - abu / 10 * 10).toNatClampNeg))), (0, .ref 54), (1, .int sh), (2, .int abu), (3, .int part)] [] SH ((m_X9_oddsOf (m_X9_begins I np) ((abu / 100).toNatClampNeg) (((abu / 10) - (abu / 10) / 10 * 10).toNatClampNeg) ((abu - abu / 10 * 10).toNatClampNeg)), L, z_R b) 0 0 (z_ret (some (.long (gx_X9_thrownBy_65 I L np sh abu part r65 t65 v5 v7))) ((m_X9_oddsOf (m_X9_begins I np) ((abu / 100).toNatClampNeg) (((abu / 10) - (abu / 10) / 10 * 10).toNatClampNeg) ((abu - abu / 10 * 10).toNatClampNeg)), L, z_R b)) := by
            intro r65
            induction r65 with
            | zero =>
              intro t65 v5 v7 ht65 hlo
              refine p_iload (z_dec zd_X9_thrownBy 39 rfl) 0 rfl (n := 67) rfl ?_
              refine p_bipush (z_dec zd_X9_thrownBy 40 rfl) (v := 8) (by decide) (n := 69) rfl ?_
              refine p_icmp_ge (z_dec zd_X9_thrownBy 41 rfl) (t := 172) (by decide) (n := 72) rfl (fun h69 => ?_) (fun h69 => ?_)
              · refine p_lload (z_dec zd_X9_thrownBy 97 rfl) 2 rfl (n := 174) rfl ?_
                refine p_lload (z_dec zd_X9_thrownBy 98 rfl) 2 rfl (n := 176) rfl ?_
                refine p_lload (z_dec zd_X9_thrownBy 99 rfl) 1 rfl (n := 178) rfl ?_
                refine p_ladd (z_dec zd_X9_thrownBy 100 rfl) (n := 179) rfl ?_
                refine p_iload_n (z_dec zd_X9_thrownBy 101 rfl) rfl 7 rfl (n := 180) rfl ?_
                refine q_callS (As := [.long v5, .long (v5 + v7), .int part]) (rest := []) (z_dec zd_X9_thrownBy 102 rfl) zk_X9_264 zs_X9_partOf (c_X9_partOf (d - 1) (by omega) b (m_X9_oddsOf (m_X9_begins I np) ((abu / 100).toNatClampNeg) (((abu / 10) - (abu / 10) / 10 * 10).toNatClampNeg) ((abu - abu / 10 * 10).toNatClampNeg)) L v5 (v5 + v7) part ((z_nnN hlo (by omega)).1) ((z_nnN hlo (by omega)).2.2)) rfl rfl (Nat.le_of_ble_eq_true rfl) (by omega) (n := 183) rfl ?_
                show PW zm_X9_thrownBy d 183 [(9, .int (nI t65)), (7, .long v7), (5, .long v5), (4, .int (f_X9_oddsOf (m_X9_begins I np) ((abu / 100).toNatClampNeg) (((abu / 10) - (abu / 10) / 10 * 10).toNatClampNeg) ((abu - abu / 10 * 10).toNatClampNeg))), (0, .ref 54), (1, .int sh), (2, .int abu), (3, .int part)] [.long (f_X9_partOf v5 (v5 + v7) part)] SH ((m_X9_oddsOf (m_X9_begins I np) ((abu / 100).toNatClampNeg) (((abu / 10) - (abu / 10) / 10 * 10).toNatClampNeg) ((abu - abu / 10 * 10).toNatClampNeg)), L, z_R b) 0 0 _
                exact p_lret (z_dec zd_X9_thrownBy 103 rfl) rfl ⟨rfl, rfl, rfl⟩
              · exact absurd (z_nge (a := 8) h69) (by omega)
            | succ r65 ih65 =>
              intro t65 v5 v7 ht65 hlo
              refine p_iload (z_dec zd_X9_thrownBy 39 rfl) 0 rfl (n := 67) rfl ?_
              refine p_bipush (z_dec zd_X9_thrownBy 40 rfl) (v := 8) (by decide) (n := 69) rfl ?_
              refine p_icmp_ge (z_dec zd_X9_thrownBy 41 rfl) (t := 172) (by decide) (n := 72) rfl (fun h69 => ?_) (fun h69 => ?_)
              · exact absurd (z_ge (a := 8) h69) (by omega)
              · have hx65 : t65 < 8 := by omega
                refine p_iload (z_dec zd_X9_thrownBy 42 rfl) 0 rfl (n := 74) rfl ?_
                refine p_aload_n (z_dec zd_X9_thrownBy 43 rfl) rfl 4 rfl (n := 75) rfl ?_
                refine q_getR (z_dec zd_X9_thrownBy 44 rfl) zf_X9_73 (i := 76) rfl rfl (n := 78) rfl ?_
                refine p_iload_n (z_dec zd_X9_thrownBy 45 rfl) rfl 5 rfl (n := 79) rfl ?_
                refine q_iald (z_dec zd_X9_thrownBy 46 rfl) rfl (by decide) (sh.toNatClampNeg) hs.1 hs.2 (v := ((m_X9_oddsOf (m_X9_begins I np) ((abu / 100).toNatClampNeg) (((abu / 10) - (abu / 10) / 10 * 10).toNatClampNeg) ((abu - abu / 10 * 10).toNatClampNeg)) 76 sh.toNatClampNeg)) rfl (n := 80) rfl ?_
                refine p_icmp_ge (z_dec zd_X9_thrownBy 47 rfl) (t := 172) (by decide) (n := 83) rfl (fun h80 => ?_) (fun h80 => ?_)
                · refine p_lload (z_dec zd_X9_thrownBy 97 rfl) 2 rfl (n := 174) rfl ?_
                  refine p_lload (z_dec zd_X9_thrownBy 98 rfl) 2 rfl (n := 176) rfl ?_
                  refine p_lload (z_dec zd_X9_thrownBy 99 rfl) 1 rfl (n := 178) rfl ?_
                  refine p_ladd (z_dec zd_X9_thrownBy 100 rfl) (n := 179) rfl ?_
                  refine p_iload_n (z_dec zd_X9_thrownBy 101 rfl) rfl 7 rfl (n := 180) rfl ?_
                  refine q_callS (As := [.long v5, .long (v5 + v7), .int part]) (rest := []) (z_dec zd_X9_thrownBy 102 rfl) zk_X9_264 zs_X9_partOf (c_X9_partOf (d - 1) (by omega) b (m_X9_oddsOf (m_X9_begins I np) ((abu / 100).toNatClampNeg) (((abu / 10) - (abu / 10) / 10 * 10).toNatClampNeg) ((abu - abu / 10 * 10).toNatClampNeg)) L v5 (v5 + v7) part ((z_nnN hlo (by omega)).1) ((z_nnN hlo (by omega)).2.2)) rfl rfl (Nat.le_of_ble_eq_true rfl) (by omega) (n := 183) rfl ?_
                  show PW zm_X9_thrownBy d 183 [(9, .int (nI t65)), (7, .long v7), (5, .long v5), (4, .int (f_X9_oddsOf (m_X9_begins I np) ((abu / 100).toNatClampNeg) (((abu / 10) - (abu / 10) / 10 * 10).toNatClampNeg) ((abu - abu / 10 * 10).toNatClampNeg))), (0, .ref 54), (1, .int sh), (2, .int abu), (3, .int part)] [.long (f_X9_partOf v5 (v5 + v7) part)] SH ((m_X9_oddsOf (m_X9_begins I np) ((abu / 100).toNatClampNeg) (((abu / 10) - (abu / 10) / 10 * 10).toNatClampNeg) ((abu - abu / 10 * 10).toNatClampNeg)), L, z_R b) 0 0 _
                  exact p_lret (z_dec zd_X9_thrownBy 103 rfl) rfl ⟨(by (conv => rhs; unfold gx_X9_thrownBy_65); rw [if_pos h80]), rfl, rfl⟩
                · refine p_aload_n (z_dec zd_X9_thrownBy 48 rfl) rfl 4 rfl (n := 84) rfl ?_
                  refine q_getR (z_dec zd_X9_thrownBy 49 rfl) zf_X9_76 (i := 77) rfl rfl (n := 87) rfl ?_
                  refine p_bipush (z_dec zd_X9_thrownBy 50 rfl) (v := 60) (by decide) (n := 89) rfl ?_
                  refine p_iload_n (z_dec zd_X9_thrownBy 51 rfl) rfl 5 rfl (n := 90) rfl ?_
                  refine p_imul (z_dec zd_X9_thrownBy 52 rfl) (n := 91) rfl ?_
                  refine p_iload (z_dec zd_X9_thrownBy 53 rfl) 0 rfl (n := 93) rfl ?_
                  refine p_iadd (z_dec zd_X9_thrownBy 54 rfl) (n := 94) rfl ?_
                  refine q_lald (z_dec zd_X9_thrownBy 55 rfl) rfl (by decide) ((60 * sh.toNatClampNeg) + t65) (z_addE (z_mulE rfl hs.1) rfl) (by omega) (v := (L 77 ((60 * sh.toNatClampNeg) + t65))) rfl (n := 95) rfl ?_
                  refine p_lconst (z_dec zd_X9_thrownBy 56 rfl) (v := 0) (by decide) (n := 96) rfl ?_
                  refine p_lconst (z_dec zd_X9_thrownBy 57 rfl) (v := 1) (by decide) (n := 97) rfl ?_
                  refine q_callS (As := [.long (L 77 ((60 * sh.toNatClampNeg) + t65)), .long 0, .long 1]) (rest := []) (z_dec zd_X9_thrownBy 58 rfl) zk_X9_96 zs_X9_within (c_X9_within (d - 1) (by omega) b (m_X9_oddsOf (m_X9_begins I np) ((abu / 100).toNatClampNeg) (((abu / 10) - (abu / 10) / 10 * 10).toNatClampNeg) ((abu - abu / 10 * 10).toNatClampNeg)) L (L 77 ((60 * sh.toNatClampNeg) + t65)) 0 1) rfl rfl (Nat.le_of_ble_eq_true rfl) (by omega) (n := 100) rfl ?_
                  show PW zm_X9_thrownBy d 100 [(9, .int (nI t65)), (7, .long v7), (5, .long v5), (4, .int (f_X9_oddsOf (m_X9_begins I np) ((abu / 100).toNatClampNeg) (((abu / 10) - (abu / 10) / 10 * 10).toNatClampNeg) ((abu - abu / 10 * 10).toNatClampNeg))), (0, .ref 54), (1, .int sh), (2, .int abu), (3, .int part)] [.int (f_X9_within (L 77 ((60 * sh.toNatClampNeg) + t65)) 0 1)] SH ((m_X9_oddsOf (m_X9_begins I np) ((abu / 100).toNatClampNeg) (((abu / 10) - (abu / 10) / 10 * 10).toNatClampNeg) ((abu - abu / 10 * 10).toNatClampNeg)), L, z_R b) 0 0 _
                  refine p_if_eq (z_dec zd_X9_thrownBy 59 rfl) (t := 172) (by decide) (n := 103) rfl (fun h100 => ?_) (fun h100 => ?_)
                  · refine p_lload (z_dec zd_X9_thrownBy 97 rfl) 2 rfl (n := 174) rfl ?_
                    refine p_lload (z_dec zd_X9_thrownBy 98 rfl) 2 rfl (n := 176) rfl ?_
                    refine p_lload (z_dec zd_X9_thrownBy 99 rfl) 1 rfl (n := 178) rfl ?_
                    refine p_ladd (z_dec zd_X9_thrownBy 100 rfl) (n := 179) rfl ?_
                    refine p_iload_n (z_dec zd_X9_thrownBy 101 rfl) rfl 7 rfl (n := 180) rfl ?_
                    refine q_callS (As := [.long v5, .long (v5 + v7), .int part]) (rest := []) (z_dec zd_X9_thrownBy 102 rfl) zk_X9_264 zs_X9_partOf (c_X9_partOf (d - 1) (by omega) b (m_X9_oddsOf (m_X9_begins I np) ((abu / 100).toNatClampNeg) (((abu / 10) - (abu / 10) / 10 * 10).toNatClampNeg) ((abu - abu / 10 * 10).toNatClampNeg)) L v5 (v5 + v7) part ((z_nnN hlo (by omega)).1) ((z_nnN hlo (by omega)).2.2)) rfl rfl (Nat.le_of_ble_eq_true rfl) (by omega) (n := 183) rfl ?_
                    show PW zm_X9_thrownBy d 183 [(9, .int (nI t65)), (7, .long v7), (5, .long v5), (4, .int (f_X9_oddsOf (m_X9_begins I np) ((abu / 100).toNatClampNeg) (((abu / 10) - (abu / 10) / 10 * 10).toNatClampNeg) ((abu - abu / 10 * 10).toNatClampNeg))), (0, .ref 54), (1, .int sh), (2, .int abu), (3, .int part)] [.long (f_X9_partOf v5 (v5 + v7) part)] SH ((m_X9_oddsOf (m_X9_begins I np) ((abu / 100).toNatClampNeg) (((abu / 10) - (abu / 10) / 10 * 10).toNatClampNeg) ((abu - abu / 10 * 10).toNatClampNeg)), L, z_R b) 0 0 _
                    exact p_lret (z_dec zd_X9_thrownBy 103 rfl) rfl ⟨(by (conv => rhs; unfold gx_X9_thrownBy_65); rw [if_neg h80, if_pos h100]), rfl, rfl⟩
                  · refine p_aload_n (z_dec zd_X9_thrownBy 60 rfl) rfl 4 rfl (n := 104) rfl ?_
                    refine q_getR (z_dec zd_X9_thrownBy 61 rfl) zf_X9_76 (i := 77) rfl rfl (n := 107) rfl ?_
                    refine p_bipush (z_dec zd_X9_thrownBy 62 rfl) (v := 60) (by decide) (n := 109) rfl ?_
                    refine p_iload_n (z_dec zd_X9_thrownBy 63 rfl) rfl 5 rfl (n := 110) rfl ?_
                    refine p_imul (z_dec zd_X9_thrownBy 64 rfl) (n := 111) rfl ?_
                    refine p_iload (z_dec zd_X9_thrownBy 65 rfl) 0 rfl (n := 113) rfl ?_
                    refine p_iadd (z_dec zd_X9_thrownBy 66 rfl) (n := 114) rfl ?_
                    refine q_lald (z_dec zd_X9_thrownBy 67 rfl) rfl (by decide) ((60 * sh.toNatClampNeg) + t65) (z_addE (z_mulE rfl hs.1) rfl) (by omega) (v := (L 77 ((60 * sh.toNatClampNeg) + t65))) rfl (n := 115) rfl ?_
                    refine p_lconst (z_dec zd_X9_thrownBy 68 rfl) (v := 1) (by decide) (n := 116) rfl ?_
                    refine p_lcmp (z_dec zd_X9_thrownBy 69 rfl) (n := 117) rfl ?_
                    refine p_if_ne (z_dec zd_X9_thrownBy 70 rfl) (t := 124) (by decide) (n := 120) rfl (fun h117 => ?_) (fun h117 => ?_)
                    · refine p_iconst (z_dec zd_X9_thrownBy 73 rfl) (v := 0) (by decide) (n := 125) rfl ?_
                      refine p_istore (z_dec zd_X9_thrownBy 74 rfl) (lv2 := [(10, .int 0), (9, .int (nI t65)), (7, .long v7), (5, .long v5), (4, .int (f_X9_oddsOf (m_X9_begins I np) ((abu / 100).toNatClampNeg) (((abu / 10) - (abu / 10) / 10 * 10).toNatClampNeg) ((abu - abu / 10 * 10).toNatClampNeg))), (0, .ref 54), (1, .int sh), (2, .int abu), (3, .int part)]) (by decide) rfl (n := 127) rfl ?_
                      refine p_lload (z_dec zd_X9_thrownBy 75 rfl) 3 rfl (n := 129) rfl ?_
                      refine p_iload (z_dec zd_X9_thrownBy 76 rfl) 0 rfl (n := 131) rfl ?_
                      refine p_if_eq (z_dec zd_X9_thrownBy 77 rfl) (t := 138) (by decide) (n := 134) rfl (fun h131 => ?_) (fun h131 => ?_)
                      · refine p_ldc2 (z_dec zd_X9_thrownBy 80 rfl) zq_X9_262 (n := 141) rfl ?_
                        refine p_lmul (z_dec zd_X9_thrownBy 81 rfl) (n := 142) rfl ?_
                        refine p_lstore (z_dec zd_X9_thrownBy 82 rfl) (lv2 := [(5, .long (v5 * 11)), (10, .int 0), (9, .int (nI t65)), (7, .long v7), (4, .int (f_X9_oddsOf (m_X9_begins I np) ((abu / 100).toNatClampNeg) (((abu / 10) - (abu / 10) / 10 * 10).toNatClampNeg) ((abu - abu / 10 * 10).toNatClampNeg))), (0, .ref 54), (1, .int sh), (2, .int abu), (3, .int part)]) (by decide) rfl (n := 144) rfl ?_
                        refine p_lload (z_dec zd_X9_thrownBy 83 rfl) 3 rfl (n := 146) rfl ?_
                        refine p_iload (z_dec zd_X9_thrownBy 84 rfl) 1 rfl (n := 148) rfl ?_
                        refine p_if_eq (z_dec zd_X9_thrownBy 85 rfl) (t := 157) (by decide) (n := 151) rfl (fun h148 => ?_) (fun h148 => ?_)
                        · refine p_bipush (z_dec zd_X9_thrownBy 89 rfl) (v := 12) (by decide) (n := 159) rfl ?_
                          refine p_iload (z_dec zd_X9_thrownBy 90 rfl) 4 rfl (n := 161) rfl ?_
                          refine p_isub (z_dec zd_X9_thrownBy 91 rfl) (n := 162) rfl ?_
                          refine p_i2l (z_dec zd_X9_thrownBy 92 rfl) (n := 163) rfl ?_
                          refine p_lmul (z_dec zd_X9_thrownBy 93 rfl) (n := 164) rfl ?_
                          refine p_lstore (z_dec zd_X9_thrownBy 94 rfl) (lv2 := [(7, .long (v7 * ((12 - (f_X9_oddsOf (m_X9_begins I np) ((abu / 100).toNatClampNeg) (((abu / 10) - (abu / 10) / 10 * 10).toNatClampNeg) ((abu - abu / 10 * 10).toNatClampNeg))).toInt64))), (5, .long (v5 * 11)), (10, .int 0), (9, .int (nI t65)), (4, .int (f_X9_oddsOf (m_X9_begins I np) ((abu / 100).toNatClampNeg) (((abu / 10) - (abu / 10) / 10 * 10).toNatClampNeg) ((abu - abu / 10 * 10).toNatClampNeg))), (0, .ref 54), (1, .int sh), (2, .int abu), (3, .int part)]) (by decide) rfl (n := 166) rfl ?_
                          refine p_iinc (z_dec zd_X9_thrownBy 95 rfl) 3 rfl (v := (nI (t65 + 1))) (nI_1 _) (lv2 := [(9, .int (nI (t65 + 1))), (7, .long (v7 * ((12 - (f_X9_oddsOf (m_X9_begins I np) ((abu / 100).toNatClampNeg) (((abu / 10) - (abu / 10) / 10 * 10).toNatClampNeg) ((abu - abu / 10 * 10).toNatClampNeg))).toInt64))), (5, .long (v5 * 11)), (10, .int 0), (4, .int (f_X9_oddsOf (m_X9_begins I np) ((abu / 100).toNatClampNeg) (((abu / 10) - (abu / 10) / 10 * 10).toNatClampNeg) ((abu - abu / 10 * 10).toNatClampNeg))), (0, .ref 54), (1, .int sh), (2, .int abu), (3, .int part)]) (by decide) rfl (n := 169) rfl ?_
                          refine p_goto (z_dec zd_X9_thrownBy 96 rfl) (t := 65) (by decide) ?_
                          refine z_sub (lv' := [(9, .int (nI (t65 + 1))), (7, .long (v7 * ((12 - (f_X9_oddsOf (m_X9_begins I np) ((abu / 100).toNatClampNeg) (((abu / 10) - (abu / 10) / 10 * 10).toNatClampNeg) ((abu - abu / 10 * 10).toNatClampNeg))).toInt64))), (5, .long (v5 * 11)), (4, .int (f_X9_oddsOf (m_X9_begins I np) ((abu / 100).toNatClampNeg) (((abu / 10) - (abu / 10) / 10 * 10).toNatClampNeg) ((abu - abu / 10 * 10).toNatClampNeg))), (0, .ref 54), (1, .int sh), (2, .int abu), (3, .int part)]) [0, 1, 2, 4, 5, 6, 7, 8] rfl ?_
                          rw [show gx_X9_thrownBy_65 I L np sh abu part (r65 + 1) t65 v5 v7 = gx_X9_thrownBy_65 I L np sh abu part r65 (t65 + 1) (v5 * 11) (v7 * ((12 - (f_X9_oddsOf (m_X9_begins I np) ((abu / 100).toNatClampNeg) (((abu / 10) - (abu / 10) / 10 * 10).toNatClampNeg) ((abu - abu / 10 * 10).toNatClampNeg))).toInt64)) from by (conv => lhs; unfold gx_X9_thrownBy_65); rw [if_neg h80, if_neg h100, if_neg h117]]
                          exact ih65 (t65 + 1) (v5 * 11) (v7 * ((12 - (f_X9_oddsOf (m_X9_begins I np) ((abu / 100).toNatClampNeg) (((abu / 10) - (abu / 10) / 10 * 10).toNatClampNeg) ((abu - abu / 10 * 10).toNatClampNeg))).toInt64)) (by omega) (z_nnS hlo ⟨11, by decide, rfl⟩ (z_12b _ _ _ _))
                        · exact absurd h148 (by decide)
                      · exact absurd h131 (by decide)
                    · refine p_iconst (z_dec zd_X9_thrownBy 71 rfl) (v := 1) (by decide) (n := 121) rfl ?_
                      refine p_goto (z_dec zd_X9_thrownBy 72 rfl) (t := 125) (by decide) ?_
                      refine p_istore (z_dec zd_X9_thrownBy 74 rfl) (lv2 := [(10, .int 1), (9, .int (nI t65)), (7, .long v7), (5, .long v5), (4, .int (f_X9_oddsOf (m_X9_begins I np) ((abu / 100).toNatClampNeg) (((abu / 10) - (abu / 10) / 10 * 10).toNatClampNeg) ((abu - abu / 10 * 10).toNatClampNeg))), (0, .ref 54), (1, .int sh), (2, .int abu), (3, .int part)]) (by decide) rfl (n := 127) rfl ?_
                      refine p_lload (z_dec zd_X9_thrownBy 75 rfl) 3 rfl (n := 129) rfl ?_
                      refine p_iload (z_dec zd_X9_thrownBy 76 rfl) 0 rfl (n := 131) rfl ?_
                      refine p_if_eq (z_dec zd_X9_thrownBy 77 rfl) (t := 138) (by decide) (n := 134) rfl (fun h131 => ?_) (fun h131 => ?_)
                      · exact absurd h131 (by decide)
                      · refine p_lconst (z_dec zd_X9_thrownBy 78 rfl) (v := 1) (by decide) (n := 135) rfl ?_
                        refine p_goto (z_dec zd_X9_thrownBy 79 rfl) (t := 141) (by decide) ?_
                        refine p_lmul (z_dec zd_X9_thrownBy 81 rfl) (n := 142) rfl ?_
                        refine p_lstore (z_dec zd_X9_thrownBy 82 rfl) (lv2 := [(5, .long (v5 * 1)), (10, .int 1), (9, .int (nI t65)), (7, .long v7), (4, .int (f_X9_oddsOf (m_X9_begins I np) ((abu / 100).toNatClampNeg) (((abu / 10) - (abu / 10) / 10 * 10).toNatClampNeg) ((abu - abu / 10 * 10).toNatClampNeg))), (0, .ref 54), (1, .int sh), (2, .int abu), (3, .int part)]) (by decide) rfl (n := 144) rfl ?_
                        refine p_lload (z_dec zd_X9_thrownBy 83 rfl) 3 rfl (n := 146) rfl ?_
                        refine p_iload (z_dec zd_X9_thrownBy 84 rfl) 1 rfl (n := 148) rfl ?_
                        refine p_if_eq (z_dec zd_X9_thrownBy 85 rfl) (t := 157) (by decide) (n := 151) rfl (fun h148 => ?_) (fun h148 => ?_)
                        · exact absurd h148 (by decide)
                        · refine p_iload (z_dec zd_X9_thrownBy 86 rfl) 4 rfl (n := 153) rfl ?_
                          refine p_i2l (z_dec zd_X9_thrownBy 87 rfl) (n := 154) rfl ?_
                          refine p_goto (z_dec zd_X9_thrownBy 88 rfl) (t := 163) (by decide) ?_
                          refine p_lmul (z_dec zd_X9_thrownBy 93 rfl) (n := 164) rfl ?_
                          refine p_lstore (z_dec zd_X9_thrownBy 94 rfl) (lv2 := [(7, .long (v7 * ((f_X9_oddsOf (m_X9_begins I np) ((abu / 100).toNatClampNeg) (((abu / 10) - (abu / 10) / 10 * 10).toNatClampNeg) ((abu - abu / 10 * 10).toNatClampNeg)).toInt64))), (5, .long (v5 * 1)), (10, .int 1), (9, .int (nI t65)), (4, .int (f_X9_oddsOf (m_X9_begins I np) ((abu / 100).toNatClampNeg) (((abu / 10) - (abu / 10) / 10 * 10).toNatClampNeg) ((abu - abu / 10 * 10).toNatClampNeg))), (0, .ref 54), (1, .int sh), (2, .int abu), (3, .int part)]) (by decide) rfl (n := 166) rfl ?_
                          refine p_iinc (z_dec zd_X9_thrownBy 95 rfl) 3 rfl (v := (nI (t65 + 1))) (nI_1 _) (lv2 := [(9, .int (nI (t65 + 1))), (7, .long (v7 * ((f_X9_oddsOf (m_X9_begins I np) ((abu / 100).toNatClampNeg) (((abu / 10) - (abu / 10) / 10 * 10).toNatClampNeg) ((abu - abu / 10 * 10).toNatClampNeg)).toInt64))), (5, .long (v5 * 1)), (10, .int 1), (4, .int (f_X9_oddsOf (m_X9_begins I np) ((abu / 100).toNatClampNeg) (((abu / 10) - (abu / 10) / 10 * 10).toNatClampNeg) ((abu - abu / 10 * 10).toNatClampNeg))), (0, .ref 54), (1, .int sh), (2, .int abu), (3, .int part)]) (by decide) rfl (n := 169) rfl ?_
                          refine p_goto (z_dec zd_X9_thrownBy 96 rfl) (t := 65) (by decide) ?_
                          refine z_sub (lv' := [(9, .int (nI (t65 + 1))), (7, .long (v7 * ((f_X9_oddsOf (m_X9_begins I np) ((abu / 100).toNatClampNeg) (((abu / 10) - (abu / 10) / 10 * 10).toNatClampNeg) ((abu - abu / 10 * 10).toNatClampNeg)).toInt64))), (5, .long (v5 * 1)), (4, .int (f_X9_oddsOf (m_X9_begins I np) ((abu / 100).toNatClampNeg) (((abu / 10) - (abu / 10) / 10 * 10).toNatClampNeg) ((abu - abu / 10 * 10).toNatClampNeg))), (0, .ref 54), (1, .int sh), (2, .int abu), (3, .int part)]) [0, 1, 2, 4, 5, 6, 7, 8] rfl ?_
                          rw [show gx_X9_thrownBy_65 I L np sh abu part (r65 + 1) t65 v5 v7 = gx_X9_thrownBy_65 I L np sh abu part r65 (t65 + 1) (v5 * 1) (v7 * ((f_X9_oddsOf (m_X9_begins I np) ((abu / 100).toNatClampNeg) (((abu / 10) - (abu / 10) / 10 * 10).toNatClampNeg) ((abu - abu / 10 * 10).toNatClampNeg)).toInt64)) from by (conv => lhs; unfold gx_X9_thrownBy_65); rw [if_neg h80, if_neg h100, if_pos h117]]
                          exact ih65 (t65 + 1) (v5 * 1) (v7 * ((f_X9_oddsOf (m_X9_begins I np) ((abu / 100).toNatClampNeg) (((abu / 10) - (abu / 10) / 10 * 10).toNatClampNeg) ((abu - abu / 10 * 10).toNatClampNeg)).toInt64)) (by omega) (z_nnS hlo ⟨1, by decide, rfl⟩ (z_12a _ _ _ _))
          exact (by have q := (hL65 8 0 1 1 (by omega) z_nn0); (rw [show f_X9_thrownBy I L np sh abu part = _ from by unfold f_X9_thrownBy; rw [if_neg h6, if_neg h14, if_neg h24]]); (rw [show m_X9_thrownBy I L np sh abu part = _ from by unfold m_X9_thrownBy; rw [if_neg h6, if_neg h14, if_neg h24]]); exact q)
        · refine p_ldc2 (z_dec zd_X9_thrownBy 15 rfl) zq_X9_260 (n := 30) rfl ?_
          exact p_lret (z_dec zd_X9_thrownBy 16 rfl) rfl ⟨(by unfold f_X9_thrownBy; rw [if_neg h6, if_neg h14, if_pos h24]), rfl, (z_3 (by unfold m_X9_thrownBy; rw [if_neg h6, if_neg h14, if_pos h24]) rfl)⟩
  exact hentry
