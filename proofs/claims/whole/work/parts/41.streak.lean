theorem z_in7 {x : Int32} (h1 : ¬ x < 0) (h2 : ¬ 6 < x) : x = nI x.toNatClampNeg ∧ x.toNatClampNeg ≤ 6 := by
  obtain ⟨j, hj, rfl⟩ := nI_of h1
  rw [nI_clamp hj]
  refine ⟨rfl, ?_⟩
  rcases Nat.lt_or_ge 6 j with q | q
  · exact absurd (nI_lt (a := 6) q hj) h2
  · exact q
theorem z_byr {I : Nat → Nat → Int32} {sh : Int32} (h : f_X8_bytesRefusal I sh = 0) : ¬ f_X8_isShelf sh = 0 := by
  intro q
  unfold f_X8_bytesRefusal at h
  rw [if_pos q] at h
  exact absurd h (by decide)
def gb_X8_streak_69 (b : Bool) (I : Nat → Nat → Int32) (sz : Nat) (abu : Int32) (i69 : Nat) (s : Int64 × Int64) : Int64 × Int64 := ((s.1 * ((12 - (f_X1_oddsOn b I sz 1 (abu / 100) ((abu / 10) - (abu / 10) / 10 * 10) (abu - abu / 10 * 10))).toInt64)), (s.2 * 12))
def g_X8_streak_69 (b : Bool) (I : Nat → Nat → Int32) (sz : Nat) (abu : Int32) : Nat → Int64 × Int64
  | 0 => (1, 1)
  | i69 + 1 => gb_X8_streak_69 b I sz abu i69 (g_X8_streak_69 b I sz abu i69)
def f_X8_streak (b : Bool) (I : Nat → Nat → Int32) (sz : Nat) (abu : Int32) (k : Int32) (part : Int32) : Int64 := if (f_X8_isThree I abu) = 0 then (-9223372036854775808) else if k < 0 then (-9223372036854775808) else if 6 < k then (-9223372036854775808) else if (f_X8_isPart part) = 0 then (-9223372036854775808) else (f_X8_lowest ((g_X8_streak_69 b I sz abu k.toNatClampNeg).1) ((g_X8_streak_69 b I sz abu k.toNatClampNeg).2) part)
def m_X8_streak (b : Bool) (I : Nat → Nat → Int32) (sz : Nat) (abu : Int32) (k : Int32) (part : Int32) : Nat → Nat → Int32 := if (f_X8_isThree I abu) = 0 then I else if k < 0 then I else if 6 < k then I else if (f_X8_isPart part) = 0 then I else (m_X1_oddsOn b I sz 1 (abu / 100) ((abu / 10) - (abu / 10) / 10 * 10) (abu - abu / 10 * 10))
set_option maxHeartbeats 2000000 in
set_option maxRecDepth 100000 in
theorem c_X8_streak (d : Nat) (hd : 4 ≤ d) (b : Bool) (I : Nat → Nat → Int32) (L : Nat → Nat → Int64) (np : Nat) (hnp : I 1 0 = nI np) (hn10 : np ≤ 10) (sz : Nat) (hsz : I 13 4 = nI sz) (hs121 : sz ≤ 121) (abu : Int32) (k : Int32) (part : Int32) : z_CT zm_X8_streak d [.ref 0, .int abu, .int k, .int part] SH (I, L, z_R b) 0 0 (z_ret (some (.long (f_X8_streak b I sz abu k part))) ((m_X8_streak b I sz abu k part), L, z_R b)) := by
  refine z_enter (by decide +kernel) (Nat.le_of_ble_eq_true rfl) ?_
  have hentry : PW zm_X8_streak d 0 [(0, .ref 0), (1, .int abu), (2, .int k), (3, .int part)] [] SH (I, L, z_R b) 0 0 (z_ret (some (.long (f_X8_streak b I sz abu k part))) ((m_X8_streak b I sz abu k part), L, z_R b)) := by
    refine p_aload_n (z_dec zd_X8_streak 0 rfl) rfl 0 rfl (n := 1) rfl ?_
    refine p_iload_n (z_dec zd_X8_streak 1 rfl) rfl 1 rfl (n := 2) rfl ?_
    refine q_callV (As := [.int abu]) (rest := []) (z_dec zd_X8_streak 2 rfl) zk_X8_123 zv_X8_isThree (c_X8_isThree (d - 1) (by omega) b I L abu) rfl ⟨_, _, rfl⟩ rfl rfl (Nat.le_of_ble_eq_true rfl) (by omega) (n := 5) rfl ?_
    show PW zm_X8_streak d 5 [(0, .ref 0), (1, .int abu), (2, .int k), (3, .int part)] [.int (f_X8_isThree I abu)] SH (I, L, z_R b) 0 0 _
    refine p_if_eq (z_dec zd_X8_streak 3 rfl) (t := 25) (by decide) (n := 8) rfl (fun h5 => ?_) (fun h5 => ?_)
    · refine p_ldc2 (z_dec zd_X8_streak 12 rfl) zq_X8_206 (n := 28) rfl ?_
      exact p_lret (z_dec zd_X8_streak 13 rfl) rfl ⟨(by unfold f_X8_streak; rw [if_pos h5]), rfl, (z_3 (by unfold m_X8_streak; rw [if_pos h5]) rfl)⟩
    · refine p_iload_n (z_dec zd_X8_streak 4 rfl) rfl 2 rfl (n := 9) rfl ?_
      refine p_if_lt (z_dec zd_X8_streak 5 rfl) (t := 25) (by decide) (n := 12) rfl (fun h9 => ?_) (fun h9 => ?_)
      · refine p_ldc2 (z_dec zd_X8_streak 12 rfl) zq_X8_206 (n := 28) rfl ?_
        exact p_lret (z_dec zd_X8_streak 13 rfl) rfl ⟨(by unfold f_X8_streak; rw [if_neg h5, if_pos h9]), rfl, (z_3 (by unfold m_X8_streak; rw [if_neg h5, if_pos h9]) rfl)⟩
      · refine p_iload_n (z_dec zd_X8_streak 6 rfl) rfl 2 rfl (n := 13) rfl ?_
        refine p_bipush (z_dec zd_X8_streak 7 rfl) (v := 6) (by decide) (n := 15) rfl ?_
        refine p_icmp_gt (z_dec zd_X8_streak 8 rfl) (t := 25) (by decide) (n := 18) rfl (fun h15 => ?_) (fun h15 => ?_)
        · refine p_ldc2 (z_dec zd_X8_streak 12 rfl) zq_X8_206 (n := 28) rfl ?_
          exact p_lret (z_dec zd_X8_streak 13 rfl) rfl ⟨(by unfold f_X8_streak; rw [if_neg h5, if_neg h9, if_pos h15]), rfl, (z_3 (by unfold m_X8_streak; rw [if_neg h5, if_neg h9, if_pos h15]) rfl)⟩
        · have hk := z_in7 h9 h15
          refine p_iload_n (z_dec zd_X8_streak 9 rfl) rfl 3 rfl (n := 19) rfl ?_
          refine q_callS (As := [.int part]) (rest := []) (z_dec zd_X8_streak 10 rfl) zk_X8_201 zs_X8_isPart (c_X8_isPart (d - 1) (by omega) b I L part) rfl rfl (Nat.le_of_ble_eq_true rfl) (by omega) (n := 22) rfl ?_
          show PW zm_X8_streak d 22 [(0, .ref 0), (1, .int abu), (2, .int k), (3, .int part)] [.int (f_X8_isPart part)] SH (I, L, z_R b) 0 0 _
          refine p_if_ne (z_dec zd_X8_streak 11 rfl) (t := 29) (by decide) (n := 25) rfl (fun h22 => ?_) (fun h22 => ?_)
          · refine p_bipush (z_dec zd_X8_streak 14 rfl) (v := 12) (by decide) (n := 31) rfl ?_
            refine p_aload_n (z_dec zd_X8_streak 15 rfl) rfl 0 rfl (n := 32) rfl ?_
            refine q_getR (z_dec zd_X8_streak 16 rfl) zf_X8_26 (i := 13) rfl rfl (n := 35) rfl ?_
            refine p_aload_n (z_dec zd_X8_streak 17 rfl) rfl 0 rfl (n := 36) rfl ?_
            refine q_getR (z_dec zd_X8_streak 18 rfl) zf_X8_10 (i := 1) rfl rfl (n := 39) rfl ?_
            refine p_iload_n (z_dec zd_X8_streak 19 rfl) rfl 1 rfl (n := 40) rfl ?_
            refine p_bipush (z_dec zd_X8_streak 20 rfl) (v := 100) (by decide) (n := 42) rfl ?_
            refine p_idiv (z_dec zd_X8_streak 21 rfl) (by decide) (n := 43) rfl ?_
            refine p_iload_n (z_dec zd_X8_streak 22 rfl) rfl 1 rfl (n := 44) rfl ?_
            refine p_bipush (z_dec zd_X8_streak 23 rfl) (v := 10) (by decide) (n := 46) rfl ?_
            refine p_idiv (z_dec zd_X8_streak 24 rfl) (by decide) (n := 47) rfl ?_
            refine p_bipush (z_dec zd_X8_streak 25 rfl) (v := 10) (by decide) (n := 49) rfl ?_
            refine p_irem (z_dec zd_X8_streak 26 rfl) (by decide) (n := 50) rfl ?_
            refine p_iload_n (z_dec zd_X8_streak 27 rfl) rfl 1 rfl (n := 51) rfl ?_
            refine p_bipush (z_dec zd_X8_streak 28 rfl) (v := 10) (by decide) (n := 53) rfl ?_
            refine p_irem (z_dec zd_X8_streak 29 rfl) (by decide) (n := 54) rfl ?_
            refine q_callV (As := [.ref 1, .int (abu / 100), .int ((abu / 10) - (abu / 10) / 10 * 10), .int (abu - abu / 10 * 10)]) (rest := [.int 12]) (z_dec zd_X8_streak 30 rfl) zk_X8_126 zv_X1_oddsOn (c_X1_oddsOn (d - 1) (by omega) b I L sz hsz hs121 1 (z_Yd1 b) (abu / 100) ((abu / 10) - (abu / 10) / 10 * 10) (abu - abu / 10 * 10) np hnp hn10) rfl ⟨_, _, rfl⟩ rfl rfl (Nat.le_of_ble_eq_true rfl) (by omega) (n := 57) rfl ?_
            show PW zm_X8_streak d 57 [(0, .ref 0), (1, .int abu), (2, .int k), (3, .int part)] [.int (f_X1_oddsOn b I sz 1 (abu / 100) ((abu / 10) - (abu / 10) / 10 * 10) (abu - abu / 10 * 10)), .int 12] SH ((m_X1_oddsOn b I sz 1 (abu / 100) ((abu / 10) - (abu / 10) / 10 * 10) (abu - abu / 10 * 10)), L, z_R b) 0 0 _
            refine p_isub (z_dec zd_X8_streak 31 rfl) (n := 58) rfl ?_
            refine p_istore (z_dec zd_X8_streak 32 rfl) (lv2 := [(4, .int (12 - (f_X1_oddsOn b I sz 1 (abu / 100) ((abu / 10) - (abu / 10) / 10 * 10) (abu - abu / 10 * 10)))), (0, .ref 0), (1, .int abu), (2, .int k), (3, .int part)]) (by decide) rfl (n := 60) rfl ?_
            refine p_lconst (z_dec zd_X8_streak 33 rfl) (v := 1) (by decide) (n := 61) rfl ?_
            refine p_lstore (z_dec zd_X8_streak 34 rfl) (lv2 := [(5, .long 1), (4, .int (12 - (f_X1_oddsOn b I sz 1 (abu / 100) ((abu / 10) - (abu / 10) / 10 * 10) (abu - abu / 10 * 10)))), (0, .ref 0), (1, .int abu), (2, .int k), (3, .int part)]) (by decide) rfl (n := 63) rfl ?_
            refine p_lconst (z_dec zd_X8_streak 35 rfl) (v := 1) (by decide) (n := 64) rfl ?_
            refine p_lstore (z_dec zd_X8_streak 36 rfl) (lv2 := [(7, .long 1), (5, .long 1), (4, .int (12 - (f_X1_oddsOn b I sz 1 (abu / 100) ((abu / 10) - (abu / 10) / 10 * 10) (abu - abu / 10 * 10)))), (0, .ref 0), (1, .int abu), (2, .int k), (3, .int part)]) (by decide) rfl (n := 66) rfl ?_
            refine p_iconst (z_dec zd_X8_streak 37 rfl) (v := 0) (by decide) (n := 67) rfl ?_
            refine p_istore (z_dec zd_X8_streak 38 rfl) (lv2 := [(9, .int 0), (7, .long 1), (5, .long 1), (4, .int (12 - (f_X1_oddsOn b I sz 1 (abu / 100) ((abu / 10) - (abu / 10) / 10 * 10) (abu - abu / 10 * 10)))), (0, .ref 0), (1, .int abu), (2, .int k), (3, .int part)]) (by decide) rfl (n := 69) rfl ?_
            have hL69 : ∀ i69, i69 ≤ k.toNatClampNeg → PW zm_X8_streak d 69 [(9, .int (nI i69)), (7, .long ((g_X8_streak_69 b I sz abu i69).2)), (5, .long ((g_X8_streak_69 b I sz abu i69).1)), (4, .int (12 - (f_X1_oddsOn b I sz 1 (abu / 100) ((abu / 10) - (abu / 10) / 10 * 10) (abu - abu / 10 * 10)))), (0, .ref 0), (1, .int abu), (2, .int k), (3, .int part)] [] SH ((m_X1_oddsOn b I sz 1 (abu / 100) ((abu / 10) - (abu / 10) / 10 * 10) (abu - abu / 10 * 10)), L, z_R b) 0 0 (z_ret (some (.long (f_X8_streak b I sz abu k part))) ((m_X8_streak b I sz abu k part), L, z_R b)) := by
              refine z_down k.toNatClampNeg (fun i69 hi69 ih69 => ?_)
              refine p_iload (z_dec zd_X8_streak 39 rfl) 0 rfl (n := 71) rfl ?_
              refine p_iload_n (z_dec zd_X8_streak 40 rfl) rfl 6 rfl (n := 72) rfl ?_
              refine p_icmp_ge (z_dec zd_X8_streak 41 rfl) (t := 97) (by decide) (n := 75) rfl (fun h72 => ?_) (fun h72 => ?_)
              · have hx69 : i69 = k.toNatClampNeg := by have := z_ge (a := k.toNatClampNeg) (b := i69) (by rw [← hk.1]; exact h72); omega
                rw [hx69]
                refine p_lload (z_dec zd_X8_streak 53 rfl) 2 rfl (n := 99) rfl ?_
                refine p_lload (z_dec zd_X8_streak 54 rfl) 1 rfl (n := 101) rfl ?_
                refine p_iload_n (z_dec zd_X8_streak 55 rfl) rfl 7 rfl (n := 102) rfl ?_
                refine q_callS (As := [.long ((g_X8_streak_69 b I sz abu k.toNatClampNeg).1), .long ((g_X8_streak_69 b I sz abu k.toNatClampNeg).2), .int part]) (rest := []) (z_dec zd_X8_streak 56 rfl) zk_X8_210 zs_X8_lowest (c_X8_lowest (d - 1) (by omega) b (m_X1_oddsOn b I sz 1 (abu / 100) ((abu / 10) - (abu / 10) / 10 * 10) (abu - abu / 10 * 10)) L ((g_X8_streak_69 b I sz abu k.toNatClampNeg).1) ((g_X8_streak_69 b I sz abu k.toNatClampNeg).2) part) rfl rfl (Nat.le_of_ble_eq_true rfl) (by omega) (n := 105) rfl ?_
                show PW zm_X8_streak d 105 [(9, .int (nI k.toNatClampNeg)), (7, .long ((g_X8_streak_69 b I sz abu k.toNatClampNeg).2)), (5, .long ((g_X8_streak_69 b I sz abu k.toNatClampNeg).1)), (4, .int (12 - (f_X1_oddsOn b I sz 1 (abu / 100) ((abu / 10) - (abu / 10) / 10 * 10) (abu - abu / 10 * 10)))), (0, .ref 0), (1, .int abu), (2, .int k), (3, .int part)] [.long (f_X8_lowest ((g_X8_streak_69 b I sz abu k.toNatClampNeg).1) ((g_X8_streak_69 b I sz abu k.toNatClampNeg).2) part)] SH ((m_X1_oddsOn b I sz 1 (abu / 100) ((abu / 10) - (abu / 10) / 10 * 10) (abu - abu / 10 * 10)), L, z_R b) 0 0 _
                exact p_lret (z_dec zd_X8_streak 57 rfl) rfl ⟨(by unfold f_X8_streak; rw [if_neg h5, if_neg h9, if_neg h15, if_neg h22]), rfl, (z_3 (by unfold m_X8_streak; rw [if_neg h5, if_neg h9, if_neg h15, if_neg h22]) rfl)⟩
              · have hx69 : i69 < k.toNatClampNeg := by have := z_nge (a := k.toNatClampNeg) (b := i69) (by rw [← hk.1]; exact h72); omega
                refine p_lload (z_dec zd_X8_streak 42 rfl) 2 rfl (n := 77) rfl ?_
                refine p_iload (z_dec zd_X8_streak 43 rfl) 3 rfl (n := 79) rfl ?_
                refine p_i2l (z_dec zd_X8_streak 44 rfl) (n := 80) rfl ?_
                refine p_lmul (z_dec zd_X8_streak 45 rfl) (n := 81) rfl ?_
                refine p_lstore (z_dec zd_X8_streak 46 rfl) (lv2 := [(5, .long ((g_X8_streak_69 b I sz abu i69).1 * ((12 - (f_X1_oddsOn b I sz 1 (abu / 100) ((abu / 10) - (abu / 10) / 10 * 10) (abu - abu / 10 * 10))).toInt64))), (9, .int (nI i69)), (7, .long ((g_X8_streak_69 b I sz abu i69).2)), (4, .int (12 - (f_X1_oddsOn b I sz 1 (abu / 100) ((abu / 10) - (abu / 10) / 10 * 10) (abu - abu / 10 * 10)))), (0, .ref 0), (1, .int abu), (2, .int k), (3, .int part)]) (by decide) rfl (n := 83) rfl ?_
                refine p_lload (z_dec zd_X8_streak 47 rfl) 2 rfl (n := 85) rfl ?_
                refine p_ldc2 (z_dec zd_X8_streak 48 rfl) zq_X8_214 (n := 88) rfl ?_
                refine p_lmul (z_dec zd_X8_streak 49 rfl) (n := 89) rfl ?_
                refine p_lstore (z_dec zd_X8_streak 50 rfl) (lv2 := [(7, .long ((g_X8_streak_69 b I sz abu i69).2 * 12)), (5, .long ((g_X8_streak_69 b I sz abu i69).1 * ((12 - (f_X1_oddsOn b I sz 1 (abu / 100) ((abu / 10) - (abu / 10) / 10 * 10) (abu - abu / 10 * 10))).toInt64))), (9, .int (nI i69)), (4, .int (12 - (f_X1_oddsOn b I sz 1 (abu / 100) ((abu / 10) - (abu / 10) / 10 * 10) (abu - abu / 10 * 10)))), (0, .ref 0), (1, .int abu), (2, .int k), (3, .int part)]) (by decide) rfl (n := 91) rfl ?_
                refine p_iinc (z_dec zd_X8_streak 51 rfl) 2 rfl (v := (nI (i69 + 1))) (nI_1 _) (lv2 := [(9, .int (nI (i69 + 1))), (7, .long ((g_X8_streak_69 b I sz abu i69).2 * 12)), (5, .long ((g_X8_streak_69 b I sz abu i69).1 * ((12 - (f_X1_oddsOn b I sz 1 (abu / 100) ((abu / 10) - (abu / 10) / 10 * 10) (abu - abu / 10 * 10))).toInt64))), (4, .int (12 - (f_X1_oddsOn b I sz 1 (abu / 100) ((abu / 10) - (abu / 10) / 10 * 10) (abu - abu / 10 * 10)))), (0, .ref 0), (1, .int abu), (2, .int k), (3, .int part)]) (by decide) rfl (n := 94) rfl ?_
                refine p_goto (z_dec zd_X8_streak 52 rfl) (t := 69) (by decide) ?_
                have eb : (g_X8_streak_69 b I sz abu) (i69 + 1) = (((g_X8_streak_69 b I sz abu i69).1 * ((12 - (f_X1_oddsOn b I sz 1 (abu / 100) ((abu / 10) - (abu / 10) / 10 * 10) (abu - abu / 10 * 10))).toInt64)), ((g_X8_streak_69 b I sz abu i69).2 * 12)) := by show gb_X8_streak_69 b I sz abu i69 ((g_X8_streak_69 b I sz abu) i69) = _; unfold gb_X8_streak_69; rfl
                refine z_lv (lv' := [(9, .int (nI (i69 + 1))), (7, .long ((g_X8_streak_69 b I sz abu (i69 + 1)).2)), (5, .long ((g_X8_streak_69 b I sz abu (i69 + 1)).1)), (4, .int (12 - (f_X1_oddsOn b I sz 1 (abu / 100) ((abu / 10) - (abu / 10) / 10 * 10) (abu - abu / 10 * 10)))), (0, .ref 0), (1, .int abu), (2, .int k), (3, .int part)]) (by rw [eb]) rfl rfl (ih69 (by omega))
            refine z_lv (lv' := [(9, .int (nI 0)), (7, .long ((g_X8_streak_69 b I sz abu 0).2)), (5, .long ((g_X8_streak_69 b I sz abu 0).1)), (4, .int (12 - (f_X1_oddsOn b I sz 1 (abu / 100) ((abu / 10) - (abu / 10) / 10 * 10) (abu - abu / 10 * 10)))), (0, .ref 0), (1, .int abu), (2, .int k), (3, .int part)]) rfl rfl rfl (hL69 0 (Nat.zero_le _))
          · refine p_ldc2 (z_dec zd_X8_streak 12 rfl) zq_X8_206 (n := 28) rfl ?_
            exact p_lret (z_dec zd_X8_streak 13 rfl) rfl ⟨(by unfold f_X8_streak; rw [if_neg h5, if_neg h9, if_neg h15, if_pos h22]), rfl, (z_3 (by unfold m_X8_streak; rw [if_neg h5, if_neg h9, if_neg h15, if_pos h22]) rfl)⟩
  exact hentry
def gx_X8_thrownBy_72 (b : Bool) (I : Nat → Nat → Int32) (L : Nat → Nat → Int64) (sz : Nat) (sh : Int32) (abu : Int32) (part : Int32) : Nat → Nat → (Int64) → (Int64) → Int64
  | 0, t72, v6, v8 => if (nI (I (42 + 2 * sh.toNatClampNeg) 2).toNatClampNeg) ≤ (nI t72) then (f_X8_lowest v6 (v6 + v8) part) else (f_X8_lowest v6 (v6 + v8) part)
  | r72 + 1, t72, v6, v8 => if (nI (I (42 + 2 * sh.toNatClampNeg) 2).toNatClampNeg) ≤ (nI t72) then (f_X8_lowest v6 (v6 + v8) part) else if (lg_cmp (f_X4_valueAt (m_X1_oddsOn b I sz 1 (abu / 100) ((abu / 10) - (abu / 10) / 10 * 10) (abu - abu / 10 * 10)) L (42 + 2 * sh.toNatClampNeg) (nI t72)) 0) = 0 then if (lg_cmp (f_X4_valueAt (m_X1_oddsOn b I sz 1 (abu / 100) ((abu / 10) - (abu / 10) / 10 * 10) (abu - abu / 10 * 10)) L (42 + 2 * sh.toNatClampNeg) (nI t72)) 1) = 0 then if (lg_cmp (f_X4_valueAt (m_X1_oddsOn b I sz 1 (abu / 100) ((abu / 10) - (abu / 10) / 10 * 10) (abu - abu / 10 * 10)) L (42 + 2 * sh.toNatClampNeg) (nI t72)) 1) = 0 then gx_X8_thrownBy_72 b I L sz sh abu part r72 (t72 + 1) (v6 * 1) (v8 * ((f_X1_oddsOn b I sz 1 (abu / 100) ((abu / 10) - (abu / 10) / 10 * 10) (abu - abu / 10 * 10)).toInt64)) else gx_X8_thrownBy_72 b I L sz sh abu part r72 (t72 + 1) (v6 * 1) (v8 * ((12 - (f_X1_oddsOn b I sz 1 (abu / 100) ((abu / 10) - (abu / 10) / 10 * 10) (abu - abu / 10 * 10))).toInt64)) else if (lg_cmp (f_X4_valueAt (m_X1_oddsOn b I sz 1 (abu / 100) ((abu / 10) - (abu / 10) / 10 * 10) (abu - abu / 10 * 10)) L (42 + 2 * sh.toNatClampNeg) (nI t72)) 1) = 0 then gx_X8_thrownBy_72 b I L sz sh abu part r72 (t72 + 1) (v6 * 11) (v8 * ((f_X1_oddsOn b I sz 1 (abu / 100) ((abu / 10) - (abu / 10) / 10 * 10) (abu - abu / 10 * 10)).toInt64)) else gx_X8_thrownBy_72 b I L sz sh abu part r72 (t72 + 1) (v6 * 11) (v8 * ((12 - (f_X1_oddsOn b I sz 1 (abu / 100) ((abu / 10) - (abu / 10) / 10 * 10) (abu - abu / 10 * 10))).toInt64)) else if (lg_cmp (f_X4_valueAt (m_X1_oddsOn b I sz 1 (abu / 100) ((abu / 10) - (abu / 10) / 10 * 10) (abu - abu / 10 * 10)) L (42 + 2 * sh.toNatClampNeg) (nI t72)) 1) = 0 then if (lg_cmp (f_X4_valueAt (m_X1_oddsOn b I sz 1 (abu / 100) ((abu / 10) - (abu / 10) / 10 * 10) (abu - abu / 10 * 10)) L (42 + 2 * sh.toNatClampNeg) (nI t72)) 1) = 0 then if (lg_cmp (f_X4_valueAt (m_X1_oddsOn b I sz 1 (abu / 100) ((abu / 10) - (abu / 10) / 10 * 10) (abu - abu / 10 * 10)) L (42 + 2 * sh.toNatClampNeg) (nI t72)) 1) = 0 then gx_X8_thrownBy_72 b I L sz sh abu part r72 (t72 + 1) (v6 * 1) (v8 * ((f_X1_oddsOn b I sz 1 (abu / 100) ((abu / 10) - (abu / 10) / 10 * 10) (abu - abu / 10 * 10)).toInt64)) else gx_X8_thrownBy_72 b I L sz sh abu part r72 (t72 + 1) (v6 * 1) (v8 * ((12 - (f_X1_oddsOn b I sz 1 (abu / 100) ((abu / 10) - (abu / 10) / 10 * 10) (abu - abu / 10 * 10))).toInt64)) else if (lg_cmp (f_X4_valueAt (m_X1_oddsOn b I sz 1 (abu / 100) ((abu / 10) - (abu / 10) / 10 * 10) (abu - abu / 10 * 10)) L (42 + 2 * sh.toNatClampNeg) (nI t72)) 1) = 0 then gx_X8_thrownBy_72 b I L sz sh abu part r72 (t72 + 1) (v6 * 11) (v8 * ((f_X1_oddsOn b I sz 1 (abu / 100) ((abu / 10) - (abu / 10) / 10 * 10) (abu - abu / 10 * 10)).toInt64)) else gx_X8_thrownBy_72 b I L sz sh abu part r72 (t72 + 1) (v6 * 11) (v8 * ((12 - (f_X1_oddsOn b I sz 1 (abu / 100) ((abu / 10) - (abu / 10) / 10 * 10) (abu - abu / 10 * 10))).toInt64)) else (f_X8_lowest v6 (v6 + v8) part)
def f_X8_thrownBy (b : Bool) (I : Nat → Nat → Int32) (L : Nat → Nat → Int64) (sz : Nat) (sh : Int32) (abu : Int32) (part : Int32) : Int64 := if (f_X8_bytesRefusal I sh) = 0 then if (f_X8_isThree I abu) = 0 then (-9223372036854775808) else if (f_X8_isPart part) = 0 then (-9223372036854775808) else (gx_X8_thrownBy_72 b I L sz sh abu part 8 0 1 1) else (-9223372036854775808)
def m_X8_thrownBy (b : Bool) (I : Nat → Nat → Int32) (L : Nat → Nat → Int64) (sz : Nat) (sh : Int32) (abu : Int32) (part : Int32) : Nat → Nat → Int32 := if (f_X8_bytesRefusal I sh) = 0 then if (f_X8_isThree I abu) = 0 then I else if (f_X8_isPart part) = 0 then I else (m_X1_oddsOn b I sz 1 (abu / 100) ((abu / 10) - (abu / 10) / 10 * 10) (abu - abu / 10 * 10)) else I
set_option maxHeartbeats 2000000 in
set_option maxRecDepth 100000 in
theorem c_X8_thrownBy (d : Nat) (hd : 4 ≤ d) (b : Bool) (I : Nat → Nat → Int32) (L : Nat → Nat → Int64) (np : Nat) (hnp : I 1 0 = nI np) (hn10 : np ≤ 10) (sz : Nat) (hsz : I 13 4 = nI sz) (hs121 : sz ≤ 121) (hsl : ∀ j, j < 6 → I (42 + 2 * j) 2 = nI (I (42 + 2 * j) 2).toNatClampNeg ∧ (I (42 + 2 * j) 2).toNatClampNeg ≤ 60) (sh : Int32) (abu : Int32) (part : Int32) : z_CT zm_X8_thrownBy d [.ref 0, .int sh, .int abu, .int part] SH (I, L, z_R b) 0 0 (z_ret (some (.long (f_X8_thrownBy b I L sz sh abu part))) ((m_X8_thrownBy b I L sz sh abu part), L, z_R b)) := by
  refine z_enter (by decide +kernel) (Nat.le_of_ble_eq_true rfl) ?_
  have hentry : PW zm_X8_thrownBy d 0 [(0, .ref 0), (1, .int sh), (2, .int abu), (3, .int part)] [] SH (I, L, z_R b) 0 0 (z_ret (some (.long (f_X8_thrownBy b I L sz sh abu part))) ((m_X8_thrownBy b I L sz sh abu part), L, z_R b)) := by
    refine p_aload_n (z_dec zd_X8_thrownBy 0 rfl) rfl 0 rfl (n := 1) rfl ?_
    refine p_iload_n (z_dec zd_X8_thrownBy 1 rfl) rfl 1 rfl (n := 2) rfl ?_
    refine q_callV (As := [.int sh]) (rest := []) (z_dec zd_X8_thrownBy 2 rfl) zk_X8_142 zv_X8_bytesRefusal (c_X8_bytesRefusal (d - 1) (by omega) b I L sh) rfl ⟨_, _, rfl⟩ rfl rfl (Nat.le_of_ble_eq_true rfl) (by omega) (n := 5) rfl ?_
    show PW zm_X8_thrownBy d 5 [(0, .ref 0), (1, .int sh), (2, .int abu), (3, .int part)] [.int (f_X8_bytesRefusal I sh)] SH (I, L, z_R b) 0 0 _
    refine p_if_ne (z_dec zd_X8_thrownBy 3 rfl) (t := 23) (by decide) (n := 8) rfl (fun h5 => ?_) (fun h5 => ?_)
    · refine p_ldc2 (z_dec zd_X8_thrownBy 11 rfl) zq_X8_206 (n := 26) rfl ?_
      exact p_lret (z_dec zd_X8_thrownBy 12 rfl) rfl ⟨(by unfold f_X8_thrownBy; rw [if_neg h5]), rfl, (z_3 (by unfold m_X8_thrownBy; rw [if_neg h5]) rfl)⟩
    · have hj_sh := z_shc (z_byr h5)
      refine p_aload_n (z_dec zd_X8_thrownBy 4 rfl) rfl 0 rfl (n := 9) rfl ?_
      refine p_iload_n (z_dec zd_X8_thrownBy 5 rfl) rfl 2 rfl (n := 10) rfl ?_
      refine q_callV (As := [.int abu]) (rest := []) (z_dec zd_X8_thrownBy 6 rfl) zk_X8_123 zv_X8_isThree (c_X8_isThree (d - 1) (by omega) b I L abu) rfl ⟨_, _, rfl⟩ rfl rfl (Nat.le_of_ble_eq_true rfl) (by omega) (n := 13) rfl ?_
      show PW zm_X8_thrownBy d 13 [(0, .ref 0), (1, .int sh), (2, .int abu), (3, .int part)] [.int (f_X8_isThree I abu)] SH (I, L, z_R b) 0 0 _
      refine p_if_eq (z_dec zd_X8_thrownBy 7 rfl) (t := 23) (by decide) (n := 16) rfl (fun h13 => ?_) (fun h13 => ?_)
      · refine p_ldc2 (z_dec zd_X8_thrownBy 11 rfl) zq_X8_206 (n := 26) rfl ?_
        exact p_lret (z_dec zd_X8_thrownBy 12 rfl) rfl ⟨(by unfold f_X8_thrownBy; rw [if_pos h5, if_pos h13]), rfl, (z_3 (by unfold m_X8_thrownBy; rw [if_pos h5, if_pos h13]) rfl)⟩
      · refine p_iload_n (z_dec zd_X8_thrownBy 8 rfl) rfl 3 rfl (n := 17) rfl ?_
        refine q_callS (As := [.int part]) (rest := []) (z_dec zd_X8_thrownBy 9 rfl) zk_X8_201 zs_X8_isPart (c_X8_isPart (d - 1) (by omega) b I L part) rfl rfl (Nat.le_of_ble_eq_true rfl) (by omega) (n := 20) rfl ?_
        show PW zm_X8_thrownBy d 20 [(0, .ref 0), (1, .int sh), (2, .int abu), (3, .int part)] [.int (f_X8_isPart part)] SH (I, L, z_R b) 0 0 _
        refine p_if_ne (z_dec zd_X8_thrownBy 10 rfl) (t := 27) (by decide) (n := 23) rfl (fun h20 => ?_) (fun h20 => ?_)
        · refine p_aload_n (z_dec zd_X8_thrownBy 13 rfl) rfl 0 rfl (n := 28) rfl ?_
          refine q_getR (z_dec zd_X8_thrownBy 14 rfl) zf_X8_26 (i := 13) rfl rfl (n := 31) rfl ?_
          refine p_aload_n (z_dec zd_X8_thrownBy 15 rfl) rfl 0 rfl (n := 32) rfl ?_
          refine q_getR (z_dec zd_X8_thrownBy 16 rfl) zf_X8_10 (i := 1) rfl rfl (n := 35) rfl ?_
          refine p_iload_n (z_dec zd_X8_thrownBy 17 rfl) rfl 2 rfl (n := 36) rfl ?_
          refine p_bipush (z_dec zd_X8_thrownBy 18 rfl) (v := 100) (by decide) (n := 38) rfl ?_
          refine p_idiv (z_dec zd_X8_thrownBy 19 rfl) (by decide) (n := 39) rfl ?_
          refine p_iload_n (z_dec zd_X8_thrownBy 20 rfl) rfl 2 rfl (n := 40) rfl ?_
          refine p_bipush (z_dec zd_X8_thrownBy 21 rfl) (v := 10) (by decide) (n := 42) rfl ?_
          refine p_idiv (z_dec zd_X8_thrownBy 22 rfl) (by decide) (n := 43) rfl ?_
          refine p_bipush (z_dec zd_X8_thrownBy 23 rfl) (v := 10) (by decide) (n := 45) rfl ?_
          refine p_irem (z_dec zd_X8_thrownBy 24 rfl) (by decide) (n := 46) rfl ?_
          refine p_iload_n (z_dec zd_X8_thrownBy 25 rfl) rfl 2 rfl (n := 47) rfl ?_
          refine p_bipush (z_dec zd_X8_thrownBy 26 rfl) (v := 10) (by decide) (n := 49) rfl ?_
          refine p_irem (z_dec zd_X8_thrownBy 27 rfl) (by decide) (n := 50) rfl ?_
          refine q_callV (As := [.ref 1, .int (abu / 100), .int ((abu / 10) - (abu / 10) / 10 * 10), .int (abu - abu / 10 * 10)]) (rest := []) (z_dec zd_X8_thrownBy 28 rfl) zk_X8_126 zv_X1_oddsOn (c_X1_oddsOn (d - 1) (by omega) b I L sz hsz hs121 1 (z_Yd1 b) (abu / 100) ((abu / 10) - (abu / 10) / 10 * 10) (abu - abu / 10 * 10) np hnp hn10) rfl ⟨_, _, rfl⟩ rfl rfl (Nat.le_of_ble_eq_true rfl) (by omega) (n := 53) rfl ?_
          show PW zm_X8_thrownBy d 53 [(0, .ref 0), (1, .int sh), (2, .int abu), (3, .int part)] [.int (f_X1_oddsOn b I sz 1 (abu / 100) ((abu / 10) - (abu / 10) / 10 * 10) (abu - abu / 10 * 10))] SH ((m_X1_oddsOn b I sz 1 (abu / 100) ((abu / 10) - (abu / 10) / 10 * 10) (abu - abu / 10 * 10)), L, z_R b) 0 0 _
          refine p_istore (z_dec zd_X8_thrownBy 29 rfl) (lv2 := [(4, .int (f_X1_oddsOn b I sz 1 (abu / 100) ((abu / 10) - (abu / 10) / 10 * 10) (abu - abu / 10 * 10))), (0, .ref 0), (1, .int sh), (2, .int abu), (3, .int part)]) (by decide) rfl (n := 55) rfl ?_
          refine p_aload_n (z_dec zd_X8_thrownBy 30 rfl) rfl 1 rfl (n := 56) rfl ?_
          refine q_getR (z_dec zd_X8_thrownBy 31 rfl) zf_X8_67 (i := 41) rfl rfl (n := 59) rfl ?_
          refine p_iload_n (z_dec zd_X8_thrownBy 32 rfl) rfl 2 rfl (n := 60) rfl ?_
          refine q_aald (z_dec zd_X8_thrownBy 33 rfl) rfl (by decide) (sh.toNatClampNeg) hj_sh.1 hj_sh.2 (a := (42 + 2 * sh.toNatClampNeg)) (if_pos hj_sh.2) (n := 61) rfl ?_
          refine p_astore (z_dec zd_X8_thrownBy 34 rfl) (lv2 := [(5, .ref (42 + 2 * sh.toNatClampNeg)), (4, .int (f_X1_oddsOn b I sz 1 (abu / 100) ((abu / 10) - (abu / 10) / 10 * 10) (abu - abu / 10 * 10))), (0, .ref 0), (1, .int sh), (2, .int abu), (3, .int part)]) (by decide) rfl (n := 63) rfl ?_
          refine p_lconst (z_dec zd_X8_thrownBy 35 rfl) (v := 1) (by decide) (n := 64) rfl ?_
          refine p_lstore (z_dec zd_X8_thrownBy 36 rfl) (lv2 := [(6, .long 1), (5, .ref (42 + 2 * sh.toNatClampNeg)), (4, .int (f_X1_oddsOn b I sz 1 (abu / 100) ((abu / 10) - (abu / 10) / 10 * 10) (abu - abu / 10 * 10))), (0, .ref 0), (1, .int sh), (2, .int abu), (3, .int part)]) (by decide) rfl (n := 66) rfl ?_
          refine p_lconst (z_dec zd_X8_thrownBy 37 rfl) (v := 1) (by decide) (n := 67) rfl ?_
          refine p_lstore (z_dec zd_X8_thrownBy 38 rfl) (lv2 := [(8, .long 1), (6, .long 1), (5, .ref (42 + 2 * sh.toNatClampNeg)), (4, .int (f_X1_oddsOn b I sz 1 (abu / 100) ((abu / 10) - (abu / 10) / 10 * 10) (abu - abu / 10 * 10))), (0, .ref 0), (1, .int sh), (2, .int abu), (3, .int part)]) (by decide) rfl (n := 69) rfl ?_
          refine p_iconst (z_dec zd_X8_thrownBy 39 rfl) (v := 0) (by decide) (n := 70) rfl ?_
          refine p_istore (z_dec zd_X8_thrownBy 40 rfl) (lv2 := [(10, .int 0), (8, .long 1), (6, .long 1), (5, .ref (42 + 2 * sh.toNatClampNeg)), (4, .int (f_X1_oddsOn b I sz 1 (abu / 100) ((abu / 10) - (abu / 10) / 10 * 10) (abu - abu / 10 * 10))), (0, .ref 0), (1, .int sh), (2, .int abu), (3, .int part)]) (by decide) rfl (n := 72) rfl ?_
          have hL72 : ∀ (r72 t72 : Nat) (v6 : Int64) (v8 : Int64), t72 + r72 = 8 → PW zm_X8_thrownBy d 72 [(10, .int (nI t72)), (8, .long v8), (6, .long v6), (5, .ref (42 + 2 * sh.toNatClampNeg)), (4, .int (f_X1_oddsOn b I sz 1 (abu / 100) ((abu / 10) - (abu / 10) / 10 * 10) (abu - abu / 10 * 10))), (0, .ref 0), (1, .int sh), (2, .int abu), (3, .int part)] [] SH ((m_X1_oddsOn b I sz 1 (abu / 100) ((abu / 10) - (abu / 10) / 10 * 10) (abu - abu / 10 * 10)), L, z_R b) 0 0 (z_ret (some (.long (gx_X8_thrownBy_72 b I L sz sh abu part r72 t72 v6 v8))) ((m_X1_oddsOn b I sz 1 (abu / 100) ((abu / 10) - (abu / 10) / 10 * 10) (abu - abu / 10 * 10)), L, z_R b)) := by
            intro r72
            induction r72 with
            | zero =>
              intro t72 v6 v8 ht72
              refine p_iload (z_dec zd_X8_thrownBy 41 rfl) 0 rfl (n := 74) rfl ?_
              refine p_aload (z_dec zd_X8_thrownBy 42 rfl) 3 rfl (n := 76) rfl ?_
              refine q_getI (z_dec zd_X8_thrownBy 43 rfl) zf_X8_88 (by decide) (z_SfOf b _ hj_sh.2).1 (v := (nI (I (42 + 2 * sh.toNatClampNeg) 2).toNatClampNeg)) ((z_ooO _ _ _ _ _ _ _ _ _ (by omega) (Or.inl (by omega))).trans (hsl _ hj_sh.2).1) (n := 79) rfl ?_
              refine p_icmp_ge (z_dec zd_X8_thrownBy 44 rfl) (t := 164) (by decide) (n := 82) rfl (fun h79 => ?_) (fun h79 => ?_)
              · refine p_lload (z_dec zd_X8_thrownBy 87 rfl) 2 rfl (n := 166) rfl ?_
                refine p_lload (z_dec zd_X8_thrownBy 88 rfl) 2 rfl (n := 168) rfl ?_
                refine p_lload (z_dec zd_X8_thrownBy 89 rfl) 1 rfl (n := 170) rfl ?_
                refine p_ladd (z_dec zd_X8_thrownBy 90 rfl) (n := 171) rfl ?_
                refine p_iload_n (z_dec zd_X8_thrownBy 91 rfl) rfl 8 rfl (n := 172) rfl ?_
                refine q_callS (As := [.long v6, .long (v6 + v8), .int part]) (rest := []) (z_dec zd_X8_thrownBy 92 rfl) zk_X8_210 zs_X8_lowest (c_X8_lowest (d - 1) (by omega) b (m_X1_oddsOn b I sz 1 (abu / 100) ((abu / 10) - (abu / 10) / 10 * 10) (abu - abu / 10 * 10)) L v6 (v6 + v8) part) rfl rfl (Nat.le_of_ble_eq_true rfl) (by omega) (n := 175) rfl ?_
                show PW zm_X8_thrownBy d 175 [(10, .int (nI t72)), (8, .long v8), (6, .long v6), (5, .ref (42 + 2 * sh.toNatClampNeg)), (4, .int (f_X1_oddsOn b I sz 1 (abu / 100) ((abu / 10) - (abu / 10) / 10 * 10) (abu - abu / 10 * 10))), (0, .ref 0), (1, .int sh), (2, .int abu), (3, .int part)] [.long (f_X8_lowest v6 (v6 + v8) part)] SH ((m_X1_oddsOn b I sz 1 (abu / 100) ((abu / 10) - (abu / 10) / 10 * 10) (abu - abu / 10 * 10)), L, z_R b) 0 0 _
                exact p_lret (z_dec zd_X8_thrownBy 93 rfl) rfl ⟨(by (conv => rhs; unfold gx_X8_thrownBy_72); rw [if_pos h79]), rfl, rfl⟩
              · refine p_iload (z_dec zd_X8_thrownBy 45 rfl) 0 rfl (n := 84) rfl ?_
                refine p_bipush (z_dec zd_X8_thrownBy 46 rfl) (v := 8) (by decide) (n := 86) rfl ?_
                refine p_icmp_ge (z_dec zd_X8_thrownBy 47 rfl) (t := 164) (by decide) (n := 89) rfl (fun h86 => ?_) (fun h86 => ?_)
                · refine p_lload (z_dec zd_X8_thrownBy 87 rfl) 2 rfl (n := 166) rfl ?_
                  refine p_lload (z_dec zd_X8_thrownBy 88 rfl) 2 rfl (n := 168) rfl ?_
                  refine p_lload (z_dec zd_X8_thrownBy 89 rfl) 1 rfl (n := 170) rfl ?_
                  refine p_ladd (z_dec zd_X8_thrownBy 90 rfl) (n := 171) rfl ?_
                  refine p_iload_n (z_dec zd_X8_thrownBy 91 rfl) rfl 8 rfl (n := 172) rfl ?_
                  refine q_callS (As := [.long v6, .long (v6 + v8), .int part]) (rest := []) (z_dec zd_X8_thrownBy 92 rfl) zk_X8_210 zs_X8_lowest (c_X8_lowest (d - 1) (by omega) b (m_X1_oddsOn b I sz 1 (abu / 100) ((abu / 10) - (abu / 10) / 10 * 10) (abu - abu / 10 * 10)) L v6 (v6 + v8) part) rfl rfl (Nat.le_of_ble_eq_true rfl) (by omega) (n := 175) rfl ?_
                  show PW zm_X8_thrownBy d 175 [(10, .int (nI t72)), (8, .long v8), (6, .long v6), (5, .ref (42 + 2 * sh.toNatClampNeg)), (4, .int (f_X1_oddsOn b I sz 1 (abu / 100) ((abu / 10) - (abu / 10) / 10 * 10) (abu - abu / 10 * 10))), (0, .ref 0), (1, .int sh), (2, .int abu), (3, .int part)] [.long (f_X8_lowest v6 (v6 + v8) part)] SH ((m_X1_oddsOn b I sz 1 (abu / 100) ((abu / 10) - (abu / 10) / 10 * 10) (abu - abu / 10 * 10)), L, z_R b) 0 0 _
                  exact p_lret (z_dec zd_X8_thrownBy 93 rfl) rfl ⟨(by (conv => rhs; unfold gx_X8_thrownBy_72); rw [if_neg h79]), rfl, rfl⟩
                · exact absurd (z_nge (a := 8) h86) (by omega)
            | succ r72 ih72 =>
              intro t72 v6 v8 ht72
              refine p_iload (z_dec zd_X8_thrownBy 41 rfl) 0 rfl (n := 74) rfl ?_
              refine p_aload (z_dec zd_X8_thrownBy 42 rfl) 3 rfl (n := 76) rfl ?_
              refine q_getI (z_dec zd_X8_thrownBy 43 rfl) zf_X8_88 (by decide) (z_SfOf b _ hj_sh.2).1 (v := (nI (I (42 + 2 * sh.toNatClampNeg) 2).toNatClampNeg)) ((z_ooO _ _ _ _ _ _ _ _ _ (by omega) (Or.inl (by omega))).trans (hsl _ hj_sh.2).1) (n := 79) rfl ?_
              refine p_icmp_ge (z_dec zd_X8_thrownBy 44 rfl) (t := 164) (by decide) (n := 82) rfl (fun h79 => ?_) (fun h79 => ?_)
              · refine p_lload (z_dec zd_X8_thrownBy 87 rfl) 2 rfl (n := 166) rfl ?_
                refine p_lload (z_dec zd_X8_thrownBy 88 rfl) 2 rfl (n := 168) rfl ?_
                refine p_lload (z_dec zd_X8_thrownBy 89 rfl) 1 rfl (n := 170) rfl ?_
                refine p_ladd (z_dec zd_X8_thrownBy 90 rfl) (n := 171) rfl ?_
                refine p_iload_n (z_dec zd_X8_thrownBy 91 rfl) rfl 8 rfl (n := 172) rfl ?_
                refine q_callS (As := [.long v6, .long (v6 + v8), .int part]) (rest := []) (z_dec zd_X8_thrownBy 92 rfl) zk_X8_210 zs_X8_lowest (c_X8_lowest (d - 1) (by omega) b (m_X1_oddsOn b I sz 1 (abu / 100) ((abu / 10) - (abu / 10) / 10 * 10) (abu - abu / 10 * 10)) L v6 (v6 + v8) part) rfl rfl (Nat.le_of_ble_eq_true rfl) (by omega) (n := 175) rfl ?_
                show PW zm_X8_thrownBy d 175 [(10, .int (nI t72)), (8, .long v8), (6, .long v6), (5, .ref (42 + 2 * sh.toNatClampNeg)), (4, .int (f_X1_oddsOn b I sz 1 (abu / 100) ((abu / 10) - (abu / 10) / 10 * 10) (abu - abu / 10 * 10))), (0, .ref 0), (1, .int sh), (2, .int abu), (3, .int part)] [.long (f_X8_lowest v6 (v6 + v8) part)] SH ((m_X1_oddsOn b I sz 1 (abu / 100) ((abu / 10) - (abu / 10) / 10 * 10) (abu - abu / 10 * 10)), L, z_R b) 0 0 _
                exact p_lret (z_dec zd_X8_thrownBy 93 rfl) rfl ⟨(by (conv => rhs; unfold gx_X8_thrownBy_72); rw [if_pos h79]), rfl, rfl⟩
              · refine p_iload (z_dec zd_X8_thrownBy 45 rfl) 0 rfl (n := 84) rfl ?_
                refine p_bipush (z_dec zd_X8_thrownBy 46 rfl) (v := 8) (by decide) (n := 86) rfl ?_
                refine p_icmp_ge (z_dec zd_X8_thrownBy 47 rfl) (t := 164) (by decide) (n := 89) rfl (fun h86 => ?_) (fun h86 => ?_)
                · exact absurd (z_ge (a := 8) h86) (by omega)
                · have hx72 : t72 < 8 := by omega
                  refine p_aload (z_dec zd_X8_thrownBy 48 rfl) 3 rfl (n := 91) rfl ?_
                  refine p_iload (z_dec zd_X8_thrownBy 49 rfl) 0 rfl (n := 93) rfl ?_
                  refine q_callV (As := [.int (nI t72)]) (rest := []) (z_dec zd_X8_thrownBy 50 rfl) zk_X8_95 zv_X4_valueAt (c_X4_valueAt (d - 1) (by omega) b (m_X1_oddsOn b I sz 1 (abu / 100) ((abu / 10) - (abu / 10) / 10 * 10) (abu - abu / 10 * 10)) L (42 + 2 * sh.toNatClampNeg) (z_SfOf b _ hj_sh.2) ((I (42 + 2 * sh.toNatClampNeg) 2).toNatClampNeg) ((z_ooO _ _ _ _ _ _ _ _ _ (by omega) (Or.inl (by omega))).trans (hsl _ hj_sh.2).1) ((hsl _ hj_sh.2).2) (nI t72)) (z_SfOf b _ hj_sh.2).1 ⟨_, _, rfl⟩ rfl rfl (Nat.le_of_ble_eq_true rfl) (by omega) (n := 96) rfl ?_
                  show PW zm_X8_thrownBy d 96 [(10, .int (nI t72)), (8, .long v8), (6, .long v6), (5, .ref (42 + 2 * sh.toNatClampNeg)), (4, .int (f_X1_oddsOn b I sz 1 (abu / 100) ((abu / 10) - (abu / 10) / 10 * 10) (abu - abu / 10 * 10))), (0, .ref 0), (1, .int sh), (2, .int abu), (3, .int part)] [.long (f_X4_valueAt (m_X1_oddsOn b I sz 1 (abu / 100) ((abu / 10) - (abu / 10) / 10 * 10) (abu - abu / 10 * 10)) L (42 + 2 * sh.toNatClampNeg) (nI t72))] SH ((m_X1_oddsOn b I sz 1 (abu / 100) ((abu / 10) - (abu / 10) / 10 * 10) (abu - abu / 10 * 10)), L, z_R b) 0 0 _
                  refine p_lstore (z_dec zd_X8_thrownBy 51 rfl) (lv2 := [(11, .long (f_X4_valueAt (m_X1_oddsOn b I sz 1 (abu / 100) ((abu / 10) - (abu / 10) / 10 * 10) (abu - abu / 10 * 10)) L (42 + 2 * sh.toNatClampNeg) (nI t72))), (10, .int (nI t72)), (8, .long v8), (6, .long v6), (5, .ref (42 + 2 * sh.toNatClampNeg)), (4, .int (f_X1_oddsOn b I sz 1 (abu / 100) ((abu / 10) - (abu / 10) / 10 * 10) (abu - abu / 10 * 10))), (0, .ref 0), (1, .int sh), (2, .int abu), (3, .int part)]) (by decide) rfl (n := 98) rfl ?_
                  refine p_lload (z_dec zd_X8_thrownBy 52 rfl) 0 rfl (n := 100) rfl ?_
                  refine p_lconst (z_dec zd_X8_thrownBy 53 rfl) (v := 0) (by decide) (n := 101) rfl ?_
                  refine p_lcmp (z_dec zd_X8_thrownBy 54 rfl) (n := 102) rfl ?_
                  refine p_if_eq (z_dec zd_X8_thrownBy 55 rfl) (t := 115) (by decide) (n := 105) rfl (fun h102 => ?_) (fun h102 => ?_)
                  · refine p_lload (z_dec zd_X8_thrownBy 61 rfl) 3 rfl (n := 117) rfl ?_
                    refine p_lload (z_dec zd_X8_thrownBy 62 rfl) 0 rfl (n := 119) rfl ?_
                    refine p_lconst (z_dec zd_X8_thrownBy 63 rfl) (v := 1) (by decide) (n := 120) rfl ?_
                    refine p_lcmp (z_dec zd_X8_thrownBy 64 rfl) (n := 121) rfl ?_
                    refine p_if_ne (z_dec zd_X8_thrownBy 65 rfl) (t := 128) (by decide) (n := 124) rfl (fun h121 => ?_) (fun h121 => ?_)
                    · refine p_ldc2 (z_dec zd_X8_thrownBy 68 rfl) zq_X8_208 (n := 131) rfl ?_
                      refine p_lmul (z_dec zd_X8_thrownBy 69 rfl) (n := 132) rfl ?_
                      refine p_lstore (z_dec zd_X8_thrownBy 70 rfl) (lv2 := [(6, .long (v6 * 11)), (11, .long (f_X4_valueAt (m_X1_oddsOn b I sz 1 (abu / 100) ((abu / 10) - (abu / 10) / 10 * 10) (abu - abu / 10 * 10)) L (42 + 2 * sh.toNatClampNeg) (nI t72))), (10, .int (nI t72)), (8, .long v8), (5, .ref (42 + 2 * sh.toNatClampNeg)), (4, .int (f_X1_oddsOn b I sz 1 (abu / 100) ((abu / 10) - (abu / 10) / 10 * 10) (abu - abu / 10 * 10))), (0, .ref 0), (1, .int sh), (2, .int abu), (3, .int part)]) (by decide) rfl (n := 134) rfl ?_
                      refine p_lload (z_dec zd_X8_thrownBy 71 rfl) 3 rfl (n := 136) rfl ?_
                      refine p_lload (z_dec zd_X8_thrownBy 72 rfl) 1 rfl (n := 138) rfl ?_
                      refine p_lconst (z_dec zd_X8_thrownBy 73 rfl) (v := 1) (by decide) (n := 139) rfl ?_
                      refine p_lcmp (z_dec zd_X8_thrownBy 74 rfl) (n := 140) rfl ?_
                      refine p_if_ne (z_dec zd_X8_thrownBy 75 rfl) (t := 149) (by decide) (n := 143) rfl (fun h140 => ?_) (fun h140 => ?_)
                      · refine p_bipush (z_dec zd_X8_thrownBy 79 rfl) (v := 12) (by decide) (n := 151) rfl ?_
                        refine p_iload (z_dec zd_X8_thrownBy 80 rfl) 5 rfl (n := 153) rfl ?_
                        refine p_isub (z_dec zd_X8_thrownBy 81 rfl) (n := 154) rfl ?_
                        refine p_i2l (z_dec zd_X8_thrownBy 82 rfl) (n := 155) rfl ?_
                        refine p_lmul (z_dec zd_X8_thrownBy 83 rfl) (n := 156) rfl ?_
                        refine p_lstore (z_dec zd_X8_thrownBy 84 rfl) (lv2 := [(8, .long (v8 * ((12 - (f_X1_oddsOn b I sz 1 (abu / 100) ((abu / 10) - (abu / 10) / 10 * 10) (abu - abu / 10 * 10))).toInt64))), (6, .long (v6 * 11)), (11, .long (f_X4_valueAt (m_X1_oddsOn b I sz 1 (abu / 100) ((abu / 10) - (abu / 10) / 10 * 10) (abu - abu / 10 * 10)) L (42 + 2 * sh.toNatClampNeg) (nI t72))), (10, .int (nI t72)), (5, .ref (42 + 2 * sh.toNatClampNeg)), (4, .int (f_X1_oddsOn b I sz 1 (abu / 100) ((abu / 10) - (abu / 10) / 10 * 10) (abu - abu / 10 * 10))), (0, .ref 0), (1, .int sh), (2, .int abu), (3, .int part)]) (by decide) rfl (n := 158) rfl ?_
                        refine p_iinc (z_dec zd_X8_thrownBy 85 rfl) 3 rfl (v := (nI (t72 + 1))) (nI_1 _) (lv2 := [(10, .int (nI (t72 + 1))), (8, .long (v8 * ((12 - (f_X1_oddsOn b I sz 1 (abu / 100) ((abu / 10) - (abu / 10) / 10 * 10) (abu - abu / 10 * 10))).toInt64))), (6, .long (v6 * 11)), (11, .long (f_X4_valueAt (m_X1_oddsOn b I sz 1 (abu / 100) ((abu / 10) - (abu / 10) / 10 * 10) (abu - abu / 10 * 10)) L (42 + 2 * sh.toNatClampNeg) (nI t72))), (5, .ref (42 + 2 * sh.toNatClampNeg)), (4, .int (f_X1_oddsOn b I sz 1 (abu / 100) ((abu / 10) - (abu / 10) / 10 * 10) (abu - abu / 10 * 10))), (0, .ref 0), (1, .int sh), (2, .int abu), (3, .int part)]) (by decide) rfl (n := 161) rfl ?_
                        refine p_goto (z_dec zd_X8_thrownBy 86 rfl) (t := 72) (by decide) ?_
                        refine z_sub (lv' := [(10, .int (nI (t72 + 1))), (8, .long (v8 * ((12 - (f_X1_oddsOn b I sz 1 (abu / 100) ((abu / 10) - (abu / 10) / 10 * 10) (abu - abu / 10 * 10))).toInt64))), (6, .long (v6 * 11)), (5, .ref (42 + 2 * sh.toNatClampNeg)), (4, .int (f_X1_oddsOn b I sz 1 (abu / 100) ((abu / 10) - (abu / 10) / 10 * 10) (abu - abu / 10 * 10))), (0, .ref 0), (1, .int sh), (2, .int abu), (3, .int part)]) [0, 1, 2, 4, 5, 6, 7, 8, 9] rfl ?_
                        rw [show gx_X8_thrownBy_72 b I L sz sh abu part (r72 + 1) t72 v6 v8 = gx_X8_thrownBy_72 b I L sz sh abu part r72 (t72 + 1) (v6 * 11) (v8 * ((12 - (f_X1_oddsOn b I sz 1 (abu / 100) ((abu / 10) - (abu / 10) / 10 * 10) (abu - abu / 10 * 10))).toInt64)) from by (conv => lhs; unfold gx_X8_thrownBy_72); rw [if_neg h79, if_pos h102, if_neg h121, if_neg h140]]
                        exact ih72 (t72 + 1) (v6 * 11) (v8 * ((12 - (f_X1_oddsOn b I sz 1 (abu / 100) ((abu / 10) - (abu / 10) / 10 * 10) (abu - abu / 10 * 10))).toInt64)) (by omega)
                      · refine p_iload (z_dec zd_X8_thrownBy 76 rfl) 5 rfl (n := 145) rfl ?_
                        refine p_i2l (z_dec zd_X8_thrownBy 77 rfl) (n := 146) rfl ?_
                        refine p_goto (z_dec zd_X8_thrownBy 78 rfl) (t := 155) (by decide) ?_
                        refine p_lmul (z_dec zd_X8_thrownBy 83 rfl) (n := 156) rfl ?_
                        refine p_lstore (z_dec zd_X8_thrownBy 84 rfl) (lv2 := [(8, .long (v8 * ((f_X1_oddsOn b I sz 1 (abu / 100) ((abu / 10) - (abu / 10) / 10 * 10) (abu - abu / 10 * 10)).toInt64))), (6, .long (v6 * 11)), (11, .long (f_X4_valueAt (m_X1_oddsOn b I sz 1 (abu / 100) ((abu / 10) - (abu / 10) / 10 * 10) (abu - abu / 10 * 10)) L (42 + 2 * sh.toNatClampNeg) (nI t72))), (10, .int (nI t72)), (5, .ref (42 + 2 * sh.toNatClampNeg)), (4, .int (f_X1_oddsOn b I sz 1 (abu / 100) ((abu / 10) - (abu / 10) / 10 * 10) (abu - abu / 10 * 10))), (0, .ref 0), (1, .int sh), (2, .int abu), (3, .int part)]) (by decide) rfl (n := 158) rfl ?_
                        refine p_iinc (z_dec zd_X8_thrownBy 85 rfl) 3 rfl (v := (nI (t72 + 1))) (nI_1 _) (lv2 := [(10, .int (nI (t72 + 1))), (8, .long (v8 * ((f_X1_oddsOn b I sz 1 (abu / 100) ((abu / 10) - (abu / 10) / 10 * 10) (abu - abu / 10 * 10)).toInt64))), (6, .long (v6 * 11)), (11, .long (f_X4_valueAt (m_X1_oddsOn b I sz 1 (abu / 100) ((abu / 10) - (abu / 10) / 10 * 10) (abu - abu / 10 * 10)) L (42 + 2 * sh.toNatClampNeg) (nI t72))), (5, .ref (42 + 2 * sh.toNatClampNeg)), (4, .int (f_X1_oddsOn b I sz 1 (abu / 100) ((abu / 10) - (abu / 10) / 10 * 10) (abu - abu / 10 * 10))), (0, .ref 0), (1, .int sh), (2, .int abu), (3, .int part)]) (by decide) rfl (n := 161) rfl ?_
                        refine p_goto (z_dec zd_X8_thrownBy 86 rfl) (t := 72) (by decide) ?_
                        refine z_sub (lv' := [(10, .int (nI (t72 + 1))), (8, .long (v8 * ((f_X1_oddsOn b I sz 1 (abu / 100) ((abu / 10) - (abu / 10) / 10 * 10) (abu - abu / 10 * 10)).toInt64))), (6, .long (v6 * 11)), (5, .ref (42 + 2 * sh.toNatClampNeg)), (4, .int (f_X1_oddsOn b I sz 1 (abu / 100) ((abu / 10) - (abu / 10) / 10 * 10) (abu - abu / 10 * 10))), (0, .ref 0), (1, .int sh), (2, .int abu), (3, .int part)]) [0, 1, 2, 4, 5, 6, 7, 8, 9] rfl ?_
                        rw [show gx_X8_thrownBy_72 b I L sz sh abu part (r72 + 1) t72 v6 v8 = gx_X8_thrownBy_72 b I L sz sh abu part r72 (t72 + 1) (v6 * 11) (v8 * ((f_X1_oddsOn b I sz 1 (abu / 100) ((abu / 10) - (abu / 10) / 10 * 10) (abu - abu / 10 * 10)).toInt64)) from by (conv => lhs; unfold gx_X8_thrownBy_72); rw [if_neg h79, if_pos h102, if_neg h121, if_pos h140]]
                        exact ih72 (t72 + 1) (v6 * 11) (v8 * ((f_X1_oddsOn b I sz 1 (abu / 100) ((abu / 10) - (abu / 10) / 10 * 10) (abu - abu / 10 * 10)).toInt64)) (by omega)
                    · refine p_lconst (z_dec zd_X8_thrownBy 66 rfl) (v := 1) (by decide) (n := 125) rfl ?_
                      refine p_goto (z_dec zd_X8_thrownBy 67 rfl) (t := 131) (by decide) ?_
                      refine p_lmul (z_dec zd_X8_thrownBy 69 rfl) (n := 132) rfl ?_
                      refine p_lstore (z_dec zd_X8_thrownBy 70 rfl) (lv2 := [(6, .long (v6 * 1)), (11, .long (f_X4_valueAt (m_X1_oddsOn b I sz 1 (abu / 100) ((abu / 10) - (abu / 10) / 10 * 10) (abu - abu / 10 * 10)) L (42 + 2 * sh.toNatClampNeg) (nI t72))), (10, .int (nI t72)), (8, .long v8), (5, .ref (42 + 2 * sh.toNatClampNeg)), (4, .int (f_X1_oddsOn b I sz 1 (abu / 100) ((abu / 10) - (abu / 10) / 10 * 10) (abu - abu / 10 * 10))), (0, .ref 0), (1, .int sh), (2, .int abu), (3, .int part)]) (by decide) rfl (n := 134) rfl ?_
                      refine p_lload (z_dec zd_X8_thrownBy 71 rfl) 3 rfl (n := 136) rfl ?_
                      refine p_lload (z_dec zd_X8_thrownBy 72 rfl) 1 rfl (n := 138) rfl ?_
                      refine p_lconst (z_dec zd_X8_thrownBy 73 rfl) (v := 1) (by decide) (n := 139) rfl ?_
                      refine p_lcmp (z_dec zd_X8_thrownBy 74 rfl) (n := 140) rfl ?_
                      refine p_if_ne (z_dec zd_X8_thrownBy 75 rfl) (t := 149) (by decide) (n := 143) rfl (fun h140 => ?_) (fun h140 => ?_)
                      · refine p_bipush (z_dec zd_X8_thrownBy 79 rfl) (v := 12) (by decide) (n := 151) rfl ?_
                        refine p_iload (z_dec zd_X8_thrownBy 80 rfl) 5 rfl (n := 153) rfl ?_
                        refine p_isub (z_dec zd_X8_thrownBy 81 rfl) (n := 154) rfl ?_
                        refine p_i2l (z_dec zd_X8_thrownBy 82 rfl) (n := 155) rfl ?_
                        refine p_lmul (z_dec zd_X8_thrownBy 83 rfl) (n := 156) rfl ?_
                        refine p_lstore (z_dec zd_X8_thrownBy 84 rfl) (lv2 := [(8, .long (v8 * ((12 - (f_X1_oddsOn b I sz 1 (abu / 100) ((abu / 10) - (abu / 10) / 10 * 10) (abu - abu / 10 * 10))).toInt64))), (6, .long (v6 * 1)), (11, .long (f_X4_valueAt (m_X1_oddsOn b I sz 1 (abu / 100) ((abu / 10) - (abu / 10) / 10 * 10) (abu - abu / 10 * 10)) L (42 + 2 * sh.toNatClampNeg) (nI t72))), (10, .int (nI t72)), (5, .ref (42 + 2 * sh.toNatClampNeg)), (4, .int (f_X1_oddsOn b I sz 1 (abu / 100) ((abu / 10) - (abu / 10) / 10 * 10) (abu - abu / 10 * 10))), (0, .ref 0), (1, .int sh), (2, .int abu), (3, .int part)]) (by decide) rfl (n := 158) rfl ?_
                        refine p_iinc (z_dec zd_X8_thrownBy 85 rfl) 3 rfl (v := (nI (t72 + 1))) (nI_1 _) (lv2 := [(10, .int (nI (t72 + 1))), (8, .long (v8 * ((12 - (f_X1_oddsOn b I sz 1 (abu / 100) ((abu / 10) - (abu / 10) / 10 * 10) (abu - abu / 10 * 10))).toInt64))), (6, .long (v6 * 1)), (11, .long (f_X4_valueAt (m_X1_oddsOn b I sz 1 (abu / 100) ((abu / 10) - (abu / 10) / 10 * 10) (abu - abu / 10 * 10)) L (42 + 2 * sh.toNatClampNeg) (nI t72))), (5, .ref (42 + 2 * sh.toNatClampNeg)), (4, .int (f_X1_oddsOn b I sz 1 (abu / 100) ((abu / 10) - (abu / 10) / 10 * 10) (abu - abu / 10 * 10))), (0, .ref 0), (1, .int sh), (2, .int abu), (3, .int part)]) (by decide) rfl (n := 161) rfl ?_
                        refine p_goto (z_dec zd_X8_thrownBy 86 rfl) (t := 72) (by decide) ?_
                        refine z_sub (lv' := [(10, .int (nI (t72 + 1))), (8, .long (v8 * ((12 - (f_X1_oddsOn b I sz 1 (abu / 100) ((abu / 10) - (abu / 10) / 10 * 10) (abu - abu / 10 * 10))).toInt64))), (6, .long (v6 * 1)), (5, .ref (42 + 2 * sh.toNatClampNeg)), (4, .int (f_X1_oddsOn b I sz 1 (abu / 100) ((abu / 10) - (abu / 10) / 10 * 10) (abu - abu / 10 * 10))), (0, .ref 0), (1, .int sh), (2, .int abu), (3, .int part)]) [0, 1, 2, 4, 5, 6, 7, 8, 9] rfl ?_
                        rw [show gx_X8_thrownBy_72 b I L sz sh abu part (r72 + 1) t72 v6 v8 = gx_X8_thrownBy_72 b I L sz sh abu part r72 (t72 + 1) (v6 * 1) (v8 * ((12 - (f_X1_oddsOn b I sz 1 (abu / 100) ((abu / 10) - (abu / 10) / 10 * 10) (abu - abu / 10 * 10))).toInt64)) from by (conv => lhs; unfold gx_X8_thrownBy_72); rw [if_neg h79, if_pos h102, if_pos h121, if_neg h140]]
                        exact ih72 (t72 + 1) (v6 * 1) (v8 * ((12 - (f_X1_oddsOn b I sz 1 (abu / 100) ((abu / 10) - (abu / 10) / 10 * 10) (abu - abu / 10 * 10))).toInt64)) (by omega)
                      · refine p_iload (z_dec zd_X8_thrownBy 76 rfl) 5 rfl (n := 145) rfl ?_
                        refine p_i2l (z_dec zd_X8_thrownBy 77 rfl) (n := 146) rfl ?_
                        refine p_goto (z_dec zd_X8_thrownBy 78 rfl) (t := 155) (by decide) ?_
                        refine p_lmul (z_dec zd_X8_thrownBy 83 rfl) (n := 156) rfl ?_
                        refine p_lstore (z_dec zd_X8_thrownBy 84 rfl) (lv2 := [(8, .long (v8 * ((f_X1_oddsOn b I sz 1 (abu / 100) ((abu / 10) - (abu / 10) / 10 * 10) (abu - abu / 10 * 10)).toInt64))), (6, .long (v6 * 1)), (11, .long (f_X4_valueAt (m_X1_oddsOn b I sz 1 (abu / 100) ((abu / 10) - (abu / 10) / 10 * 10) (abu - abu / 10 * 10)) L (42 + 2 * sh.toNatClampNeg) (nI t72))), (10, .int (nI t72)), (5, .ref (42 + 2 * sh.toNatClampNeg)), (4, .int (f_X1_oddsOn b I sz 1 (abu / 100) ((abu / 10) - (abu / 10) / 10 * 10) (abu - abu / 10 * 10))), (0, .ref 0), (1, .int sh), (2, .int abu), (3, .int part)]) (by decide) rfl (n := 158) rfl ?_
                        refine p_iinc (z_dec zd_X8_thrownBy 85 rfl) 3 rfl (v := (nI (t72 + 1))) (nI_1 _) (lv2 := [(10, .int (nI (t72 + 1))), (8, .long (v8 * ((f_X1_oddsOn b I sz 1 (abu / 100) ((abu / 10) - (abu / 10) / 10 * 10) (abu - abu / 10 * 10)).toInt64))), (6, .long (v6 * 1)), (11, .long (f_X4_valueAt (m_X1_oddsOn b I sz 1 (abu / 100) ((abu / 10) - (abu / 10) / 10 * 10) (abu - abu / 10 * 10)) L (42 + 2 * sh.toNatClampNeg) (nI t72))), (5, .ref (42 + 2 * sh.toNatClampNeg)), (4, .int (f_X1_oddsOn b I sz 1 (abu / 100) ((abu / 10) - (abu / 10) / 10 * 10) (abu - abu / 10 * 10))), (0, .ref 0), (1, .int sh), (2, .int abu), (3, .int part)]) (by decide) rfl (n := 161) rfl ?_
                        refine p_goto (z_dec zd_X8_thrownBy 86 rfl) (t := 72) (by decide) ?_
                        refine z_sub (lv' := [(10, .int (nI (t72 + 1))), (8, .long (v8 * ((f_X1_oddsOn b I sz 1 (abu / 100) ((abu / 10) - (abu / 10) / 10 * 10) (abu - abu / 10 * 10)).toInt64))), (6, .long (v6 * 1)), (5, .ref (42 + 2 * sh.toNatClampNeg)), (4, .int (f_X1_oddsOn b I sz 1 (abu / 100) ((abu / 10) - (abu / 10) / 10 * 10) (abu - abu / 10 * 10))), (0, .ref 0), (1, .int sh), (2, .int abu), (3, .int part)]) [0, 1, 2, 4, 5, 6, 7, 8, 9] rfl ?_
                        rw [show gx_X8_thrownBy_72 b I L sz sh abu part (r72 + 1) t72 v6 v8 = gx_X8_thrownBy_72 b I L sz sh abu part r72 (t72 + 1) (v6 * 1) (v8 * ((f_X1_oddsOn b I sz 1 (abu / 100) ((abu / 10) - (abu / 10) / 10 * 10) (abu - abu / 10 * 10)).toInt64)) from by (conv => lhs; unfold gx_X8_thrownBy_72); rw [if_neg h79, if_pos h102, if_pos h121, if_pos h140]]
                        exact ih72 (t72 + 1) (v6 * 1) (v8 * ((f_X1_oddsOn b I sz 1 (abu / 100) ((abu / 10) - (abu / 10) / 10 * 10) (abu - abu / 10 * 10)).toInt64)) (by omega)
                  · refine p_lload (z_dec zd_X8_thrownBy 56 rfl) 0 rfl (n := 107) rfl ?_
                    refine p_lconst (z_dec zd_X8_thrownBy 57 rfl) (v := 1) (by decide) (n := 108) rfl ?_
                    refine p_lcmp (z_dec zd_X8_thrownBy 58 rfl) (n := 109) rfl ?_
                    refine p_if_eq (z_dec zd_X8_thrownBy 59 rfl) (t := 115) (by decide) (n := 112) rfl (fun h109 => ?_) (fun h109 => ?_)
                    · refine p_lload (z_dec zd_X8_thrownBy 61 rfl) 3 rfl (n := 117) rfl ?_
                      refine p_lload (z_dec zd_X8_thrownBy 62 rfl) 0 rfl (n := 119) rfl ?_
                      refine p_lconst (z_dec zd_X8_thrownBy 63 rfl) (v := 1) (by decide) (n := 120) rfl ?_
                      refine p_lcmp (z_dec zd_X8_thrownBy 64 rfl) (n := 121) rfl ?_
                      refine p_if_ne (z_dec zd_X8_thrownBy 65 rfl) (t := 128) (by decide) (n := 124) rfl (fun h121 => ?_) (fun h121 => ?_)
                      · refine p_ldc2 (z_dec zd_X8_thrownBy 68 rfl) zq_X8_208 (n := 131) rfl ?_
                        refine p_lmul (z_dec zd_X8_thrownBy 69 rfl) (n := 132) rfl ?_
                        refine p_lstore (z_dec zd_X8_thrownBy 70 rfl) (lv2 := [(6, .long (v6 * 11)), (11, .long (f_X4_valueAt (m_X1_oddsOn b I sz 1 (abu / 100) ((abu / 10) - (abu / 10) / 10 * 10) (abu - abu / 10 * 10)) L (42 + 2 * sh.toNatClampNeg) (nI t72))), (10, .int (nI t72)), (8, .long v8), (5, .ref (42 + 2 * sh.toNatClampNeg)), (4, .int (f_X1_oddsOn b I sz 1 (abu / 100) ((abu / 10) - (abu / 10) / 10 * 10) (abu - abu / 10 * 10))), (0, .ref 0), (1, .int sh), (2, .int abu), (3, .int part)]) (by decide) rfl (n := 134) rfl ?_
                        refine p_lload (z_dec zd_X8_thrownBy 71 rfl) 3 rfl (n := 136) rfl ?_
                        refine p_lload (z_dec zd_X8_thrownBy 72 rfl) 1 rfl (n := 138) rfl ?_
                        refine p_lconst (z_dec zd_X8_thrownBy 73 rfl) (v := 1) (by decide) (n := 139) rfl ?_
                        refine p_lcmp (z_dec zd_X8_thrownBy 74 rfl) (n := 140) rfl ?_
                        refine p_if_ne (z_dec zd_X8_thrownBy 75 rfl) (t := 149) (by decide) (n := 143) rfl (fun h140 => ?_) (fun h140 => ?_)
                        · refine p_bipush (z_dec zd_X8_thrownBy 79 rfl) (v := 12) (by decide) (n := 151) rfl ?_
                          refine p_iload (z_dec zd_X8_thrownBy 80 rfl) 5 rfl (n := 153) rfl ?_
                          refine p_isub (z_dec zd_X8_thrownBy 81 rfl) (n := 154) rfl ?_
                          refine p_i2l (z_dec zd_X8_thrownBy 82 rfl) (n := 155) rfl ?_
                          refine p_lmul (z_dec zd_X8_thrownBy 83 rfl) (n := 156) rfl ?_
                          refine p_lstore (z_dec zd_X8_thrownBy 84 rfl) (lv2 := [(8, .long (v8 * ((12 - (f_X1_oddsOn b I sz 1 (abu / 100) ((abu / 10) - (abu / 10) / 10 * 10) (abu - abu / 10 * 10))).toInt64))), (6, .long (v6 * 11)), (11, .long (f_X4_valueAt (m_X1_oddsOn b I sz 1 (abu / 100) ((abu / 10) - (abu / 10) / 10 * 10) (abu - abu / 10 * 10)) L (42 + 2 * sh.toNatClampNeg) (nI t72))), (10, .int (nI t72)), (5, .ref (42 + 2 * sh.toNatClampNeg)), (4, .int (f_X1_oddsOn b I sz 1 (abu / 100) ((abu / 10) - (abu / 10) / 10 * 10) (abu - abu / 10 * 10))), (0, .ref 0), (1, .int sh), (2, .int abu), (3, .int part)]) (by decide) rfl (n := 158) rfl ?_
                          refine p_iinc (z_dec zd_X8_thrownBy 85 rfl) 3 rfl (v := (nI (t72 + 1))) (nI_1 _) (lv2 := [(10, .int (nI (t72 + 1))), (8, .long (v8 * ((12 - (f_X1_oddsOn b I sz 1 (abu / 100) ((abu / 10) - (abu / 10) / 10 * 10) (abu - abu / 10 * 10))).toInt64))), (6, .long (v6 * 11)), (11, .long (f_X4_valueAt (m_X1_oddsOn b I sz 1 (abu / 100) ((abu / 10) - (abu / 10) / 10 * 10) (abu - abu / 10 * 10)) L (42 + 2 * sh.toNatClampNeg) (nI t72))), (5, .ref (42 + 2 * sh.toNatClampNeg)), (4, .int (f_X1_oddsOn b I sz 1 (abu / 100) ((abu / 10) - (abu / 10) / 10 * 10) (abu - abu / 10 * 10))), (0, .ref 0), (1, .int sh), (2, .int abu), (3, .int part)]) (by decide) rfl (n := 161) rfl ?_
                          refine p_goto (z_dec zd_X8_thrownBy 86 rfl) (t := 72) (by decide) ?_
                          refine z_sub (lv' := [(10, .int (nI (t72 + 1))), (8, .long (v8 * ((12 - (f_X1_oddsOn b I sz 1 (abu / 100) ((abu / 10) - (abu / 10) / 10 * 10) (abu - abu / 10 * 10))).toInt64))), (6, .long (v6 * 11)), (5, .ref (42 + 2 * sh.toNatClampNeg)), (4, .int (f_X1_oddsOn b I sz 1 (abu / 100) ((abu / 10) - (abu / 10) / 10 * 10) (abu - abu / 10 * 10))), (0, .ref 0), (1, .int sh), (2, .int abu), (3, .int part)]) [0, 1, 2, 4, 5, 6, 7, 8, 9] rfl ?_
                          rw [show gx_X8_thrownBy_72 b I L sz sh abu part (r72 + 1) t72 v6 v8 = gx_X8_thrownBy_72 b I L sz sh abu part r72 (t72 + 1) (v6 * 11) (v8 * ((12 - (f_X1_oddsOn b I sz 1 (abu / 100) ((abu / 10) - (abu / 10) / 10 * 10) (abu - abu / 10 * 10))).toInt64)) from by (conv => lhs; unfold gx_X8_thrownBy_72); rw [if_neg h79, if_neg h102, if_pos h109, if_neg h121, if_neg h140]]
                          exact ih72 (t72 + 1) (v6 * 11) (v8 * ((12 - (f_X1_oddsOn b I sz 1 (abu / 100) ((abu / 10) - (abu / 10) / 10 * 10) (abu - abu / 10 * 10))).toInt64)) (by omega)
                        · refine p_iload (z_dec zd_X8_thrownBy 76 rfl) 5 rfl (n := 145) rfl ?_
                          refine p_i2l (z_dec zd_X8_thrownBy 77 rfl) (n := 146) rfl ?_
                          refine p_goto (z_dec zd_X8_thrownBy 78 rfl) (t := 155) (by decide) ?_
                          refine p_lmul (z_dec zd_X8_thrownBy 83 rfl) (n := 156) rfl ?_
                          refine p_lstore (z_dec zd_X8_thrownBy 84 rfl) (lv2 := [(8, .long (v8 * ((f_X1_oddsOn b I sz 1 (abu / 100) ((abu / 10) - (abu / 10) / 10 * 10) (abu - abu / 10 * 10)).toInt64))), (6, .long (v6 * 11)), (11, .long (f_X4_valueAt (m_X1_oddsOn b I sz 1 (abu / 100) ((abu / 10) - (abu / 10) / 10 * 10) (abu - abu / 10 * 10)) L (42 + 2 * sh.toNatClampNeg) (nI t72))), (10, .int (nI t72)), (5, .ref (42 + 2 * sh.toNatClampNeg)), (4, .int (f_X1_oddsOn b I sz 1 (abu / 100) ((abu / 10) - (abu / 10) / 10 * 10) (abu - abu / 10 * 10))), (0, .ref 0), (1, .int sh), (2, .int abu), (3, .int part)]) (by decide) rfl (n := 158) rfl ?_
                          refine p_iinc (z_dec zd_X8_thrownBy 85 rfl) 3 rfl (v := (nI (t72 + 1))) (nI_1 _) (lv2 := [(10, .int (nI (t72 + 1))), (8, .long (v8 * ((f_X1_oddsOn b I sz 1 (abu / 100) ((abu / 10) - (abu / 10) / 10 * 10) (abu - abu / 10 * 10)).toInt64))), (6, .long (v6 * 11)), (11, .long (f_X4_valueAt (m_X1_oddsOn b I sz 1 (abu / 100) ((abu / 10) - (abu / 10) / 10 * 10) (abu - abu / 10 * 10)) L (42 + 2 * sh.toNatClampNeg) (nI t72))), (5, .ref (42 + 2 * sh.toNatClampNeg)), (4, .int (f_X1_oddsOn b I sz 1 (abu / 100) ((abu / 10) - (abu / 10) / 10 * 10) (abu - abu / 10 * 10))), (0, .ref 0), (1, .int sh), (2, .int abu), (3, .int part)]) (by decide) rfl (n := 161) rfl ?_
                          refine p_goto (z_dec zd_X8_thrownBy 86 rfl) (t := 72) (by decide) ?_
                          refine z_sub (lv' := [(10, .int (nI (t72 + 1))), (8, .long (v8 * ((f_X1_oddsOn b I sz 1 (abu / 100) ((abu / 10) - (abu / 10) / 10 * 10) (abu - abu / 10 * 10)).toInt64))), (6, .long (v6 * 11)), (5, .ref (42 + 2 * sh.toNatClampNeg)), (4, .int (f_X1_oddsOn b I sz 1 (abu / 100) ((abu / 10) - (abu / 10) / 10 * 10) (abu - abu / 10 * 10))), (0, .ref 0), (1, .int sh), (2, .int abu), (3, .int part)]) [0, 1, 2, 4, 5, 6, 7, 8, 9] rfl ?_
                          rw [show gx_X8_thrownBy_72 b I L sz sh abu part (r72 + 1) t72 v6 v8 = gx_X8_thrownBy_72 b I L sz sh abu part r72 (t72 + 1) (v6 * 11) (v8 * ((f_X1_oddsOn b I sz 1 (abu / 100) ((abu / 10) - (abu / 10) / 10 * 10) (abu - abu / 10 * 10)).toInt64)) from by (conv => lhs; unfold gx_X8_thrownBy_72); rw [if_neg h79, if_neg h102, if_pos h109, if_neg h121, if_pos h140]]
                          exact ih72 (t72 + 1) (v6 * 11) (v8 * ((f_X1_oddsOn b I sz 1 (abu / 100) ((abu / 10) - (abu / 10) / 10 * 10) (abu - abu / 10 * 10)).toInt64)) (by omega)
                      · refine p_lconst (z_dec zd_X8_thrownBy 66 rfl) (v := 1) (by decide) (n := 125) rfl ?_
                        refine p_goto (z_dec zd_X8_thrownBy 67 rfl) (t := 131) (by decide) ?_
                        refine p_lmul (z_dec zd_X8_thrownBy 69 rfl) (n := 132) rfl ?_
                        refine p_lstore (z_dec zd_X8_thrownBy 70 rfl) (lv2 := [(6, .long (v6 * 1)), (11, .long (f_X4_valueAt (m_X1_oddsOn b I sz 1 (abu / 100) ((abu / 10) - (abu / 10) / 10 * 10) (abu - abu / 10 * 10)) L (42 + 2 * sh.toNatClampNeg) (nI t72))), (10, .int (nI t72)), (8, .long v8), (5, .ref (42 + 2 * sh.toNatClampNeg)), (4, .int (f_X1_oddsOn b I sz 1 (abu / 100) ((abu / 10) - (abu / 10) / 10 * 10) (abu - abu / 10 * 10))), (0, .ref 0), (1, .int sh), (2, .int abu), (3, .int part)]) (by decide) rfl (n := 134) rfl ?_
                        refine p_lload (z_dec zd_X8_thrownBy 71 rfl) 3 rfl (n := 136) rfl ?_
                        refine p_lload (z_dec zd_X8_thrownBy 72 rfl) 1 rfl (n := 138) rfl ?_
                        refine p_lconst (z_dec zd_X8_thrownBy 73 rfl) (v := 1) (by decide) (n := 139) rfl ?_
                        refine p_lcmp (z_dec zd_X8_thrownBy 74 rfl) (n := 140) rfl ?_
                        refine p_if_ne (z_dec zd_X8_thrownBy 75 rfl) (t := 149) (by decide) (n := 143) rfl (fun h140 => ?_) (fun h140 => ?_)
                        · refine p_bipush (z_dec zd_X8_thrownBy 79 rfl) (v := 12) (by decide) (n := 151) rfl ?_
                          refine p_iload (z_dec zd_X8_thrownBy 80 rfl) 5 rfl (n := 153) rfl ?_
                          refine p_isub (z_dec zd_X8_thrownBy 81 rfl) (n := 154) rfl ?_
                          refine p_i2l (z_dec zd_X8_thrownBy 82 rfl) (n := 155) rfl ?_
                          refine p_lmul (z_dec zd_X8_thrownBy 83 rfl) (n := 156) rfl ?_
                          refine p_lstore (z_dec zd_X8_thrownBy 84 rfl) (lv2 := [(8, .long (v8 * ((12 - (f_X1_oddsOn b I sz 1 (abu / 100) ((abu / 10) - (abu / 10) / 10 * 10) (abu - abu / 10 * 10))).toInt64))), (6, .long (v6 * 1)), (11, .long (f_X4_valueAt (m_X1_oddsOn b I sz 1 (abu / 100) ((abu / 10) - (abu / 10) / 10 * 10) (abu - abu / 10 * 10)) L (42 + 2 * sh.toNatClampNeg) (nI t72))), (10, .int (nI t72)), (5, .ref (42 + 2 * sh.toNatClampNeg)), (4, .int (f_X1_oddsOn b I sz 1 (abu / 100) ((abu / 10) - (abu / 10) / 10 * 10) (abu - abu / 10 * 10))), (0, .ref 0), (1, .int sh), (2, .int abu), (3, .int part)]) (by decide) rfl (n := 158) rfl ?_
                          refine p_iinc (z_dec zd_X8_thrownBy 85 rfl) 3 rfl (v := (nI (t72 + 1))) (nI_1 _) (lv2 := [(10, .int (nI (t72 + 1))), (8, .long (v8 * ((12 - (f_X1_oddsOn b I sz 1 (abu / 100) ((abu / 10) - (abu / 10) / 10 * 10) (abu - abu / 10 * 10))).toInt64))), (6, .long (v6 * 1)), (11, .long (f_X4_valueAt (m_X1_oddsOn b I sz 1 (abu / 100) ((abu / 10) - (abu / 10) / 10 * 10) (abu - abu / 10 * 10)) L (42 + 2 * sh.toNatClampNeg) (nI t72))), (5, .ref (42 + 2 * sh.toNatClampNeg)), (4, .int (f_X1_oddsOn b I sz 1 (abu / 100) ((abu / 10) - (abu / 10) / 10 * 10) (abu - abu / 10 * 10))), (0, .ref 0), (1, .int sh), (2, .int abu), (3, .int part)]) (by decide) rfl (n := 161) rfl ?_
                          refine p_goto (z_dec zd_X8_thrownBy 86 rfl) (t := 72) (by decide) ?_
                          refine z_sub (lv' := [(10, .int (nI (t72 + 1))), (8, .long (v8 * ((12 - (f_X1_oddsOn b I sz 1 (abu / 100) ((abu / 10) - (abu / 10) / 10 * 10) (abu - abu / 10 * 10))).toInt64))), (6, .long (v6 * 1)), (5, .ref (42 + 2 * sh.toNatClampNeg)), (4, .int (f_X1_oddsOn b I sz 1 (abu / 100) ((abu / 10) - (abu / 10) / 10 * 10) (abu - abu / 10 * 10))), (0, .ref 0), (1, .int sh), (2, .int abu), (3, .int part)]) [0, 1, 2, 4, 5, 6, 7, 8, 9] rfl ?_
                          rw [show gx_X8_thrownBy_72 b I L sz sh abu part (r72 + 1) t72 v6 v8 = gx_X8_thrownBy_72 b I L sz sh abu part r72 (t72 + 1) (v6 * 1) (v8 * ((12 - (f_X1_oddsOn b I sz 1 (abu / 100) ((abu / 10) - (abu / 10) / 10 * 10) (abu - abu / 10 * 10))).toInt64)) from by (conv => lhs; unfold gx_X8_thrownBy_72); rw [if_neg h79, if_neg h102, if_pos h109, if_pos h121, if_neg h140]]
                          exact ih72 (t72 + 1) (v6 * 1) (v8 * ((12 - (f_X1_oddsOn b I sz 1 (abu / 100) ((abu / 10) - (abu / 10) / 10 * 10) (abu - abu / 10 * 10))).toInt64)) (by omega)
                        · refine p_iload (z_dec zd_X8_thrownBy 76 rfl) 5 rfl (n := 145) rfl ?_
                          refine p_i2l (z_dec zd_X8_thrownBy 77 rfl) (n := 146) rfl ?_
                          refine p_goto (z_dec zd_X8_thrownBy 78 rfl) (t := 155) (by decide) ?_
                          refine p_lmul (z_dec zd_X8_thrownBy 83 rfl) (n := 156) rfl ?_
                          refine p_lstore (z_dec zd_X8_thrownBy 84 rfl) (lv2 := [(8, .long (v8 * ((f_X1_oddsOn b I sz 1 (abu / 100) ((abu / 10) - (abu / 10) / 10 * 10) (abu - abu / 10 * 10)).toInt64))), (6, .long (v6 * 1)), (11, .long (f_X4_valueAt (m_X1_oddsOn b I sz 1 (abu / 100) ((abu / 10) - (abu / 10) / 10 * 10) (abu - abu / 10 * 10)) L (42 + 2 * sh.toNatClampNeg) (nI t72))), (10, .int (nI t72)), (5, .ref (42 + 2 * sh.toNatClampNeg)), (4, .int (f_X1_oddsOn b I sz 1 (abu / 100) ((abu / 10) - (abu / 10) / 10 * 10) (abu - abu / 10 * 10))), (0, .ref 0), (1, .int sh), (2, .int abu), (3, .int part)]) (by decide) rfl (n := 158) rfl ?_
                          refine p_iinc (z_dec zd_X8_thrownBy 85 rfl) 3 rfl (v := (nI (t72 + 1))) (nI_1 _) (lv2 := [(10, .int (nI (t72 + 1))), (8, .long (v8 * ((f_X1_oddsOn b I sz 1 (abu / 100) ((abu / 10) - (abu / 10) / 10 * 10) (abu - abu / 10 * 10)).toInt64))), (6, .long (v6 * 1)), (11, .long (f_X4_valueAt (m_X1_oddsOn b I sz 1 (abu / 100) ((abu / 10) - (abu / 10) / 10 * 10) (abu - abu / 10 * 10)) L (42 + 2 * sh.toNatClampNeg) (nI t72))), (5, .ref (42 + 2 * sh.toNatClampNeg)), (4, .int (f_X1_oddsOn b I sz 1 (abu / 100) ((abu / 10) - (abu / 10) / 10 * 10) (abu - abu / 10 * 10))), (0, .ref 0), (1, .int sh), (2, .int abu), (3, .int part)]) (by decide) rfl (n := 161) rfl ?_
                          refine p_goto (z_dec zd_X8_thrownBy 86 rfl) (t := 72) (by decide) ?_
                          refine z_sub (lv' := [(10, .int (nI (t72 + 1))), (8, .long (v8 * ((f_X1_oddsOn b I sz 1 (abu / 100) ((abu / 10) - (abu / 10) / 10 * 10) (abu - abu / 10 * 10)).toInt64))), (6, .long (v6 * 1)), (5, .ref (42 + 2 * sh.toNatClampNeg)), (4, .int (f_X1_oddsOn b I sz 1 (abu / 100) ((abu / 10) - (abu / 10) / 10 * 10) (abu - abu / 10 * 10))), (0, .ref 0), (1, .int sh), (2, .int abu), (3, .int part)]) [0, 1, 2, 4, 5, 6, 7, 8, 9] rfl ?_
                          rw [show gx_X8_thrownBy_72 b I L sz sh abu part (r72 + 1) t72 v6 v8 = gx_X8_thrownBy_72 b I L sz sh abu part r72 (t72 + 1) (v6 * 1) (v8 * ((f_X1_oddsOn b I sz 1 (abu / 100) ((abu / 10) - (abu / 10) / 10 * 10) (abu - abu / 10 * 10)).toInt64)) from by (conv => lhs; unfold gx_X8_thrownBy_72); rw [if_neg h79, if_neg h102, if_pos h109, if_pos h121, if_pos h140]]
                          exact ih72 (t72 + 1) (v6 * 1) (v8 * ((f_X1_oddsOn b I sz 1 (abu / 100) ((abu / 10) - (abu / 10) / 10 * 10) (abu - abu / 10 * 10)).toInt64)) (by omega)
                    · refine p_goto (z_dec zd_X8_thrownBy 60 rfl) (t := 164) (by decide) ?_
                      refine p_lload (z_dec zd_X8_thrownBy 87 rfl) 3 rfl (n := 166) rfl ?_
                      refine p_lload (z_dec zd_X8_thrownBy 88 rfl) 3 rfl (n := 168) rfl ?_
                      refine p_lload (z_dec zd_X8_thrownBy 89 rfl) 2 rfl (n := 170) rfl ?_
                      refine p_ladd (z_dec zd_X8_thrownBy 90 rfl) (n := 171) rfl ?_
                      refine p_iload_n (z_dec zd_X8_thrownBy 91 rfl) rfl 9 rfl (n := 172) rfl ?_
                      refine q_callS (As := [.long v6, .long (v6 + v8), .int part]) (rest := []) (z_dec zd_X8_thrownBy 92 rfl) zk_X8_210 zs_X8_lowest (c_X8_lowest (d - 1) (by omega) b (m_X1_oddsOn b I sz 1 (abu / 100) ((abu / 10) - (abu / 10) / 10 * 10) (abu - abu / 10 * 10)) L v6 (v6 + v8) part) rfl rfl (Nat.le_of_ble_eq_true rfl) (by omega) (n := 175) rfl ?_
                      show PW zm_X8_thrownBy d 175 [(11, .long (f_X4_valueAt (m_X1_oddsOn b I sz 1 (abu / 100) ((abu / 10) - (abu / 10) / 10 * 10) (abu - abu / 10 * 10)) L (42 + 2 * sh.toNatClampNeg) (nI t72))), (10, .int (nI t72)), (8, .long v8), (6, .long v6), (5, .ref (42 + 2 * sh.toNatClampNeg)), (4, .int (f_X1_oddsOn b I sz 1 (abu / 100) ((abu / 10) - (abu / 10) / 10 * 10) (abu - abu / 10 * 10))), (0, .ref 0), (1, .int sh), (2, .int abu), (3, .int part)] [.long (f_X8_lowest v6 (v6 + v8) part)] SH ((m_X1_oddsOn b I sz 1 (abu / 100) ((abu / 10) - (abu / 10) / 10 * 10) (abu - abu / 10 * 10)), L, z_R b) 0 0 _
                      exact p_lret (z_dec zd_X8_thrownBy 93 rfl) rfl ⟨(by (conv => rhs; unfold gx_X8_thrownBy_72); rw [if_neg h79, if_neg h102, if_neg h109]), rfl, rfl⟩
          exact (by have q := (hL72 8 0 1 1 (by omega)); (rw [show f_X8_thrownBy b I L sz sh abu part = _ from by unfold f_X8_thrownBy; rw [if_pos h5, if_neg h13, if_neg h20]]); (rw [show m_X8_thrownBy b I L sz sh abu part = _ from by unfold m_X8_thrownBy; rw [if_pos h5, if_neg h13, if_neg h20]]); exact q)
        · refine p_ldc2 (z_dec zd_X8_thrownBy 11 rfl) zq_X8_206 (n := 26) rfl ?_
          exact p_lret (z_dec zd_X8_thrownBy 12 rfl) rfl ⟨(by unfold f_X8_thrownBy; rw [if_pos h5, if_neg h13, if_pos h20]), rfl, (z_3 (by unfold m_X8_thrownBy; rw [if_pos h5, if_neg h13, if_pos h20]) rfl)⟩
  exact hentry
