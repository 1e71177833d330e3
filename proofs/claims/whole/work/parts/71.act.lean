theorem z_bdy {np : Nat} {x : Int32} (hn : np ≤ 50) (h : ¬ f_X9_isBody np x = 0) : x = nI x.toNatClampNeg ∧ x.toNatClampNeg < np := by
  unfold f_X9_isBody at h
  rcases Nat.eq_zero_or_pos np with e | e
  · subst e
    obtain ⟨h1, h2⟩ := z_wi h
    have := Int64.le_trans h1 h2
    exact absurd this (by decide)
  · rw [z_pred e] at h
    obtain ⟨h1, h2⟩ := z_with (N := np - 1) (by rw [nI_l (by omega), lN_toInt (by omega)]) h
    exact ⟨h1, by omega⟩
theorem z_rn0 (I : Nat → Nat → Int32) (v w : Int32) : z_rn 0 (z_up (z_up (z_up I 54 35 0) 54 36 v) 54 37 w) := by
  unfold z_rn
  rw [z_up_j _ _ (by decide), z_up_j _ _ (by decide), z_up_s]
  exact ⟨rfl, Nat.le_refl _⟩
def f_X9_act (I : Nat → Nat → Int32) (bo : Nat) (w : Int32) (act : Int32) (x : Int32) : Int32 := if (f_X9_isBody bo w) = 0 then 0 else if act = 0 then (z_V0 (I 73 w.toNatClampNeg) w x) else if act = 1 then (z_V1 (I 73 w.toNatClampNeg) (I 73 w.toNatClampNeg) w x) else if act = 2 then (z_V2 (I 73 w.toNatClampNeg) (I 73 w.toNatClampNeg) w x) else if act = 3 then (z_V3 (I 73 w.toNatClampNeg) (I 73 w.toNatClampNeg) w x) else 0
def m_X9_act (I : Nat → Nat → Int32) (bo : Nat) (w : Int32) (act : Int32) (x : Int32) : Nat → Nat → Int32 := if (f_X9_isBody bo w) = 0 then (z_up I 54 35 0) else if act = 0 then (z_PL (z_up (z_up (z_up I 54 35 0) 54 36 (I 73 w.toNatClampNeg)) 54 37 w) (z_T0 (I 73 w.toNatClampNeg))) else if act = 1 then (z_PL (z_up (z_up (z_up I 54 35 0) 54 36 (I 73 w.toNatClampNeg)) 54 37 w) (z_T1 (I 73 w.toNatClampNeg) (I 73 w.toNatClampNeg))) else if act = 2 then (z_PL (z_up (z_up (z_up I 54 35 0) 54 36 (I 73 w.toNatClampNeg)) 54 37 w) (z_T2 (I 73 w.toNatClampNeg) (I 73 w.toNatClampNeg))) else if act = 3 then (z_PL (z_up (z_up (z_up I 54 35 0) 54 36 (I 73 w.toNatClampNeg)) 54 37 w) (z_T3 (I 73 w.toNatClampNeg) (I 73 w.toNatClampNeg))) else (z_up (z_up (z_up I 54 35 0) 54 36 (I 73 w.toNatClampNeg)) 54 37 w)
set_option maxHeartbeats 1000000 in
set_option maxRecDepth 100000 in
theorem c_X9_act (d : Nat) (hd : 12 ≤ d) (b : Bool) (I : Nat → Nat → Int32) (L : Nat → Nat → Int64) (bo : Nat) (hbo : I 54 32 = nI bo) (hb50 : bo ≤ 50) (w : Int32) (act : Int32) (x : Int32) : z_CT zm_X9_act d [.ref 54, .int w, .int act, .int x] SH (I, L, z_R b) 0 0 (z_ret (some (.int (f_X9_act I bo w act x))) ((m_X9_act I bo w act x), L, z_R b)) := by
  refine z_enter (by decide +kernel) (Nat.le_of_ble_eq_true rfl) ?_
  have hentry : PW zm_X9_act d 0 [(0, .ref 54), (1, .int w), (2, .int act), (3, .int x)] [] SH (I, L, z_R b) 0 0 (z_ret (some (.int (f_X9_act I bo w act x))) ((m_X9_act I bo w act x), L, z_R b)) := by
    refine p_aload_n (z_dec zd_X9_act 0 rfl) rfl 0 rfl (n := 1) rfl ?_
    refine p_iconst (z_dec zd_X9_act 1 rfl) (v := 0) (by decide) (n := 2) rfl ?_
    refine q_putI (z_dec zd_X9_act 2 rfl) zp_X9_297 (fun q => by cases q) rfl (n := 5) rfl ?_
    refine p_aload_n (z_dec zd_X9_act 3 rfl) rfl 0 rfl (n := 6) rfl ?_
    refine p_iload_n (z_dec zd_X9_act 4 rfl) rfl 1 rfl (n := 7) rfl ?_
    refine q_callV (As := [.int w]) (rest := []) (z_dec zd_X9_act 5 rfl) zk_X9_321 zv_X9_isBody (c_X9_isBody (d - 1) (by omega) b (z_up I 54 35 0) L bo hbo hb50 w) rfl ⟨_, _, rfl⟩ rfl rfl (Nat.le_of_ble_eq_true rfl) (by omega) (n := 10) rfl ?_
    show PW zm_X9_act d 10 [(0, .ref 54), (1, .int w), (2, .int act), (3, .int x)] [.int (f_X9_isBody bo w)] SH ((z_up I 54 35 0), L, z_R b) 0 0 _
    refine p_if_ne (z_dec zd_X9_act 6 rfl) (t := 15) (by decide) (n := 13) rfl (fun h10 => ?_) (fun h10 => ?_)
    · have hw := z_bdy hb50 h10
      refine p_aload_n (z_dec zd_X9_act 9 rfl) rfl 0 rfl (n := 16) rfl ?_
      refine p_aload_n (z_dec zd_X9_act 10 rfl) rfl 0 rfl (n := 17) rfl ?_
      refine q_getR (z_dec zd_X9_act 11 rfl) zf_X9_64 (i := 73) rfl rfl (n := 20) rfl ?_
      refine p_iload_n (z_dec zd_X9_act 12 rfl) rfl 1 rfl (n := 21) rfl ?_
      refine q_iald (z_dec zd_X9_act 13 rfl) rfl (by decide) (w.toNatClampNeg) hw.1 (Nat.lt_of_lt_of_le hw.2 hb50) (v := (I 73 w.toNatClampNeg)) (z_up_k _ _ (by decide)) (n := 22) rfl ?_
      refine q_putI (z_dec zd_X9_act 14 rfl) zp_X9_312 (fun q => by cases q) rfl (n := 25) rfl ?_
      refine p_aload_n (z_dec zd_X9_act 15 rfl) rfl 0 rfl (n := 26) rfl ?_
      refine p_iload_n (z_dec zd_X9_act 16 rfl) rfl 1 rfl (n := 27) rfl ?_
      refine q_putI (z_dec zd_X9_act 17 rfl) zp_X9_306 (fun q => by cases q) rfl (n := 30) rfl ?_
      have hP30 : z_rn 0 ((z_up (z_up (z_up I 54 35 0) 54 36 (I 73 w.toNatClampNeg)) 54 37 w)) := z_rn0 _ _ _
      refine p_iload_n (z_dec zd_X9_act 18 rfl) rfl 2 rfl (n := 31) rfl ?_
      by_cases hs31_0 : act = 0
      · refine p_tableIn (z_dec zd_X9_act 19 rfl) (off := 29) (t := 60) (by rw [hs31_0]; decide) (by rw [hs31_0]; decide) (by rw [hs31_0]; rfl) (by decide) ?_
        refine p_aload_n (z_dec zd_X9_act 20 rfl) rfl 0 rfl (n := 61) rfl ?_
        refine p_aload_n (z_dec zd_X9_act 21 rfl) rfl 0 rfl (n := 62) rfl ?_
        refine q_getI (z_dec zd_X9_act 22 rfl) zf_X9_312 (by decide) rfl (v := (I 73 w.toNatClampNeg)) ((z_up_j _ _ (by decide)).trans (z_up_s _ _ _ _)) (n := 65) rfl ?_
        refine p_iload_n (z_dec zd_X9_act 23 rfl) rfl 3 rfl (n := 66) rfl ?_
        refine q_callV (As := [.int (I 73 w.toNatClampNeg), .int x]) (rest := []) (z_dec zd_X9_act 24 rfl) zk_X9_303 zv_X9_judgesAs ((z_actC (v' := z_V0 (I 73 w.toNatClampNeg) w x) (I2 := (z_PL (z_up (z_up (z_up I 54 35 0) 54 36 (I 73 w.toNatClampNeg)) 54 37 w) (z_T0 (I 73 w.toNatClampNeg)))) (c_X9_judgesAsA (d - 1) (by omega) b (z_up (z_up (z_up I 54 35 0) 54 36 (I 73 w.toNatClampNeg)) 54 37 w) L (0) hP30 (by omega) (I 73 w.toNatClampNeg) x) (by first | (simp only [z_pMF _ _ (show (36 : Nat) ≠ 35 by decide), z_pMF _ _ (show (37 : Nat) ≠ 35 by decide), z_PLF _ (show (36 : Nat) ≠ 35 by decide), z_PLF _ (show (37 : Nat) ≠ 35 by decide)]; done) | rfl) (by first | (simp only [z_pMF _ _ (show (36 : Nat) ≠ 35 by decide), z_pMF _ _ (show (37 : Nat) ≠ 35 by decide), z_PLF _ (show (36 : Nat) ≠ 35 by decide), z_PLF _ (show (37 : Nat) ≠ 35 by decide)]; done) | rfl))) rfl ⟨_, _, rfl⟩ rfl rfl (Nat.le_of_ble_eq_true rfl) (by omega) (n := 69) rfl ?_
        show PW zm_X9_act d 69 [(0, .ref 54), (1, .int w), (2, .int act), (3, .int x)] [.int (z_V0 (I 73 w.toNatClampNeg) w x)] SH ((z_PL (z_up (z_up (z_up I 54 35 0) 54 36 (I 73 w.toNatClampNeg)) 54 37 w) (z_T0 (I 73 w.toNatClampNeg))), L, z_R b) 0 0 _
        exact p_iret (z_dec zd_X9_act 25 rfl) rfl ⟨(by unfold f_X9_act; rw [if_neg h10, if_pos hs31_0]), rfl, (z_3 (by unfold m_X9_act; rw [if_neg h10, if_pos hs31_0]) rfl)⟩
      by_cases hs31_1 : act = 1
      · refine p_tableIn (z_dec zd_X9_act 19 rfl) (off := 39) (t := 70) (by rw [hs31_1]; decide) (by rw [hs31_1]; decide) (by rw [hs31_1]; rfl) (by decide) ?_
        refine p_aload_n (z_dec zd_X9_act 26 rfl) rfl 0 rfl (n := 71) rfl ?_
        refine p_aload_n (z_dec zd_X9_act 27 rfl) rfl 0 rfl (n := 72) rfl ?_
        refine q_getI (z_dec zd_X9_act 28 rfl) zf_X9_312 (by decide) rfl (v := (I 73 w.toNatClampNeg)) ((z_up_j _ _ (by decide)).trans (z_up_s _ _ _ _)) (n := 75) rfl ?_
        refine p_iload_n (z_dec zd_X9_act 29 rfl) rfl 3 rfl (n := 76) rfl ?_
        refine q_callV (As := [.int (I 73 w.toNatClampNeg), .int x]) (rest := []) (z_dec zd_X9_act 30 rfl) zk_X9_309 zv_X9_callsAs ((z_actC (v' := z_V1 (I 73 w.toNatClampNeg) (I 73 w.toNatClampNeg) w x) (I2 := (z_PL (z_up (z_up (z_up I 54 35 0) 54 36 (I 73 w.toNatClampNeg)) 54 37 w) (z_T1 (I 73 w.toNatClampNeg) (I 73 w.toNatClampNeg)))) (c_X9_callsAsA (d - 1) (by omega) b (z_up (z_up (z_up I 54 35 0) 54 36 (I 73 w.toNatClampNeg)) 54 37 w) L (0) hP30 (by omega) (I 73 w.toNatClampNeg) x) (by first | (simp only [z_pMF _ _ (show (36 : Nat) ≠ 35 by decide), z_pMF _ _ (show (37 : Nat) ≠ 35 by decide), z_PLF _ (show (36 : Nat) ≠ 35 by decide), z_PLF _ (show (37 : Nat) ≠ 35 by decide)]; done) | rfl) (by first | (simp only [z_pMF _ _ (show (36 : Nat) ≠ 35 by decide), z_pMF _ _ (show (37 : Nat) ≠ 35 by decide), z_PLF _ (show (36 : Nat) ≠ 35 by decide), z_PLF _ (show (37 : Nat) ≠ 35 by decide)]; done) | rfl))) rfl ⟨_, _, rfl⟩ rfl rfl (Nat.le_of_ble_eq_true rfl) (by omega) (n := 79) rfl ?_
        show PW zm_X9_act d 79 [(0, .ref 54), (1, .int w), (2, .int act), (3, .int x)] [.int (z_V1 (I 73 w.toNatClampNeg) (I 73 w.toNatClampNeg) w x)] SH ((z_PL (z_up (z_up (z_up I 54 35 0) 54 36 (I 73 w.toNatClampNeg)) 54 37 w) (z_T1 (I 73 w.toNatClampNeg) (I 73 w.toNatClampNeg))), L, z_R b) 0 0 _
        exact p_iret (z_dec zd_X9_act 31 rfl) rfl ⟨(by unfold f_X9_act; rw [if_neg h10, if_neg hs31_0, if_pos hs31_1]), rfl, (z_3 (by unfold m_X9_act; rw [if_neg h10, if_neg hs31_0, if_pos hs31_1]) rfl)⟩
      by_cases hs31_2 : act = 2
      · refine p_tableIn (z_dec zd_X9_act 19 rfl) (off := 49) (t := 80) (by rw [hs31_2]; decide) (by rw [hs31_2]; decide) (by rw [hs31_2]; rfl) (by decide) ?_
        refine p_aload_n (z_dec zd_X9_act 32 rfl) rfl 0 rfl (n := 81) rfl ?_
        refine p_aload_n (z_dec zd_X9_act 33 rfl) rfl 0 rfl (n := 82) rfl ?_
        refine q_getI (z_dec zd_X9_act 34 rfl) zf_X9_312 (by decide) rfl (v := (I 73 w.toNatClampNeg)) ((z_up_j _ _ (by decide)).trans (z_up_s _ _ _ _)) (n := 85) rfl ?_
        refine p_iload_n (z_dec zd_X9_act 35 rfl) rfl 3 rfl (n := 86) rfl ?_
        refine q_callV (As := [.int (I 73 w.toNatClampNeg), .int x]) (rest := []) (z_dec zd_X9_act 36 rfl) zk_X9_315 zv_X9_losesAs ((z_actC (v' := z_V2 (I 73 w.toNatClampNeg) (I 73 w.toNatClampNeg) w x) (I2 := (z_PL (z_up (z_up (z_up I 54 35 0) 54 36 (I 73 w.toNatClampNeg)) 54 37 w) (z_T2 (I 73 w.toNatClampNeg) (I 73 w.toNatClampNeg)))) (c_X9_losesAsA (d - 1) (by omega) b (z_up (z_up (z_up I 54 35 0) 54 36 (I 73 w.toNatClampNeg)) 54 37 w) L (0) hP30 (by omega) (I 73 w.toNatClampNeg) x) (by first | (simp only [z_pMF _ _ (show (36 : Nat) ≠ 35 by decide), z_pMF _ _ (show (37 : Nat) ≠ 35 by decide), z_PLF _ (show (36 : Nat) ≠ 35 by decide), z_PLF _ (show (37 : Nat) ≠ 35 by decide)]; done) | rfl) (by first | (simp only [z_pMF _ _ (show (36 : Nat) ≠ 35 by decide), z_pMF _ _ (show (37 : Nat) ≠ 35 by decide), z_PLF _ (show (36 : Nat) ≠ 35 by decide), z_PLF _ (show (37 : Nat) ≠ 35 by decide)]; done) | rfl))) rfl ⟨_, _, rfl⟩ rfl rfl (Nat.le_of_ble_eq_true rfl) (by omega) (n := 89) rfl ?_
        show PW zm_X9_act d 89 [(0, .ref 54), (1, .int w), (2, .int act), (3, .int x)] [.int (z_V2 (I 73 w.toNatClampNeg) (I 73 w.toNatClampNeg) w x)] SH ((z_PL (z_up (z_up (z_up I 54 35 0) 54 36 (I 73 w.toNatClampNeg)) 54 37 w) (z_T2 (I 73 w.toNatClampNeg) (I 73 w.toNatClampNeg))), L, z_R b) 0 0 _
        exact p_iret (z_dec zd_X9_act 37 rfl) rfl ⟨(by unfold f_X9_act; rw [if_neg h10, if_neg hs31_0, if_neg hs31_1, if_pos hs31_2]), rfl, (z_3 (by unfold m_X9_act; rw [if_neg h10, if_neg hs31_0, if_neg hs31_1, if_pos hs31_2]) rfl)⟩
      by_cases hs31_3 : act = 3
      · refine p_tableIn (z_dec zd_X9_act 19 rfl) (off := 59) (t := 90) (by rw [hs31_3]; decide) (by rw [hs31_3]; decide) (by rw [hs31_3]; rfl) (by decide) ?_
        refine p_aload_n (z_dec zd_X9_act 38 rfl) rfl 0 rfl (n := 91) rfl ?_
        refine p_aload_n (z_dec zd_X9_act 39 rfl) rfl 0 rfl (n := 92) rfl ?_
        refine q_getI (z_dec zd_X9_act 40 rfl) zf_X9_312 (by decide) rfl (v := (I 73 w.toNatClampNeg)) ((z_up_j _ _ (by decide)).trans (z_up_s _ _ _ _)) (n := 95) rfl ?_
        refine p_iload_n (z_dec zd_X9_act 41 rfl) rfl 3 rfl (n := 96) rfl ?_
        refine q_callV (As := [.int (I 73 w.toNatClampNeg), .int x]) (rest := []) (z_dec zd_X9_act 42 rfl) zk_X9_318 zv_X9_tellsAs ((z_actC (v' := z_V3 (I 73 w.toNatClampNeg) (I 73 w.toNatClampNeg) w x) (I2 := (z_PL (z_up (z_up (z_up I 54 35 0) 54 36 (I 73 w.toNatClampNeg)) 54 37 w) (z_T3 (I 73 w.toNatClampNeg) (I 73 w.toNatClampNeg)))) (c_X9_tellsAsA (d - 1) (by omega) b (z_up (z_up (z_up I 54 35 0) 54 36 (I 73 w.toNatClampNeg)) 54 37 w) L (0) hP30 (by omega) (I 73 w.toNatClampNeg) x) (by first | (simp only [z_pMF _ _ (show (36 : Nat) ≠ 35 by decide), z_pMF _ _ (show (37 : Nat) ≠ 35 by decide), z_PLF _ (show (36 : Nat) ≠ 35 by decide), z_PLF _ (show (37 : Nat) ≠ 35 by decide)]; done) | rfl) (by first | (simp only [z_pMF _ _ (show (36 : Nat) ≠ 35 by decide), z_pMF _ _ (show (37 : Nat) ≠ 35 by decide), z_PLF _ (show (36 : Nat) ≠ 35 by decide), z_PLF _ (show (37 : Nat) ≠ 35 by decide)]; done) | rfl))) rfl ⟨_, _, rfl⟩ rfl rfl (Nat.le_of_ble_eq_true rfl) (by omega) (n := 99) rfl ?_
        show PW zm_X9_act d 99 [(0, .ref 54), (1, .int w), (2, .int act), (3, .int x)] [.int (z_V3 (I 73 w.toNatClampNeg) (I 73 w.toNatClampNeg) w x)] SH ((z_PL (z_up (z_up (z_up I 54 35 0) 54 36 (I 73 w.toNatClampNeg)) 54 37 w) (z_T3 (I 73 w.toNatClampNeg) (I 73 w.toNatClampNeg))), L, z_R b) 0 0 _
        exact p_iret (z_dec zd_X9_act 43 rfl) rfl ⟨(by unfold f_X9_act; rw [if_neg h10, if_neg hs31_0, if_neg hs31_1, if_neg hs31_2, if_pos hs31_3]), rfl, (z_3 (by unfold m_X9_act; rw [if_neg h10, if_neg hs31_0, if_neg hs31_1, if_neg hs31_2, if_pos hs31_3]) rfl)⟩
      have hs31_0n : ¬ act.toInt = 0 := lv_neT hs31_0 rfl
      have hs31_1n : ¬ act.toInt = 1 := lv_neT hs31_1 rfl
      have hs31_2n : ¬ act.toInt = 2 := lv_neT hs31_2 rfl
      have hs31_3n : ¬ act.toInt = 3 := lv_neT hs31_3 rfl
      refine p_tableOut (z_dec zd_X9_act 19 rfl) (t := 100) (by omega) (by decide) ?_
      refine p_iconst (z_dec zd_X9_act 44 rfl) (v := 0) (by decide) (n := 101) rfl ?_
      exact p_iret (z_dec zd_X9_act 45 rfl) rfl ⟨(by unfold f_X9_act; rw [if_neg h10, if_neg hs31_0, if_neg hs31_1, if_neg hs31_2, if_neg hs31_3]), rfl, (z_3 (by unfold m_X9_act; rw [if_neg h10, if_neg hs31_0, if_neg hs31_1, if_neg hs31_2, if_neg hs31_3]) rfl)⟩
    · refine p_iconst (z_dec zd_X9_act 7 rfl) (v := 0) (by decide) (n := 14) rfl ?_
      exact p_iret (z_dec zd_X9_act 8 rfl) rfl ⟨(by unfold f_X9_act; rw [if_pos h10]), rfl, (z_3 (by unfold m_X9_act; rw [if_pos h10]) rfl)⟩
  exact hentry
