def yq_Va (a : Nat) (kd n x : Int32) : Int32 := match a with
  | 0 => z_V0 kd n x
  | 1 => z_V1 kd kd n x
  | 2 => z_V2 kd kd n x
  | _ => z_V3 kd kd n x
def yq_Ta (a : Nat) (kd : Int32) : List Int32 := match a with
  | 0 => z_T0 kd
  | 1 => z_T1 kd kd
  | 2 => z_T2 kd kd
  | _ => z_T3 kd kd
theorem c_X5_ownG (d : Nat) (hd : 16 ≤ d) (b : Bool) (I : Nat → Nat → Int32) (L : Nat → Nat → Int64) (n : Nat) (nb : Nat) (hnb : nb < 50) (kd : Nat) (hkd : kd < 8) (hac : yq_ac n nb kd I) (dp : Nat) (hn : n ≤ 100) (hdp : dp ≤ 10) (x : Int32) : ∀ a : Nat, a < 4 → z_CT zm_X5_own d [.ref 38, .int (nI a), .int x, .int (nI dp)] SH (I, L, z_R b) 0 0 (z_ret (some (.int (yq_Va a (nI kd) (nI nb) x))) (yq_QL I (yq_Ta a (nI kd)), L, z_R b))
  | 0, _ => c_X5_own0 d (by omega) b I L n nb hnb kd hkd hac dp (by omega) (by omega) x
  | 1, _ => c_X5_own1 d (by omega) b I L n nb hnb kd hkd hac dp (by omega) (by omega) x
  | 2, _ => c_X5_own2 d (by omega) b I L n nb hnb kd hkd hac dp (by omega) (by omega) x
  | 3, _ => c_X5_own3 d (by omega) b I L n nb hnb kd hkd hac dp (by omega) (by omega) x
  | a + 4, h => absurd h (by omega)
theorem yq_has {I : Nat → Nat → Int32} {sz : Nat} {x : Int32} (hsz : I 38 1 = nI sz) (hs50 : sz ≤ 50) (h : ¬ f_X5_has I x = 0) : x = nI x.toNatClampNeg ∧ x.toNatClampNeg < sz := by
  unfold f_X5_has at h
  rw [hsz] at h
  by_cases h1 : x < 0
  · rw [if_pos h1] at h; exact absurd rfl h
  · rw [if_neg h1] at h
    by_cases h2 : nI sz ≤ x
    · rw [if_pos h2] at h; exact absurd rfl h
    · exact z_inN h1 h2 (by omega)
theorem yq_ac0 (I : Nat → Nat → Int32) {w : Int32} {kd : Nat} (hw : w = nI w.toNatClampNeg) (hk : I 39 w.toNatClampNeg = nI kd) : yq_ac 0 w.toNatClampNeg kd (z_up (z_up I 38 3 0) 38 4 w) := by
  refine ⟨⟨?_, ?_⟩, ?_, ?_⟩
  · rw [z_up_j _ _ (by decide), z_up_s]; rfl
  · rw [z_up_j _ _ (by decide), z_up_s]; exact Nat.le_refl _
  · rw [z_up_s]; exact hw
  · rw [z_up_k _ _ (by decide), z_up_k _ _ (by decide)]; exact hk
def f_X5_perform (I : Nat → Nat → Int32) (w : Int32) (act : Int32) (x : Int32) : Int32 := if (f_X5_has (z_up I 38 3 0) w) = 0 then 0 else if act < 0 then 0 else if act < 4 then (yq_Va act.toNatClampNeg (nI (I 39 w.toNatClampNeg).toNatClampNeg) (nI w.toNatClampNeg) x) else 0
def m_X5_perform (I : Nat → Nat → Int32) (w : Int32) (act : Int32) (x : Int32) : Nat → Nat → Int32 := if (f_X5_has (z_up I 38 3 0) w) = 0 then (z_up I 38 3 0) else if act < 0 then (z_up I 38 3 0) else if act < 4 then (yq_QL (z_up (z_up I 38 3 0) 38 4 w) (yq_Ta act.toNatClampNeg (nI (I 39 w.toNatClampNeg).toNatClampNeg))) else (z_up I 38 3 0)
set_option maxHeartbeats 1000000 in
set_option maxRecDepth 100000 in
theorem c_X5_perform (d : Nat) (hd : 17 ≤ d) (b : Bool) (I : Nat → Nat → Int32) (L : Nat → Nat → Int64) (sz : Nat) (hsz : I 38 1 = nI sz) (hs50 : sz ≤ 50) (hks : ∀ j, j < sz → I 39 j = nI (I 39 j).toNatClampNeg ∧ (I 39 j).toNatClampNeg < 8) (w : Int32) (act : Int32) (x : Int32) : z_CT zm_X5_perform d [.ref 38, .int w, .int act, .int x] SH (I, L, z_R b) 0 0 (z_ret (some (.int (f_X5_perform I w act x))) ((m_X5_perform I w act x), L, z_R b)) := by
  refine z_enter (by decide +kernel) (Nat.le_of_ble_eq_true rfl) ?_
  have hentry : PW zm_X5_perform d 0 [(0, .ref 38), (1, .int w), (2, .int act), (3, .int x)] [] SH (I, L, z_R b) 0 0 (z_ret (some (.int (f_X5_perform I w act x))) ((m_X5_perform I w act x), L, z_R b)) := by
    refine p_aload_n (z_dec zd_X5_perform 0 rfl) rfl 0 rfl (n := 1) rfl ?_
    refine p_iconst (z_dec zd_X5_perform 1 rfl) (v := 0) (by decide) (n := 2) rfl ?_
    refine q_putI (z_dec zd_X5_perform 2 rfl) zp_X5_22 (fun q => by cases q) rfl (n := 5) rfl ?_
    refine p_aload_n (z_dec zd_X5_perform 3 rfl) rfl 0 rfl (n := 6) rfl ?_
    refine p_iload_n (z_dec zd_X5_perform 4 rfl) rfl 1 rfl (n := 7) rfl ?_
    refine q_callV (As := [.int w]) (rest := []) (z_dec zd_X5_perform 5 rfl) zk_X5_35 zv_X5_has (c_X5_has (d - 1) (by omega) b (z_up I 38 3 0) L w) rfl ⟨_, _, rfl⟩ rfl rfl (Nat.le_of_ble_eq_true rfl) (by omega) (n := 10) rfl ?_
    show PW zm_X5_perform d 10 [(0, .ref 38), (1, .int w), (2, .int act), (3, .int x)] [.int (f_X5_has (z_up I 38 3 0) w)] SH ((z_up I 38 3 0), L, z_R b) 0 0 _
    refine p_if_eq (z_dec zd_X5_perform 6 rfl) (t := 22) (by decide) (n := 13) rfl (fun h10 => ?_) (fun h10 => ?_)
    · refine p_iconst (z_dec zd_X5_perform 12 rfl) (v := 0) (by decide) (n := 23) rfl ?_
      exact p_iret (z_dec zd_X5_perform 13 rfl) rfl ⟨(by unfold f_X5_perform; rw [if_pos h10]), rfl, (z_3 (by unfold m_X5_perform; rw [if_pos h10]) rfl)⟩
    · have hw := yq_has (I := I) hsz hs50 h10
      refine p_iload_n (z_dec zd_X5_perform 7 rfl) rfl 2 rfl (n := 14) rfl ?_
      refine p_if_lt (z_dec zd_X5_perform 8 rfl) (t := 22) (by decide) (n := 17) rfl (fun h14 => ?_) (fun h14 => ?_)
      · refine p_iconst (z_dec zd_X5_perform 12 rfl) (v := 0) (by decide) (n := 23) rfl ?_
        exact p_iret (z_dec zd_X5_perform 13 rfl) rfl ⟨(by unfold f_X5_perform; rw [if_neg h10, if_pos h14]), rfl, (z_3 (by unfold m_X5_perform; rw [if_neg h10, if_pos h14]) rfl)⟩
      · refine p_iload_n (z_dec zd_X5_perform 9 rfl) rfl 2 rfl (n := 18) rfl ?_
        refine p_iconst (z_dec zd_X5_perform 10 rfl) (v := 4) (by decide) (n := 19) rfl ?_
        refine p_icmp_lt (z_dec zd_X5_perform 11 rfl) (t := 24) (by decide) (n := 22) rfl (fun h19 => ?_) (fun h19 => ?_)
        · have ha := z_inN (N := 4) h14 (Int32.not_le.mpr h19) (by omega)
          refine p_aload_n (z_dec zd_X5_perform 14 rfl) rfl 0 rfl (n := 25) rfl ?_
          refine p_iload_n (z_dec zd_X5_perform 15 rfl) rfl 1 rfl (n := 26) rfl ?_
          refine q_putI (z_dec zd_X5_perform 16 rfl) zp_X5_25 (fun q => by cases q) rfl (n := 29) rfl ?_
          refine p_aload_n (z_dec zd_X5_perform 17 rfl) rfl 0 rfl (n := 30) rfl ?_
          refine p_iload_n (z_dec zd_X5_perform 18 rfl) rfl 2 rfl (n := 31) rfl ?_
          refine p_iload_n (z_dec zd_X5_perform 19 rfl) rfl 3 rfl (n := 32) rfl ?_
          refine p_iconst (z_dec zd_X5_perform 20 rfl) (v := 0) (by decide) (n := 33) rfl ?_
          refine q_callV (As := [.int (nI act.toNatClampNeg), .int x, .int (nI 0)]) (rest := []) (z_dec zd_X5_perform 21 rfl) zk_X5_38 zv_X5_own (c_X5_ownG (d - 1) (by omega) b (z_up (z_up I 38 3 0) 38 4 w) L 0 w.toNatClampNeg (by have := hw.2; omega) (I 39 w.toNatClampNeg).toNatClampNeg (hks _ hw.2).2 (yq_ac0 I hw.1 (hks _ hw.2).1) 0 (by omega) (by omega) x act.toNatClampNeg ha.2) rfl ⟨_, _, rfl⟩ (by rw [← ha.1]; rfl) rfl (Nat.le_of_ble_eq_true rfl) (by omega) (n := 36) rfl ?_
          show PW zm_X5_perform d 36 [(0, .ref 38), (1, .int w), (2, .int act), (3, .int x)] [.int (yq_Va act.toNatClampNeg (nI (I 39 w.toNatClampNeg).toNatClampNeg) (nI w.toNatClampNeg) x)] SH ((yq_QL (z_up (z_up I 38 3 0) 38 4 w) (yq_Ta act.toNatClampNeg (nI (I 39 w.toNatClampNeg).toNatClampNeg))), L, z_R b) 0 0 _
          exact p_iret (z_dec zd_X5_perform 22 rfl) rfl ⟨(by unfold f_X5_perform; rw [if_neg h10, if_neg h14, if_pos h19]), rfl, (z_3 (by unfold m_X5_perform; rw [if_neg h10, if_neg h14, if_pos h19]) rfl)⟩
        · refine p_iconst (z_dec zd_X5_perform 12 rfl) (v := 0) (by decide) (n := 23) rfl ?_
          exact p_iret (z_dec zd_X5_perform 13 rfl) rfl ⟨(by unfold f_X5_perform; rw [if_neg h10, if_neg h14, if_neg h19]), rfl, (z_3 (by unfold m_X5_perform; rw [if_neg h10, if_neg h14, if_neg h19]) rfl)⟩
  exact hentry
def f_X8_act (I : Nat → Nat → Int32) (w : Int32) (act : Int32) (x : Int32) : Int32 := (f_X5_perform I w act x)
def m_X8_act (I : Nat → Nat → Int32) (w : Int32) (act : Int32) (x : Int32) : Nat → Nat → Int32 := (m_X5_perform I w act x)
set_option maxHeartbeats 1000000 in
set_option maxRecDepth 100000 in
theorem c_X8_act (d : Nat) (hd : 18 ≤ d) (b : Bool) (I : Nat → Nat → Int32) (L : Nat → Nat → Int64) (sz : Nat) (hsz : I 38 1 = nI sz) (hs50 : sz ≤ 50) (hks : ∀ j, j < sz → I 39 j = nI (I 39 j).toNatClampNeg ∧ (I 39 j).toNatClampNeg < 8) (w : Int32) (act : Int32) (x : Int32) : z_CT zm_X8_act d [.ref 0, .int w, .int act, .int x] SH (I, L, z_R b) 0 0 (z_ret (some (.int (f_X8_act I w act x))) ((m_X8_act I w act x), L, z_R b)) := by
  refine z_enter (by decide +kernel) (Nat.le_of_ble_eq_true rfl) ?_
  have hentry : PW zm_X8_act d 0 [(0, .ref 0), (1, .int w), (2, .int act), (3, .int x)] [] SH (I, L, z_R b) 0 0 (z_ret (some (.int (f_X8_act I w act x))) ((m_X8_act I w act x), L, z_R b)) := by
    refine p_aload_n (z_dec zd_X8_act 0 rfl) rfl 0 rfl (n := 1) rfl ?_
    refine q_getR (z_dec zd_X8_act 1 rfl) zf_X8_61 (i := 38) rfl rfl (n := 4) rfl ?_
    refine p_iload_n (z_dec zd_X8_act 2 rfl) rfl 1 rfl (n := 5) rfl ?_
    refine p_iload_n (z_dec zd_X8_act 3 rfl) rfl 2 rfl (n := 6) rfl ?_
    refine p_iload_n (z_dec zd_X8_act 4 rfl) rfl 3 rfl (n := 7) rfl ?_
    refine q_callV (As := [.int w, .int act, .int x]) (rest := []) (z_dec zd_X8_act 5 rfl) zk_X8_279 zv_X5_perform (c_X5_perform (d - 1) (by omega) b I L sz hsz hs50 hks w act x) rfl ⟨_, _, rfl⟩ rfl rfl (Nat.le_of_ble_eq_true rfl) (by omega) (n := 10) rfl ?_
    show PW zm_X8_act d 10 [(0, .ref 0), (1, .int w), (2, .int act), (3, .int x)] [.int (f_X5_perform I w act x)] SH ((m_X5_perform I w act x), L, z_R b) 0 0 _
    exact p_iret (z_dec zd_X8_act 6 rfl) rfl ⟨(by unfold f_X8_act; rfl), rfl, (z_3 (by unfold m_X8_act; rfl) rfl)⟩
  exact hentry
