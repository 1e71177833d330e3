/-- how many players there are, how long the law is -/
def yq_A (np sz : Nat) (I : Nat → Nat → Int32) : Prop := I 1 0 = nI np ∧ I 13 4 = nI sz
theorem yq_Ai {np sz : Nat} {I : Nat → Nat → Int32} (h : I 1 0 = nI np) (g : I 13 4 = nI sz) : yq_A np sz I := ⟨h, g⟩
theorem yq_Ao {np sz : Nat} {I : Nat → Nat → Int32} (h : yq_A np sz I) (b : Bool) (s k : Nat) (x y z : Int32) : yq_A np sz (m_X1_oddsOn b I s k x y z) := ⟨(z_ooO b I s k x y z 1 0 (by decide) (Or.inl (by decide))).trans h.1, (z_ooO b I s k x y z 13 4 (by decide) (Or.inr (by decide))).trans h.2⟩
def gw_X8_tomorrow_37 (b : Bool) (sz : Nat) (one : Int32) (q4 : Nat) : Nat → Nat → (Int32) → (Int32) → (Nat → Nat → Int32) → Int32 × Int32 × (Nat → Nat → Int32)
  | 0, t37, w2_37, w3_37, Iw37 => (w2_37, w3_37, Iw37)
  | r37 + 1, t37, w2_37, w3_37, Iw37 => if (f_X7_canHold Iw37 1 one (nI q4) (nI t37)) = 0 then gw_X8_tomorrow_37 b sz one q4 r37 (t37 + 1) w2_37 w3_37 Iw37 else if w3_37 ≤ (f_X1_oddsOn b Iw37 sz 1 one (nI q4) (nI t37)) then gw_X8_tomorrow_37 b sz one q4 r37 (t37 + 1) w2_37 w3_37 (m_X1_oddsOn b Iw37 sz 1 one (nI q4) (nI t37)) else gw_X8_tomorrow_37 b sz one q4 r37 (t37 + 1) ((100 * (nI q4)) + (nI t37)) (f_X1_oddsOn b Iw37 sz 1 one (nI q4) (nI t37)) (m_X1_oddsOn b Iw37 sz 1 one (nI q4) (nI t37))
theorem gi_gw_X8_tomorrow_37 {b : Bool} {sz : Nat} {one : Int32} {q4 : Nat} {np : Nat} : ∀ (r37 t37 : Nat) (w2_37 : Int32) (w3_37 : Int32) (Iw37 : (Nat → Nat → Int32)), yq_A np sz Iw37 → yq_A np sz (gw_X8_tomorrow_37 b sz one q4 r37 t37 w2_37 w3_37 Iw37).2.2
  | 0, t37, w2_37, w3_37, Iw37, h => h
  | r37 + 1, t37, w2_37, w3_37, Iw37, h => by
    unfold gw_X8_tomorrow_37
    (repeat' split) <;> first | exact h | exact gi_gw_X8_tomorrow_37 r37 (t37 + 1) _ _ _ (h) | exact gi_gw_X8_tomorrow_37 r37 (t37 + 1) _ _ _ (yq_Ao h _ _ _ _ _ _)
def gx_X8_tomorrow_22 (b : Bool) (np : Nat) (sz : Nat) (one : Int32) : Nat → Nat → (Int32) → (Int32) → (Nat → Nat → Int32) → Int32 × (Nat → Nat → Int32)
  | 0, t22, v2, v3, Iv => (v2, Iv)
  | r22 + 1, t22, v2, v3, Iv => gx_X8_tomorrow_22 b np sz one r22 (t22 + 1) ((gw_X8_tomorrow_37 b sz one t22 np 0 v2 v3 Iv).1) ((gw_X8_tomorrow_37 b sz one t22 np 0 v2 v3 Iv).2.1) ((gw_X8_tomorrow_37 b sz one t22 np 0 v2 v3 Iv).2.2)
def f_X8_tomorrow (b : Bool) (I : Nat → Nat → Int32) (np : Nat) (sz : Nat) (one : Int32) : Int32 := if (f_X7_has I 1 one) = 0 then (-1) else (gx_X8_tomorrow_22 b np sz one np 0 (-2) 13 I).1
def m_X8_tomorrow (b : Bool) (I : Nat → Nat → Int32) (np : Nat) (sz : Nat) (one : Int32) : Nat → Nat → Int32 := if (f_X7_has I 1 one) = 0 then I else (gx_X8_tomorrow_22 b np sz one np 0 (-2) 13 I).2
set_option maxHeartbeats 1000000 in
set_option maxRecDepth 100000 in
theorem c_X8_tomorrow (d : Nat) (hd : 4 ≤ d) (b : Bool) (I : Nat → Nat → Int32) (L : Nat → Nat → Int64) (np : Nat) (hnp : I 1 0 = nI np) (hn10 : np ≤ 10) (sz : Nat) (hsz : I 13 4 = nI sz) (hs121 : sz ≤ 121) (one : Int32) : z_CT zm_X8_tomorrow d [.ref 0, .int one] SH (I, L, z_R b) 0 0 (z_ret (some (.int (f_X8_tomorrow b I np sz one))) ((m_X8_tomorrow b I np sz one), L, z_R b)) := by
  refine z_enter (by decide +kernel) (Nat.le_of_ble_eq_true rfl) ?_
  have hentry : PW zm_X8_tomorrow d 0 [(0, .ref 0), (1, .int one)] [] SH (I, L, z_R b) 0 0 (z_ret (some (.int (f_X8_tomorrow b I np sz one))) ((m_X8_tomorrow b I np sz one), L, z_R b)) := by
    refine p_aload_n (z_dec zd_X8_tomorrow 0 rfl) rfl 0 rfl (n := 1) rfl ?_
    refine q_getR (z_dec zd_X8_tomorrow 1 rfl) zf_X8_10 (i := 1) rfl rfl (n := 4) rfl ?_
    refine p_iload_n (z_dec zd_X8_tomorrow 2 rfl) rfl 1 rfl (n := 5) rfl ?_
    refine q_callV (As := [.int one]) (rest := []) (z_dec zd_X8_tomorrow 3 rfl) zk_X8_133 zv_X7_has (c_X7_has (d - 1) (by omega) b I L 1 (z_Yd1 b) one) rfl ⟨_, _, rfl⟩ rfl rfl (Nat.le_of_ble_eq_true rfl) (by omega) (n := 8) rfl ?_
    show PW zm_X8_tomorrow d 8 [(0, .ref 0), (1, .int one)] [.int (f_X7_has I 1 one)] SH (I, L, z_R b) 0 0 _
    refine p_if_ne (z_dec zd_X8_tomorrow 4 rfl) (t := 13) (by decide) (n := 11) rfl (fun h8 => ?_) (fun h8 => ?_)
    · refine p_bipush (z_dec zd_X8_tomorrow 7 rfl) (v := (-2)) (by decide) (n := 15) rfl ?_
      refine p_istore_n (z_dec zd_X8_tomorrow 8 rfl) rfl (lv2 := [(2, .int (-2)), (0, .ref 0), (1, .int one)]) (by decide) rfl (n := 16) rfl ?_
      refine p_bipush (z_dec zd_X8_tomorrow 9 rfl) (v := 13) (by decide) (n := 18) rfl ?_
      refine p_istore_n (z_dec zd_X8_tomorrow 10 rfl) rfl (lv2 := [(3, .int 13), (2, .int (-2)), (0, .ref 0), (1, .int one)]) (by decide) rfl (n := 19) rfl ?_
      refine p_iconst (z_dec zd_X8_tomorrow 11 rfl) (v := 0) (by decide) (n := 20) rfl ?_
      refine p_istore (z_dec zd_X8_tomorrow 12 rfl) (lv2 := [(4, .int 0), (3, .int 13), (2, .int (-2)), (0, .ref 0), (1, .int one)]) (by decide) rfl (n := 22) rfl ?_
      have hL22 : ∀ (r22 t22 : Nat) (v2 : Int32) (v3 : Int32) (Iv : Nat → Nat → Int32), t22 + r22 = np → yq_A np sz Iv → PW zm_X8_tomorrow d 22 [(4, .int (nI t22)), (3, .int v3), (2, .int v2), (0, .ref 0), (1, .int one)] [] SH (Iv, L, z_R b) 0 0 (z_ret (some (.int (gx_X8_tomorrow_22 b np sz one r22 t22 v2 v3 Iv).1)) ((gx_X8_tomorrow_22 b np sz one r22 t22 v2 v3 Iv).2, L, z_R b)) := by
        intro r22
        induction r22 with
        | zero =>
          intro t22 v2 v3 Iv ht22 hlo
          refine p_iload (z_dec zd_X8_tomorrow 13 rfl) 0 rfl (n := 24) rfl ?_
          refine p_aload_n (z_dec zd_X8_tomorrow 14 rfl) rfl 3 rfl (n := 25) rfl ?_
          refine q_getR (z_dec zd_X8_tomorrow 15 rfl) zf_X8_10 (i := 1) rfl rfl (n := 28) rfl ?_
          refine q_getI (z_dec zd_X8_tomorrow 16 rfl) zf_X8_136 (by decide) rfl (v := (nI np)) hlo.1 (n := 31) rfl ?_
          refine p_icmp_ge (z_dec zd_X8_tomorrow 17 rfl) (t := 115) (by decide) (n := 34) rfl (fun h31 => ?_) (fun h31 => ?_)
          · refine p_iload_n (z_dec zd_X8_tomorrow 57 rfl) rfl 2 rfl (n := 116) rfl ?_
            exact p_iret (z_dec zd_X8_tomorrow 58 rfl) rfl ⟨rfl, rfl, (z_3 rfl rfl)⟩
          · exact absurd (z_nge (a := np) h31) (by omega)
        | succ r22 ih22 =>
          intro t22 v2 v3 Iv ht22 hlo
          refine p_iload (z_dec zd_X8_tomorrow 13 rfl) 0 rfl (n := 24) rfl ?_
          refine p_aload_n (z_dec zd_X8_tomorrow 14 rfl) rfl 3 rfl (n := 25) rfl ?_
          refine q_getR (z_dec zd_X8_tomorrow 15 rfl) zf_X8_10 (i := 1) rfl rfl (n := 28) rfl ?_
          refine q_getI (z_dec zd_X8_tomorrow 16 rfl) zf_X8_136 (by decide) rfl (v := (nI np)) hlo.1 (n := 31) rfl ?_
          refine p_icmp_ge (z_dec zd_X8_tomorrow 17 rfl) (t := 115) (by decide) (n := 34) rfl (fun h31 => ?_) (fun h31 => ?_)
          · exact absurd (z_ge (a := np) h31) (by omega)
          · have hx22 : t22 < np := by omega
            refine p_iconst (z_dec zd_X8_tomorrow 18 rfl) (v := 0) (by decide) (n := 35) rfl ?_
            refine p_istore (z_dec zd_X8_tomorrow 19 rfl) (lv2 := [(5, .int 0), (4, .int (nI t22)), (3, .int v3), (2, .int v2), (0, .ref 0), (1, .int one)]) (by decide) rfl (n := 37) rfl ?_
            have hL37 : ∀ (r37 t37 : Nat) (w2_37 : Int32) (w3_37 : Int32) (Iw37 : (Nat → Nat → Int32)), t37 + r37 = np → yq_A np sz Iw37 → PW zm_X8_tomorrow d 109 [(4, .int (nI t22)), (3, .int ((gw_X8_tomorrow_37 b sz one t22 r37 t37 w2_37 w3_37 Iw37).2.1)), (2, .int ((gw_X8_tomorrow_37 b sz one t22 r37 t37 w2_37 w3_37 Iw37).1)), (0, .ref 0), (1, .int one)] [] SH ((gw_X8_tomorrow_37 b sz one t22 r37 t37 w2_37 w3_37 Iw37).2.2, L, z_R b) 0 0 (z_ret (some (.int (gx_X8_tomorrow_22 b np sz one (r22 + 1) t22 v2 v3 Iv).1)) ((gx_X8_tomorrow_22 b np sz one (r22 + 1) t22 v2 v3 Iv).2, L, z_R b)) → PW zm_X8_tomorrow d 37 [(5, .int (nI t37)), (4, .int (nI t22)), (3, .int w3_37), (2, .int w2_37), (0, .ref 0), (1, .int one)] [] SH (Iw37, L, z_R b) 0 0 (z_ret (some (.int (gx_X8_tomorrow_22 b np sz one (r22 + 1) t22 v2 v3 Iv).1)) ((gx_X8_tomorrow_22 b np sz one (r22 + 1) t22 v2 v3 Iv).2, L, z_R b)) := by
              intro r37
              induction r37 with
              | zero =>
                intro t37 w2_37 w3_37 Iw37 ht37 hlo hk37
                refine p_iload (z_dec zd_X8_tomorrow 20 rfl) 0 rfl (n := 39) rfl ?_
                refine p_aload_n (z_dec zd_X8_tomorrow 21 rfl) rfl 4 rfl (n := 40) rfl ?_
                refine q_getR (z_dec zd_X8_tomorrow 22 rfl) zf_X8_10 (i := 1) rfl rfl (n := 43) rfl ?_
                refine q_getI (z_dec zd_X8_tomorrow 23 rfl) zf_X8_136 (by decide) rfl (v := (nI np)) hlo.1 (n := 46) rfl ?_
                refine p_icmp_ge (z_dec zd_X8_tomorrow 24 rfl) (t := 109) (by decide) (n := 49) rfl (fun h46 => ?_) (fun h46 => ?_)
                · refine z_sub (lv' := [(4, .int (nI t22)), (3, .int w3_37), (2, .int w2_37), (0, .ref 0), (1, .int one)]) [1, 2, 3, 4, 5] rfl ?_
                  rw [show (gw_X8_tomorrow_37 b sz one t22 0 t37 w2_37 w3_37 Iw37) = (w2_37, w3_37, Iw37) from by rfl] at hk37
                  exact hk37
                · exact absurd (z_nge (a := np) h46) (by omega)
              | succ r37 ih37 =>
                intro t37 w2_37 w3_37 Iw37 ht37 hlo hk37
                refine p_iload (z_dec zd_X8_tomorrow 20 rfl) 0 rfl (n := 39) rfl ?_
                refine p_aload_n (z_dec zd_X8_tomorrow 21 rfl) rfl 4 rfl (n := 40) rfl ?_
                refine q_getR (z_dec zd_X8_tomorrow 22 rfl) zf_X8_10 (i := 1) rfl rfl (n := 43) rfl ?_
                refine q_getI (z_dec zd_X8_tomorrow 23 rfl) zf_X8_136 (by decide) rfl (v := (nI np)) hlo.1 (n := 46) rfl ?_
                refine p_icmp_ge (z_dec zd_X8_tomorrow 24 rfl) (t := 109) (by decide) (n := 49) rfl (fun h46 => ?_) (fun h46 => ?_)
                · exact absurd (z_ge (a := np) h46) (by omega)
                · have hx37 : t37 < np := by omega
                  refine p_aload_n (z_dec zd_X8_tomorrow 25 rfl) rfl 4 rfl (n := 50) rfl ?_
                  refine q_getR (z_dec zd_X8_tomorrow 26 rfl) zf_X8_10 (i := 1) rfl rfl (n := 53) rfl ?_
                  refine p_iload_n (z_dec zd_X8_tomorrow 27 rfl) rfl 5 rfl (n := 54) rfl ?_
                  refine p_iload (z_dec zd_X8_tomorrow 28 rfl) 1 rfl (n := 56) rfl ?_
                  refine p_iload (z_dec zd_X8_tomorrow 29 rfl) 0 rfl (n := 58) rfl ?_
                  refine q_callV (As := [.int one, .int (nI t22), .int (nI t37)]) (rest := []) (z_dec zd_X8_tomorrow 30 rfl) zk_X8_181 zv_X7_canHold (c_X7_canHold (d - 1) (by omega) b Iw37 L 1 (z_Yd1 b) np hlo.1 hn10 one (nI t22) (nI t37)) rfl ⟨_, _, rfl⟩ rfl rfl (Nat.le_of_ble_eq_true rfl) (by omega) (n := 61) rfl ?_
                  show PW zm_X8_tomorrow d 61 [(5, .int (nI t37)), (4, .int (nI t22)), (3, .int w3_37), (2, .int w2_37), (0, .ref 0), (1, .int one)] [.int (f_X7_canHold Iw37 1 one (nI t22) (nI t37))] SH (Iw37, L, z_R b) 0 0 _
                  refine p_if_ne (z_dec zd_X8_tomorrow 31 rfl) (t := 67) (by decide) (n := 64) rfl (fun h61 => ?_) (fun h61 => ?_)
                  · refine p_aload_n (z_dec zd_X8_tomorrow 33 rfl) rfl 4 rfl (n := 68) rfl ?_
                    refine q_getR (z_dec zd_X8_tomorrow 34 rfl) zf_X8_26 (i := 13) rfl rfl (n := 71) rfl ?_
                    refine p_aload_n (z_dec zd_X8_tomorrow 35 rfl) rfl 4 rfl (n := 72) rfl ?_
                    refine q_getR (z_dec zd_X8_tomorrow 36 rfl) zf_X8_10 (i := 1) rfl rfl (n := 75) rfl ?_
                    refine p_iload_n (z_dec zd_X8_tomorrow 37 rfl) rfl 5 rfl (n := 76) rfl ?_
                    refine p_iload (z_dec zd_X8_tomorrow 38 rfl) 1 rfl (n := 78) rfl ?_
                    refine p_iload (z_dec zd_X8_tomorrow 39 rfl) 0 rfl (n := 80) rfl ?_
                    refine q_callV (As := [.ref 1, .int one, .int (nI t22), .int (nI t37)]) (rest := []) (z_dec zd_X8_tomorrow 40 rfl) zk_X8_126 zv_X1_oddsOn (c_X1_oddsOn (d - 1) (by omega) b Iw37 L sz hlo.2 hs121 1 (z_Yd1 b) one (nI t22) (nI t37) np hlo.1 hn10) rfl ⟨_, _, rfl⟩ rfl rfl (Nat.le_of_ble_eq_true rfl) (by omega) (n := 83) rfl ?_
                    show PW zm_X8_tomorrow d 83 [(5, .int (nI t37)), (4, .int (nI t22)), (3, .int w3_37), (2, .int w2_37), (0, .ref 0), (1, .int one)] [.int (f_X1_oddsOn b Iw37 sz 1 one (nI t22) (nI t37))] SH ((m_X1_oddsOn b Iw37 sz 1 one (nI t22) (nI t37)), L, z_R b) 0 0 _
                    have hP83 : yq_A np sz ((m_X1_oddsOn b Iw37 sz 1 one (nI t22) (nI t37))) := yq_Ao hlo _ _ _ _ _ _
                    refine p_istore (z_dec zd_X8_tomorrow 41 rfl) (lv2 := [(6, .int (f_X1_oddsOn b Iw37 sz 1 one (nI t22) (nI t37))), (5, .int (nI t37)), (4, .int (nI t22)), (3, .int w3_37), (2, .int w2_37), (0, .ref 0), (1, .int one)]) (by decide) rfl (n := 85) rfl ?_
                    refine p_iload (z_dec zd_X8_tomorrow 42 rfl) 0 rfl (n := 87) rfl ?_
                    refine p_iload_n (z_dec zd_X8_tomorrow 43 rfl) rfl 3 rfl (n := 88) rfl ?_
                    refine p_icmp_ge (z_dec zd_X8_tomorrow 44 rfl) (t := 103) (by decide) (n := 91) rfl (fun h88 => ?_) (fun h88 => ?_)
                    · refine p_iinc (z_dec zd_X8_tomorrow 53 rfl) 1 rfl (v := (nI (t37 + 1))) (nI_1 _) (lv2 := [(5, .int (nI (t37 + 1))), (6, .int (f_X1_oddsOn b Iw37 sz 1 one (nI t22) (nI t37))), (4, .int (nI t22)), (3, .int w3_37), (2, .int w2_37), (0, .ref 0), (1, .int one)]) (by decide) rfl (n := 106) rfl ?_
                      refine p_goto (z_dec zd_X8_tomorrow 54 rfl) (t := 37) (by decide) ?_
                      refine z_sub (lv' := [(5, .int (nI (t37 + 1))), (4, .int (nI t22)), (3, .int w3_37), (2, .int w2_37), (0, .ref 0), (1, .int one)]) [0, 2, 3, 4, 5, 6] rfl ?_
                      rw [show gw_X8_tomorrow_37 b sz one t22 (r37 + 1) t37 w2_37 w3_37 Iw37 = gw_X8_tomorrow_37 b sz one t22 r37 (t37 + 1) w2_37 w3_37 (m_X1_oddsOn b Iw37 sz 1 one (nI t22) (nI t37)) from by (conv => lhs; unfold gw_X8_tomorrow_37); rw [if_neg h61, if_pos h88]] at hk37
                      exact ih37 (t37 + 1) w2_37 w3_37 (m_X1_oddsOn b Iw37 sz 1 one (nI t22) (nI t37)) (by omega) hP83 hk37
                    · refine p_iload (z_dec zd_X8_tomorrow 45 rfl) 0 rfl (n := 93) rfl ?_
                      refine p_istore_n (z_dec zd_X8_tomorrow 46 rfl) rfl (lv2 := [(3, .int (f_X1_oddsOn b Iw37 sz 1 one (nI t22) (nI t37))), (6, .int (f_X1_oddsOn b Iw37 sz 1 one (nI t22) (nI t37))), (5, .int (nI t37)), (4, .int (nI t22)), (2, .int w2_37), (0, .ref 0), (1, .int one)]) (by decide) rfl (n := 94) rfl ?_
                      refine p_bipush (z_dec zd_X8_tomorrow 47 rfl) (v := 100) (by decide) (n := 96) rfl ?_
                      refine p_iload (z_dec zd_X8_tomorrow 48 rfl) 3 rfl (n := 98) rfl ?_
                      refine p_imul (z_dec zd_X8_tomorrow 49 rfl) (n := 99) rfl ?_
                      refine p_iload (z_dec zd_X8_tomorrow 50 rfl) 2 rfl (n := 101) rfl ?_
                      refine p_iadd (z_dec zd_X8_tomorrow 51 rfl) (n := 102) rfl ?_
                      refine p_istore_n (z_dec zd_X8_tomorrow 52 rfl) rfl (lv2 := [(2, .int ((100 * (nI t22)) + (nI t37))), (3, .int (f_X1_oddsOn b Iw37 sz 1 one (nI t22) (nI t37))), (6, .int (f_X1_oddsOn b Iw37 sz 1 one (nI t22) (nI t37))), (5, .int (nI t37)), (4, .int (nI t22)), (0, .ref 0), (1, .int one)]) (by decide) rfl (n := 103) rfl ?_
                      refine p_iinc (z_dec zd_X8_tomorrow 53 rfl) 3 rfl (v := (nI (t37 + 1))) (nI_1 _) (lv2 := [(5, .int (nI (t37 + 1))), (2, .int ((100 * (nI t22)) + (nI t37))), (3, .int (f_X1_oddsOn b Iw37 sz 1 one (nI t22) (nI t37))), (6, .int (f_X1_oddsOn b Iw37 sz 1 one (nI t22) (nI t37))), (4, .int (nI t22)), (0, .ref 0), (1, .int one)]) (by decide) rfl (n := 106) rfl ?_
                      refine p_goto (z_dec zd_X8_tomorrow 54 rfl) (t := 37) (by decide) ?_
                      refine z_sub (lv' := [(5, .int (nI (t37 + 1))), (4, .int (nI t22)), (3, .int (f_X1_oddsOn b Iw37 sz 1 one (nI t22) (nI t37))), (2, .int ((100 * (nI t22)) + (nI t37))), (0, .ref 0), (1, .int one)]) [0, 4, 2, 1, 5, 6] rfl ?_
                      rw [show gw_X8_tomorrow_37 b sz one t22 (r37 + 1) t37 w2_37 w3_37 Iw37 = gw_X8_tomorrow_37 b sz one t22 r37 (t37 + 1) ((100 * (nI t22)) + (nI t37)) (f_X1_oddsOn b Iw37 sz 1 one (nI t22) (nI t37)) (m_X1_oddsOn b Iw37 sz 1 one (nI t22) (nI t37)) from by (conv => lhs; unfold gw_X8_tomorrow_37); rw [if_neg h61, if_neg h88]] at hk37
                      exact ih37 (t37 + 1) ((100 * (nI t22)) + (nI t37)) (f_X1_oddsOn b Iw37 sz 1 one (nI t22) (nI t37)) (m_X1_oddsOn b Iw37 sz 1 one (nI t22) (nI t37)) (by omega) hP83 hk37
                  · refine p_goto (z_dec zd_X8_tomorrow 32 rfl) (t := 103) (by decide) ?_
                    refine p_iinc (z_dec zd_X8_tomorrow 53 rfl) 0 rfl (v := (nI (t37 + 1))) (nI_1 _) (lv2 := [(5, .int (nI (t37 + 1))), (4, .int (nI t22)), (3, .int w3_37), (2, .int w2_37), (0, .ref 0), (1, .int one)]) (by decide) rfl (n := 106) rfl ?_
                    refine p_goto (z_dec zd_X8_tomorrow 54 rfl) (t := 37) (by decide) ?_
                    rw [show gw_X8_tomorrow_37 b sz one t22 (r37 + 1) t37 w2_37 w3_37 Iw37 = gw_X8_tomorrow_37 b sz one t22 r37 (t37 + 1) w2_37 w3_37 Iw37 from by (conv => lhs; unfold gw_X8_tomorrow_37); rw [if_pos h61]] at hk37
                    exact ih37 (t37 + 1) w2_37 w3_37 Iw37 (by omega) hlo hk37
            refine hL37 np 0 v2 v3 Iv (by omega) hlo ?_
            refine p_iinc (z_dec zd_X8_tomorrow 55 rfl) 0 rfl (v := (nI (t22 + 1))) (nI_1 _) (lv2 := [(4, .int (nI (t22 + 1))), (3, .int ((gw_X8_tomorrow_37 b sz one t22 np 0 v2 v3 Iv).2.1)), (2, .int ((gw_X8_tomorrow_37 b sz one t22 np 0 v2 v3 Iv).1)), (0, .ref 0), (1, .int one)]) (by decide) rfl (n := 112) rfl ?_
            refine p_goto (z_dec zd_X8_tomorrow 56 rfl) (t := 22) (by decide) ?_
            rw [show gx_X8_tomorrow_22 b np sz one (r22 + 1) t22 v2 v3 Iv = gx_X8_tomorrow_22 b np sz one r22 (t22 + 1) ((gw_X8_tomorrow_37 b sz one t22 np 0 v2 v3 Iv).1) ((gw_X8_tomorrow_37 b sz one t22 np 0 v2 v3 Iv).2.1) ((gw_X8_tomorrow_37 b sz one t22 np 0 v2 v3 Iv).2.2) from by rfl]
            exact ih22 (t22 + 1) ((gw_X8_tomorrow_37 b sz one t22 np 0 v2 v3 Iv).1) ((gw_X8_tomorrow_37 b sz one t22 np 0 v2 v3 Iv).2.1) ((gw_X8_tomorrow_37 b sz one t22 np 0 v2 v3 Iv).2.2) (by omega) (gi_gw_X8_tomorrow_37 _ _ _ _ _ hlo)
      exact (by have q := (hL22 np 0 (-2) 13 I (by omega) (yq_Ai hnp hsz)); (rw [show f_X8_tomorrow b I np sz one = _ from by unfold f_X8_tomorrow; rw [if_neg h8]]); (rw [show m_X8_tomorrow b I np sz one = _ from by unfold m_X8_tomorrow; rw [if_neg h8]]); exact q)
    · refine p_iconst (z_dec zd_X8_tomorrow 5 rfl) (v := (-1)) (by decide) (n := 12) rfl ?_
      exact p_iret (z_dec zd_X8_tomorrow 6 rfl) rfl ⟨(by unfold f_X8_tomorrow; rw [if_pos h8]), rfl, (z_3 (by unfold m_X8_tomorrow; rw [if_pos h8]) rfl)⟩
  exact hentry
